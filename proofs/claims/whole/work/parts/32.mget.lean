/-! what the reference answers of the best setting -/
noncomputable section
/-- the searches for a bar's line, a line's page -/
def fndP (f : Int → Int) (x k : Int) : Prop := (0 ≤ k ∧ k < 24) ∧ x < f (k + 1) ∧ (∀ m, 0 ≤ m → m < k → f (m + 1) ≤ x) ∧ (∀ m, 0 ≤ m → m ≤ k → 0 ≤ f (m + 1) ∧ f (m + 1) ≤ 24)
theorem fnd_line {σ : Sg} (h : okS σ) {s0 : List (Int × Bool)} {lm : Int} {lf : Int → Int} {pm : Int} {pf : Int → Int} (hb : isBest σ s0) (hr : rowsOK (fun b => b ∈ endL s0) (fun b => b ∈ endP s0) (sNb σ) lm lf pm pf) {b : Int} (h1 : 0 ≤ b) (h2 : b < sNb σ) : fndP lf b (cnt (fun b => b ∈ endL s0) b) ∧ cnt (fun b => b ∈ endL s0) b < lm ∧ (0 ≤ lf (cnt (fun b => b ∈ endL s0) b) ∧ lf (cnt (fun b => b ∈ endL s0) b) ≤ b ∧ b < lf (cnt (fun b => b ∈ endL s0) b + 1) ∧ lf (cnt (fun b => b ∈ endL s0) b + 1) ≤ sNb σ) := by
  have hn := h.1
  have hl := (isBest_last hb (by omega)).1
  have F : ∀ b, 0 ≤ b → b < sNb σ → b ∈ endL s0 → lf (cnt (fun b => b ∈ endL s0) b + 1) = b + 1 := fun b b1 b2 => (hr.2.2.2 b b1 b2).1
  have f0 := (hr.2.2.1 (by omega)).1
  have R := row_bar (P := fun b => b ∈ endL s0) (by omega) f0 F hl h1 h2
  have c := cntB (fun b => b ∈ endL s0) h1
  have A := row_at (P := fun b => b ∈ endL s0) (by omega) f0 F R.1.1 R.1.2
  refine ⟨⟨by omega, R.2.2, fun m m1 m2 => ?_, fun m m1 m2 => ?_⟩, by rw [hr.1]; exact R.1.2, A.1, R.2.1, R.2.2, A.2.2.1⟩
  · have B := row_at (P := fun b => b ∈ endL s0) (k := m) (by omega) f0 F m1 (by omega)
    rcases Int.lt_or_le b (lf (m + 1)) with q | q
    · have := (cnt_le (fun b => b ∈ endL s0) (a := b) (b := lf (m + 1) - 1) h1 (by omega)).1
      omega
    · exact q
  · have B := row_at (P := fun b => b ∈ endL s0) (k := m) (by omega) f0 F m1 (by omega)
    omega
theorem fnd_page {σ : Sg} (h : okS σ) {s0 : List (Int × Bool)} {lm : Int} {lf : Int → Int} {pm : Int} {pf : Int → Int} (hb : isBest σ s0) (hr : rowsOK (fun b => b ∈ endL s0) (fun b => b ∈ endP s0) (sNb σ) lm lf pm pf) (h0 : 0 < sNb σ) {k : Int} (h1 : 0 ≤ k) (h2 : k < lm) : fndP pf k (cnt (fun b => b ∈ endP s0) (lf (k + 1) - 1)) := by
  have hn := h.1
  have hl := isBest_last hb h0
  have F : ∀ b, 0 ≤ b → b < sNb σ → b ∈ endL s0 → lf (cnt (fun b => b ∈ endL s0) b + 1) = b + 1 := fun b b1 b2 => (hr.2.2.2 b b1 b2).1
  have f0 := hr.2.2.1 h0
  have A := row_at (P := fun b => b ∈ endL s0) (k := k) (by omega) f0.1 F h1 (by rw [← hr.1]; exact h2)
  obtain ⟨a1, a2, a3, a4, a5, a6⟩ := A
  have c := cntB (fun b => b ∈ endP s0) (a := lf (k + 1) - 1) (by omega)
  have G : ∀ m, 0 ≤ m → m ≤ cnt (fun b => b ∈ endP s0) (lf (k + 1) - 1) → ∃ b, 0 ≤ b ∧ b < sNb σ ∧ b ∈ endP s0 ∧ cnt (fun b => b ∈ endP s0) b = m ∧ pf (m + 1) = cnt (fun b => b ∈ endL s0) (b + 1) := by
    intro m m1 m2
    have c1 := (cnt_le (fun b => b ∈ endP s0) (a := lf (k + 1) - 1) (b := sNb σ - 1) (by omega) (by omega)).1
    have c2 := cnt_lt (P := fun b => b ∈ endP s0) (a := sNb σ - 1) (b := sNb σ) (by omega) (by omega) hl.2
    obtain ⟨b, w1, w2, w3, w4⟩ := cnt_ex' (P := fun b => b ∈ endP s0) (n := sNb σ) (k := m) (by omega) m1 (by omega)
    have w3 : b ∈ endP s0 := w3
    refine ⟨b, w1, w2, w3, w4, ?_⟩
    have := (hr.2.2.2 b w1 w2).2 w3
    rw [w4] at this
    exact this
  refine ⟨by omega, ?_, fun m m1 m2 => ?_, fun m m1 m2 => ?_⟩
  · obtain ⟨b, w1, w2, w3, w4, w5⟩ := G _ c.1 (Int.le_refl _)
    rw [w5]
    have hb2 : lf (k + 1) - 1 ≤ b := by
      rcases Int.lt_or_le b (lf (k + 1) - 1) with q | q
      · have := cnt_lt (P := fun b => b ∈ endP s0) w1 q w3; omega
      · exact q
    have e := cnt_t (P := fun b => b ∈ endL s0) (k := lf (k + 1) - 1) (by omega) a4
    have := (cnt_le (fun b => b ∈ endL s0) (a := lf (k + 1) - 1 + 1) (b := b + 1) (by omega) (by omega)).1
    omega
  · obtain ⟨b, w1, w2, w3, w4, w5⟩ := G m m1 (by omega)
    rw [w5]
    have hb2 : b < lf (k + 1) - 1 := by
      rcases Int.lt_or_le b (lf (k + 1) - 1) with q | q
      · exact q
      · have := (cnt_le (fun b => b ∈ endP s0) (a := lf (k + 1) - 1) (b := b) (by omega) q).1; omega
    have := (cnt_le (fun b => b ∈ endL s0) (a := b + 1) (b := lf (k + 1) - 1) (by omega) (by omega)).1
    omega
  · obtain ⟨b, w1, w2, w3, w4, w5⟩ := G m m1 m2
    rw [w5]
    have := cntB (fun b => b ∈ endL s0) (a := b + 1) (by omega)
    omega
/-- the pages' rows of the reference -/
theorem mpage {σ : Sg} (h : okS σ) {s0 : List (Int × Bool)} {lm : Int} {lf : Int → Int} {pm : Int} {pf : Int → Int} (hb : isBest σ s0) (hr : rowsOK (fun b => b ∈ endL s0) (fun b => b ∈ endP s0) (sNb σ) lm lf pm pf) (h0 : 0 < sNb σ) {k : Int} (h1 : 0 ≤ k) (h2 : k < pm) : (0 ≤ pf k ∧ pf k < pf (k + 1) ∧ pf (k + 1) ≤ lm ∧ lm ≤ 24) ∧ (1 ≤ lf (pf (k + 1)) ∧ lf (pf (k + 1)) ≤ sNb σ) ∧ (pf (k + 1) = lm ↔ k = pm - 1) ∧ (0 < pf k ↔ 0 < k) := by
  have hn := h.1
  have hl := isBest_last hb h0
  have f0 := hr.2.2.1 h0
  have G : ∀ m, 0 ≤ m → m < pm → ∃ b, 0 ≤ b ∧ b < sNb σ ∧ b ∈ endP s0 ∧ cnt (fun b => b ∈ endP s0) b = m ∧ pf (m + 1) = cnt (fun b => b ∈ endL s0) b + 1 ∧ lf (cnt (fun b => b ∈ endL s0) b + 1) = b + 1 := by
    intro m m1 m2
    obtain ⟨b, w1, w2, w3, w4⟩ := cnt_ex' (P := fun b => b ∈ endP s0) (n := sNb σ) (k := m) (by omega) m1 (by rw [← hr.2.1]; exact m2)
    have w3 : b ∈ endP s0 := w3
    refine ⟨b, w1, w2, w3, w4, ?_, (hr.2.2.2 b w1 w2).1 (endP_sub w3)⟩
    have := (hr.2.2.2 b w1 w2).2 w3
    rw [w4, cnt_t (P := fun b => b ∈ endL s0) w1 (endP_sub w3)] at this
    exact this
  obtain ⟨b, w1, w2, w3, w4, w5, w6⟩ := G k h1 h2
  have cb := cntB (fun b => b ∈ endL s0) w1
  have cl : lm = cnt (fun b => b ∈ endL s0) (sNb σ) := hr.1
  have cm := cntB (fun b => b ∈ endL s0) (a := sNb σ) (by omega)
  have c1 := cnt_lt (P := fun b => b ∈ endL s0) (a := b) (b := sNb σ) w1 w2 (endP_sub w3)
  have hlast : pf (k + 1) = lm ↔ k = pm - 1 := by
    have e1 : pm = cnt (fun b => b ∈ endP s0) (sNb σ - 1) + 1 := by
      have := cnt_t (P := fun b => b ∈ endP s0) (k := sNb σ - 1) (by omega) hl.2
      rw [show sNb σ - 1 + 1 = sNb σ by omega] at this
      rw [hr.2.1, this]
    have e2 : lm = cnt (fun b => b ∈ endL s0) (sNb σ - 1) + 1 := by
      have := cnt_t (P := fun b => b ∈ endL s0) (k := sNb σ - 1) (by omega) hl.1
      rw [show sNb σ - 1 + 1 = sNb σ by omega] at this
      rw [hr.1, this]
    constructor
    · intro q
      by_cases z : b = sNb σ - 1
      · rw [z] at w4; omega
      · have := cnt_lt (P := fun b => b ∈ endL s0) (a := b) (b := sNb σ - 1) w1 (by omega) (endP_sub w3); omega
    · intro q
      by_cases z : b = sNb σ - 1
      · rw [z] at w5; omega
      · have := cnt_lt (P := fun b => b ∈ endP s0) (a := b) (b := sNb σ - 1) w1 (by omega) w3; omega
  have hk0 : 0 ≤ pf k ∧ pf k < pf (k + 1) ∧ (0 < pf k ↔ 0 < k) := by
    by_cases z : k = 0
    · rw [z, f0.2]
      rw [z] at w5
      exact ⟨Int.le_refl _, by omega, Iff.rfl⟩
    · obtain ⟨a, v1, v2, v3, v4, v5, v6⟩ := G (k - 1) (by omega) (by omega)
      rw [show k - 1 + 1 = k by omega] at v5
      have hab : a < b := by
        rcases Int.lt_or_le a b with q | q
        · exact q
        · have := (cnt_le (fun b => b ∈ endP s0) w1 q).1; omega
      have := cnt_lt (P := fun b => b ∈ endL s0) (a := a) (b := b) v1 hab (endP_sub v3)
      have := cntB (fun b => b ∈ endL s0) v1
      omega
  refine ⟨⟨hk0.1, hk0.2.1, by omega, by omega⟩, by rw [w5, w6]; omega, hlast, hk0.2.2⟩
theorem pp_eq {σ : Sg} (h : okS σ) {s0 : List (Int × Bool)} {lm : Int} {lf : Int → Int} {pm : Int} {pf : Int → Int} (hb : isBest σ s0) (hr : rowsOK (fun b => b ∈ endL s0) (fun b => b ∈ endP s0) (sNb σ) lm lf pm pf) (h0 : 0 < sNb σ) {k : Int} (h1 : 0 ≤ k) (h2 : k < pm) : pcM σ lf lm (pf k) (pf (k + 1)) = ppR σ pm lf pf k := by
  have m := mpage h hb hr h0 h1 h2
  unfold pcM ppR
  by_cases q : k < pm - 1
  · rw [if_pos q, if_neg (fun z => by have := m.2.2.1.mp z; omega)]
  · rw [if_neg q, if_pos (m.2.2.1.mpr (by omega))]
    by_cases z : 0 < k ∧ pf (k + 1) - pf k = 1
    · rw [if_pos z, if_pos ⟨z.2, m.2.2.2.mpr z.1⟩]
    · rw [if_neg z, if_neg (fun w => z ⟨m.2.2.2.mp w.2, w.1⟩)]
theorem mOK_ex {σ : Sg} {be lm : Int} {lf : Int → Int} {pm : Int} {pf : Int → Int} (h : mOK σ be lm lf pm pf) (hb : be ≠ 4611686018427387904) : ∃ s0, isBest σ s0 ∧ be = rkL σ s0 0 0 ∧ rowsOK (fun b => b ∈ endL s0) (fun b => b ∈ endP s0) (sNb σ) lm lf pm pf := (h.resolve_left (fun w => hb w.1)).2
theorem rows_lm {σ : Sg} (h : okS σ) {LE PE : Int → Prop} {lm : Int} {lf : Int → Int} {pm : Int} {pf : Int → Int} (hr : rowsOK LE PE (sNb σ) lm lf pm pf) : (0 ≤ lm ∧ lm ≤ sNb σ) ∧ 0 ≤ pm ∧ pm ≤ sNb σ := by
  have hn := h.1
  have a := cntB LE (a := sNb σ) (by omega)
  have b := cntB PE (a := sNb σ) (by omega)
  rw [hr.1, hr.2.1]
  exact ⟨a, b⟩
/-- what a search that was made tells -/
def mAns (σ : Sg) (be lm : Int) (lf : Int → Int) (pm : Int) (pf pl lb : Int → Int) : Prop := be ≠ 4611686018427387904 → ∃ s0, isBest σ s0 ∧ be = rkL σ s0 0 0 ∧ rowsOK (fun b => b ∈ endL s0) (fun b => b ∈ endP s0) (sNb σ) lm lf pm pf ∧ pl = (fun k => cnt (fun b => b ∈ endP s0) (lf (k + 1) - 1)) ∧ lb = (fun b => cnt (fun b => b ∈ endL s0) b)
def wldM (σ : Sg) (a m0 : Int) (r : Int64) : Prop := ((0 ≤ a ∧ a < sNb σ) ∧ 0 ≤ m0 ∧ m0 ≤ 2 ∧ ∃ be lm lf pm pf, mOK (upMk σ a m0 true) be lm lf pm pf ∧ r = jL (iteP (be ≠ 4611686018427387904) (be / 1024) (-1))) ∨ (¬ ((0 ≤ a ∧ a < sNb σ) ∧ 0 ≤ m0 ∧ m0 ≤ 2) ∧ r = jL (-1))
theorem updB_back (F : Int → Bool) (k : Int) (v : Bool) : updB (updB F k v) k (F k) = F := by
  funext j
  unfold updB
  by_cases q : j = k
  · rw [if_pos q, q]
  · rw [if_neg q, if_neg q]
/-! how wide a bar is set -/
def PA (σ : Sg) (d k : Int) : Int := if d < 0 then pre (sWs σ) k - pre (sLs σ) k else pre (sWs σ) k
def PP (σ : Sg) (d k : Int) : Int := if d < 0 then sWs σ k - sLs σ k else sWs σ k
theorem PA_s (σ : Sg) (d : Int) {k : Int} (h : 0 ≤ k) : PA σ d (k + 1) = PA σ d k + PP σ d k := by
  unfold PA PP
  rw [pre_s _ h, pre_s _ h]
  split <;> omega
theorem PA_B {σ : Sg} (hs : okS σ) (d : Int) {a b : Int} (h0 : 0 ≤ a) (h1 : a ≤ b) (h2 : b ≤ sNb σ) : 0 ≤ PA σ d b - PA σ d a ∧ PA σ d b - PA σ d a ≤ 400 * (b - a) := by
  have p := preB hs h0 h1 h2
  unfold PA
  split <;> omega
theorem wide_eq {σ : Sg} (hs : okS σ) {a b k : Int} (h : 0 ≤ a ∧ a ≤ b ∧ b < sNb σ ∧ a ≤ k ∧ k ≤ b) (ho : ¬ sWd σ < tot (sLs σ) a b) {y : Int} (hy : y = if dd σ a b < 0 then -dd σ a b else dd σ a b) : (if dd σ a b < 0 then sWs σ k - (y * (PA σ (dd σ a b) (k + 1) - PA σ (dd σ a b) a) / (PA σ (dd σ a b) (b + 1) - PA σ (dd σ a b) a) - y * ((PA σ (dd σ a b) (k + 1) - PA σ (dd σ a b) a) - PP σ (dd σ a b) k) / (PA σ (dd σ a b) (b + 1) - PA σ (dd σ a b) a)) else sWs σ k + (y * (PA σ (dd σ a b) (k + 1) - PA σ (dd σ a b) a) / (PA σ (dd σ a b) (b + 1) - PA σ (dd σ a b) a) - y * ((PA σ (dd σ a b) (k + 1) - PA σ (dd σ a b) a) - PP σ (dd σ a b) k) / (PA σ (dd σ a b) (b + 1) - PA σ (dd σ a b) a))) = ahd σ a b (k + 1) - ahd σ a b k := by
  have e1 := pre_s (sWs σ) (k := k) (by omega)
  have e2 := pre_s (sLs σ) (k := k) (by omega)
  have e3 := PA_s σ (dd σ a b) (k := k) (by omega)
  rw [show PA σ (dd σ a b) (k + 1) - PA σ (dd σ a b) a - PP σ (dd σ a b) k = PA σ (dd σ a b) k - PA σ (dd σ a b) a by omega]
  unfold ahd
  rw [if_neg ho, if_neg ho]
  by_cases q : dd σ a b < 0
  · rw [if_pos q] at hy ⊢
    rw [if_neg (by omega), if_neg (by omega), hy]
    have x1 : PA σ (dd σ a b) (k + 1) - PA σ (dd σ a b) a = (pre (sWs σ) (k + 1) - pre (sWs σ) a) - (pre (sLs σ) (k + 1) - pre (sLs σ) a) := by unfold PA; rw [if_pos q, if_pos q]; omega
    have x2 : PA σ (dd σ a b) k - PA σ (dd σ a b) a = (pre (sWs σ) k - pre (sWs σ) a) - (pre (sLs σ) k - pre (sLs σ) a) := by unfold PA; rw [if_pos q, if_pos q]; omega
    have x3 : PA σ (dd σ a b) (b + 1) - PA σ (dd σ a b) a = tot (sWs σ) a b - tot (sLs σ) a b := by unfold PA tot; rw [if_pos q, if_pos q]; omega
    rw [x1, x2, x3]
    omega
  · rw [if_neg q] at hy ⊢
    rw [if_pos (by omega), if_pos (by omega), hy]
    have x1 : PA σ (dd σ a b) (k + 1) - PA σ (dd σ a b) a = pre (sWs σ) (k + 1) - pre (sWs σ) a := by unfold PA; rw [if_neg q, if_neg q]
    have x2 : PA σ (dd σ a b) k - PA σ (dd σ a b) a = pre (sWs σ) k - pre (sWs σ) a := by unfold PA; rw [if_neg q, if_neg q]
    have x3 : PA σ (dd σ a b) (b + 1) - PA σ (dd σ a b) a = tot (sWs σ) a b := by unfold PA tot; rw [if_neg q, if_neg q]
    rw [x1, x2, x3]
    omega
theorem ahd_0 (σ : Sg) (a b : Int) : ahd σ a b a = 0 := by
  unfold ahd
  split
  · omega
  · split
    · rw [show pre (sWs σ) a - pre (sWs σ) a = 0 by omega, Int.mul_zero, Int.zero_ediv]; rfl
    · rw [show pre (sWs σ) a - pre (sWs σ) a = 0 by omega, show (0 : Int) - (pre (sLs σ) a - pre (sLs σ) a) = 0 by omega, Int.mul_zero, Int.zero_ediv]; rfl
theorem mOK_B {σ : Sg} (h : okS σ) {be lm : Int} {lf : Int → Int} {pm : Int} {pf : Int → Int} (H : mOK σ be lm lf pm pf) : 0 ≤ be ∧ be ≤ 4611686018427387904 := by
  have hn := h.1
  rcases H with ⟨w, -⟩ | ⟨-, s, w1, w2, -⟩
  · omega
  · have := (okL_B h s 0 0 (by omega) (by omega) (by omega) w1.1).1; omega
theorem wld_eq {σ : Sg} {k : Int} : (sNb σ, sWd σ, sPp σ, sCt σ, sCs σ, sLs σ, sWs σ, updB (updB (sM σ) k true) k (sM σ k)) = σ := by
  rw [updB_back]; rfl
end
