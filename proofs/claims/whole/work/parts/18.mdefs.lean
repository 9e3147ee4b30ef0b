/-! the reference's state -/
noncomputable section
def plc (b o n : Int) (P : Prop) : Int := ((b * 9 + o) * 25 + n) * 2 + iteP P 1 0
theorem plc_t {P : Prop} (h : P) (b o n : Int) : plc b o n P = ((b * 9 + o) * 25 + n) * 2 + 1 := by unfold plc; rw [iteP_t h]
theorem plc_f {P : Prop} (h : ¬ P) (b o n : Int) : plc b o n P = ((b * 9 + o) * 25 + n) * 2 + 0 := by unfold plc; rw [iteP_f h]
theorem plc_B (b o n : Int) (P : Prop) : ((b * 9 + o) * 25 + n) * 2 ≤ plc b o n P ∧ plc b o n P ≤ ((b * 9 + o) * 25 + n) * 2 + 1 := by
  by_cases h : P
  · rw [plc_t h]; omega
  · rw [plc_f h]; omega
theorem iteP_c {P Q : Prop} (h : P ↔ Q) (a b : Int) : iteP P a b = iteP Q a b := by rw [propext h]
def rowsOK (LE PE : Int → Prop) (n lm : Int) (lf : Int → Int) (pm : Int) (pf : Int → Int) : Prop := lm = cnt LE n ∧ pm = cnt PE n ∧ (0 < n → lf 0 = 0 ∧ pf 0 = 0) ∧ ∀ b, 0 ≤ b → b < n → (LE b → lf (cnt LE b + 1) = b + 1) ∧ (PE b → pf (cnt PE b + 1) = cnt LE (b + 1))
def mOK (σ : Sg) (be lm : Int) (lf : Int → Int) (pm : Int) (pf : Int → Int) : Prop := (be = 4611686018427387904 ∧ ∀ t, okL σ t 0 0 → ¬ Tc σ t.length) ∨ (be ≠ 4611686018427387904 ∧ ∃ s, isBest σ s ∧ be = rkL σ s 0 0 ∧ rowsOK (fun b => b ∈ endL s) (fun b => b ∈ endP s) (sNb σ) lm lf pm pf)
abbrev MU : Type := Sg × (Int → Int) × Prop × Int × Int × (Int → Int) × Int × (Int → Int) × (Int → Int) × (Int → Int) × (Int → Int)
abbrev mRs (u : MU) : Int → Int := u.2.1
abbrev mKn (u : MU) : Prop := u.2.2.1
abbrev mBe (u : MU) : Int := u.2.2.2.1
abbrev mLm (u : MU) : Int := u.2.2.2.2.1
abbrev mLf (u : MU) : Int → Int := u.2.2.2.2.2.1
abbrev mPm (u : MU) : Int := u.2.2.2.2.2.2.1
abbrev mPf (u : MU) : Int → Int := u.2.2.2.2.2.2.2.1
abbrev mNw (u : MU) : Int → Int := u.2.2.2.2.2.2.2.2.1
abbrev mTh (u : MU) : Int → Int := u.2.2.2.2.2.2.2.2.2.1
abbrev mPg (u : MU) : Int → Int := u.2.2.2.2.2.2.2.2.2.2
abbrev wMU (r : Nat → Nat) (cI cJ cZ : ClassId) (u : MU) : va_W := wMo r cI cJ cZ (sWd u.1) (sPp u.1) (sNb u.1) (sLs u.1) (sWs u.1) (sM u.1) (sCs u.1) (sCt u.1) (mRs u) (mKn u) (mBe u) (mLm u) (mLf u) (mPm u) (mPf u) (mNw u) (mTh u) (mPg u)
def mInv (u : MU) : Prop := okS u.1 ∧ (mKn u → mOK u.1 (mBe u) (mLm u) (mLf u) (mPm u) (mPf u))
theorem szR_n {σ : Sg} {w v : Int} (h : ¬ ((w = 0 ∧ 100 ≤ v ∧ v ≤ 5000) ∨ (w = 1 ∧ 1 ≤ v ∧ v ≤ 8))) : -2 = szR σ w v := by unfold szR; rw [if_neg (by omega), if_neg (by omega)]
theorem szS_n {σ : Sg} {w v : Int} (h : ¬ ((w = 0 ∧ 100 ≤ v ∧ v ≤ 5000) ∨ (w = 1 ∧ 1 ≤ v ∧ v ≤ 8))) : σ = szS σ w v := by unfold szS; rw [if_neg (by omega), if_neg (by omega)]
theorem szR_y {σ : Sg} {w v x : Int} (h : (w = 0 ∧ 100 ≤ v ∧ v ≤ 5000) ∨ (w = 1 ∧ 1 ≤ v ∧ v ≤ 8)) (hx : x = if w = 0 then sWd σ else sPp σ) : x = szR σ w v := by
  unfold szR
  rcases h with h | h
  · rw [hx, if_pos h.1, if_pos h]
  · rw [hx, if_neg (by omega), if_neg (by omega), if_pos h]
theorem szS_y {σ : Sg} {w v x y : Int} (h : (w = 0 ∧ 100 ≤ v ∧ v ≤ 5000) ∨ (w = 1 ∧ 1 ≤ v ∧ v ≤ 8)) (hx : x = if w = 0 then v else sWd σ) (hy : y = if w = 1 then v else sPp σ) : (sNb σ, x, y, sCt σ, sCs σ, sLs σ, sWs σ, sM σ) = szS σ w v := by
  unfold szS
  rcases h with h | h
  · rw [hx, hy, if_pos h.1, if_neg (by omega), if_pos h]; rfl
  · rw [hx, hy, if_neg (by omega), if_pos h.1, if_neg (by omega), if_pos h]; rfl
theorem szS_ok {σ : Sg} (hs : okS σ) {w v x y : Int} (h : (w = 0 ∧ 100 ≤ v ∧ v ≤ 5000) ∨ (w = 1 ∧ 1 ≤ v ∧ v ≤ 8)) (hx : x = if w = 0 then v else sWd σ) (hy : y = if w = 1 then v else sPp σ) : okS (sNb σ, x, y, sCt σ, sCs σ, sLs σ, sWs σ, sM σ) := by
  rw [szS_y h hx hy]
  unfold szS
  rcases h with h | h
  · rw [if_pos h]; exact okS_wd hs h.2
  · rw [if_neg (by omega), if_pos h]; exact okS_pp hs h.2
end
