/-! what the calls on the best setting answer -/
noncomputable section
def lineR (σ : Sg) (ex : Prop) (ln : Int) (fb pl : Int → Int) (k w : Int) : Int := iteP ex (if 0 ≤ k ∧ k ≤ ln - 1 then (if w = 0 then fb k else if w = 1 then fb (k + 1) - 1 else if w = 2 then pl k else if w = 3 then 1000000 + dd σ (fb k) (fb (k + 1) - 1) else -2) else -1) (-3)
theorem lineR_n {σ : Sg} {ex : Prop} {ln : Int} {fb pl : Int → Int} {k w : Int} (h : ¬ ex) : -3 = lineR σ ex ln fb pl k w := (iteP_f h _ _).symm
theorem lineR_m {σ : Sg} {ex : Prop} {ln : Int} {fb pl : Int → Int} {k w : Int} (h : ex) (h1 : ¬ (0 ≤ k ∧ k ≤ ln - 1)) : -1 = lineR σ ex ln fb pl k w := by unfold lineR; rw [iteP_t h, if_neg h1]
theorem lineR_0 {σ : Sg} {ex : Prop} {ln : Int} {fb pl : Int → Int} {k w : Int} (h : ex) (h1 : 0 ≤ k ∧ k ≤ ln - 1) (h2 : w = 0) : fb k = lineR σ ex ln fb pl k w := by unfold lineR; rw [iteP_t h, if_pos h1, if_pos h2]
theorem lineR_1 {σ : Sg} {ex : Prop} {ln : Int} {fb pl : Int → Int} {k w : Int} (h : ex) (h1 : 0 ≤ k ∧ k ≤ ln - 1) (h2 : w = 1) : fb (k + 1) - 1 = lineR σ ex ln fb pl k w := by unfold lineR; rw [iteP_t h, if_pos h1, if_neg (by omega), if_pos h2]
theorem lineR_2 {σ : Sg} {ex : Prop} {ln : Int} {fb pl : Int → Int} {k w : Int} (h : ex) (h1 : 0 ≤ k ∧ k ≤ ln - 1) (h2 : w = 2) : pl k = lineR σ ex ln fb pl k w := by unfold lineR; rw [iteP_t h, if_pos h1, if_neg (by omega), if_neg (by omega), if_pos h2]
theorem lineR_3 {σ : Sg} {ex : Prop} {ln : Int} {fb pl : Int → Int} {k w : Int} (h : ex) (h1 : 0 ≤ k ∧ k ≤ ln - 1) (h2 : w = 3) : 1000000 + dd σ (fb k) (fb (k + 1) - 1) = lineR σ ex ln fb pl k w := by unfold lineR; rw [iteP_t h, if_pos h1, if_neg (by omega), if_neg (by omega), if_neg (by omega), if_pos h2]
theorem lineR_x {σ : Sg} {ex : Prop} {ln : Int} {fb pl : Int → Int} {k w : Int} (h : ex) (h1 : 0 ≤ k ∧ k ≤ ln - 1) (h2 : w < 0 ∨ 3 < w) : -2 = lineR σ ex ln fb pl k w := by unfold lineR; rw [iteP_t h, if_pos h1, if_neg (by omega), if_neg (by omega), if_neg (by omega), if_neg (by omega)]
def ppR (σ : Sg) (pg : Int) (fb fl : Int → Int) (k : Int) : Int := if k < pg - 1 then trn σ (fb (fl (k + 1)) - 1) else if 0 < k ∧ fl (k + 1) - fl k = 1 then sCs σ 2 else 0
def pageR (σ : Sg) (ex : Prop) (pg : Int) (fb fl : Int → Int) (k w : Int) : Int := iteP ex (if 0 ≤ k ∧ k ≤ pg - 1 then (if w = 0 then fl k else if w = 1 then fl (k + 1) - fl k else if w = 2 then ppR σ pg fb fl k else -2) else -1) (-3)
theorem pageR_n {σ : Sg} {ex : Prop} {pg : Int} {fb fl : Int → Int} {k w : Int} (h : ¬ ex) : -3 = pageR σ ex pg fb fl k w := (iteP_f h _ _).symm
theorem pageR_m {σ : Sg} {ex : Prop} {pg : Int} {fb fl : Int → Int} {k w : Int} (h : ex) (h1 : ¬ (0 ≤ k ∧ k ≤ pg - 1)) : -1 = pageR σ ex pg fb fl k w := by unfold pageR; rw [iteP_t h, if_neg h1]
theorem pageR_0 {σ : Sg} {ex : Prop} {pg : Int} {fb fl : Int → Int} {k w : Int} (h : ex) (h1 : 0 ≤ k ∧ k ≤ pg - 1) (h2 : w = 0) : fl k = pageR σ ex pg fb fl k w := by unfold pageR; rw [iteP_t h, if_pos h1, if_pos h2]
theorem pageR_1 {σ : Sg} {ex : Prop} {pg : Int} {fb fl : Int → Int} {k w : Int} (h : ex) (h1 : 0 ≤ k ∧ k ≤ pg - 1) (h2 : w = 1) : fl (k + 1) - fl k = pageR σ ex pg fb fl k w := by unfold pageR; rw [iteP_t h, if_pos h1, if_neg (by omega), if_pos h2]
theorem pageR_2 {σ : Sg} {ex : Prop} {pg : Int} {fb fl : Int → Int} {k w : Int} (h : ex) (h1 : 0 ≤ k ∧ k ≤ pg - 1) (h2 : w = 2) : ppR σ pg fb fl k = pageR σ ex pg fb fl k w := by unfold pageR; rw [iteP_t h, if_pos h1, if_neg (by omega), if_neg (by omega), if_pos h2]
theorem pageR_x {σ : Sg} {ex : Prop} {pg : Int} {fb fl : Int → Int} {k w : Int} (h : ex) (h1 : 0 ≤ k ∧ k ≤ pg - 1) (h2 : w < 0 ∨ 2 < w) : -2 = pageR σ ex pg fb fl k w := by unfold pageR; rw [iteP_t h, if_pos h1, if_neg (by omega), if_neg (by omega), if_neg (by omega)]
def setR (σ : Sg) (ex : Prop) (fb lb : Int → Int) (b w : Int) : Int := if 0 ≤ b ∧ b < sNb σ then (if 0 ≤ w ∧ w ≤ 2 then iteP ex (if w = 0 then lb b else if w = 2 then ahd σ (fb (lb b)) (fb (lb b + 1) - 1) b else ahd σ (fb (lb b)) (fb (lb b + 1) - 1) (b + 1) - ahd σ (fb (lb b)) (fb (lb b + 1) - 1) b) (-3) else -2) else -1
theorem setR_b {σ : Sg} {ex : Prop} {fb lb : Int → Int} {b w : Int} (h : ¬ (0 ≤ b ∧ b < sNb σ)) : -1 = setR σ ex fb lb b w := (if_neg h).symm
theorem setR_w {σ : Sg} {ex : Prop} {fb lb : Int → Int} {b w : Int} (h : 0 ≤ b ∧ b < sNb σ) (h1 : ¬ (0 ≤ w ∧ w ≤ 2)) : -2 = setR σ ex fb lb b w := by unfold setR; rw [if_pos h, if_neg h1]
theorem setR_n {σ : Sg} {ex : Prop} {fb lb : Int → Int} {b w : Int} (h : 0 ≤ b ∧ b < sNb σ) (h1 : 0 ≤ w ∧ w ≤ 2) (h2 : ¬ ex) : -3 = setR σ ex fb lb b w := by unfold setR; rw [if_pos h, if_pos h1, iteP_f h2]
theorem setR_0 {σ : Sg} {ex : Prop} {fb lb : Int → Int} {b w : Int} (h : 0 ≤ b ∧ b < sNb σ) (h1 : 0 ≤ w ∧ w ≤ 2) (h2 : ex) (h3 : w = 0) : lb b = setR σ ex fb lb b w := by unfold setR; rw [if_pos h, if_pos h1, iteP_t h2, if_pos h3]
theorem setR_2 {σ : Sg} {ex : Prop} {fb lb : Int → Int} {b w : Int} (h : 0 ≤ b ∧ b < sNb σ) (h1 : 0 ≤ w ∧ w ≤ 2) (h2 : ex) (h3 : w = 2) : ahd σ (fb (lb b)) (fb (lb b + 1) - 1) b = setR σ ex fb lb b w := by unfold setR; rw [if_pos h, if_pos h1, iteP_t h2, if_neg (by omega), if_pos h3]
theorem setR_1 {σ : Sg} {ex : Prop} {fb lb : Int → Int} {b w : Int} (h : 0 ≤ b ∧ b < sNb σ) (h1 : 0 ≤ w ∧ w ≤ 2) (h2 : ex) (h3 : ¬ w = 0) (h4 : ¬ w = 2) : ahd σ (fb (lb b)) (fb (lb b + 1) - 1) (b + 1) - ahd σ (fb (lb b)) (fb (lb b + 1) - 1) b = setR σ ex fb lb b w := by unfold setR; rw [if_pos h, if_pos h1, iteP_t h2, if_neg h3, if_neg h4]
def endR (σ : Sg) (ex : Prop) (fb lb : Int → Int) (b : Int) : Prop := (0 ≤ b ∧ b < sNb σ) ∧ ex ∧ fb (lb b + 1) - 1 = b
def badR (σ : Sg) (a b : Int) : Int := if ((0 ≤ a ∧ a < sNb σ) ∧ 0 ≤ b ∧ b < sNb σ) ∧ a ≤ b then lpr σ a b else -1
def wldP (σ : Sg) (a m0 : Int) (r : Int64) : Prop := ((0 ≤ a ∧ a < sNb σ) ∧ 0 ≤ m0 ∧ m0 ≤ 2 ∧ ∃ R Z, Bst (Cmp (upMk σ a m0 true) (Tc (upMk σ a m0 true)) 0 0) R Z ∧ r = jL (if R = 9223372036854775807 then -1 else R / 1024)) ∨ (¬ ((0 ≤ a ∧ a < sNb σ) ∧ 0 ≤ m0 ∧ m0 ≤ 2) ∧ r = jL (-1))
theorem okP_back {σ : Sg} {la wa : Int → Int} {mk : Nat → Int32} (h : okP σ la wa mk) {a m0 : Int} {u v : Int32} (h0 : (0 ≤ a ∧ a < 24) ∧ 0 ≤ m0 ∧ m0 < 3) (hu : ∀ i : Nat, i < 24 → bt u i = if i = a.toNat then true else bt (mk m0.toNat) i) (hv : ∀ i : Nat, i < 24 → bt v i = if i = a.toNat then sM σ (3 * a + m0) else bt (upd mk m0.toNat u m0.toNat) i) : okP σ la wa (upd (upd mk m0.toNat u) m0.toNat v) := by
  refine ⟨h.1, h.2.1, fun m b h1 h2 => ?_⟩
  have hb := h.2.2 m b h1 h2
  by_cases q : m = m0.toNat
  · rw [show upd (upd mk m0.toNat u) m0.toNat v m = v from if_pos q, hv b h2]
    by_cases w : b = a.toNat
    · rw [if_pos w, show 3 * (b : Int) + (m : Int) = 3 * a + m0 by omega]
    · rw [if_neg w, show upd mk m0.toNat u m0.toNat = u from if_pos rfl, hu b h2, if_neg w, ← hb, q]
  · rw [show upd (upd mk m0.toNat u) m0.toNat v m = mk m from (if_neg q).trans (if_neg q)]
    exact hb
theorem page_lo {LE PE : Int → Prop} {n ln pg : Int} {fb fl pl lb : Int → Int} (h : setOK LE PE n ln pg fb fl pl lb) (hn : 0 ≤ n) (hs : ∀ b, PE b → LE b) {k : Int} (h1 : 0 ≤ k) (h2 : k ≤ pg) : 0 ≤ fl k ∧ fl k ≤ n := by
  by_cases q : k = 0
  · rw [q, h.2.2.2.1]; omega
  · have := page_at h hn hs (k := k - 1) (by omega) (by omega)
    rw [show k - 1 + 1 = k by omega] at this
    omega
end
