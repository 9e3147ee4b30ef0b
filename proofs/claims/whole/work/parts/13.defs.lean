/-! what calls do to the state, what they answer; the first object's whole state -/
noncomputable section
def upBar (σ : Sg) (x y : Int) : Sg := (sNb σ + 1, sWd σ, sPp σ, sCt σ, sCs σ, updI (sLs σ) (sNb σ) x, updI (sWs σ) (sNb σ) y, sM σ)
def upChg (σ : Sg) (a x y : Int) : Sg := (sNb σ, sWd σ, sPp σ, sCt σ, sCs σ, updI (sLs σ) a x, updI (sWs σ) a y, sM σ)
def upMk (σ : Sg) (a m0 : Int) (on : Bool) : Sg := (sNb σ, sWd σ, sPp σ, sCt σ, sCs σ, sLs σ, sWs σ, updB (sM σ) (3 * a + m0) on)
def upCost (σ : Sg) (k v : Int) : Sg := (sNb σ, sWd σ, sPp σ, sCt σ, updI (sCs σ) k v, sLs σ, sWs σ, sM σ)
def upCt (σ : Sg) (n : Int) : Sg := (sNb σ, sWd σ, sPp σ, n, sCs σ, sLs σ, sWs σ, sM σ)
def upWd (σ : Sg) (v : Int) : Sg := (sNb σ, v, sPp σ, sCt σ, sCs σ, sLs σ, sWs σ, sM σ)
def upPp (σ : Sg) (v : Int) : Sg := (sNb σ, sWd σ, v, sCt σ, sCs σ, sLs σ, sWs σ, sM σ)
def barS (σ : Sg) (x y : Int) : Sg := if 1 ≤ x ∧ x ≤ y ∧ y ≤ 400 then (if sNb σ < 24 then upBar σ x y else σ) else σ
def barR (σ : Sg) (x y : Int) : Int := if 1 ≤ x ∧ x ≤ y ∧ y ≤ 400 then (if sNb σ < 24 then sNb σ else -4) else -2
def chgS (σ : Sg) (a x y : Int) : Sg := if 0 ≤ a ∧ a < sNb σ then (if 1 ≤ x ∧ x ≤ y ∧ y ≤ 400 then upChg σ a x y else σ) else σ
def chgR (σ : Sg) (a x y : Int) : Int := if 0 ≤ a ∧ a < sNb σ then (if 1 ≤ x ∧ x ≤ y ∧ y ≤ 400 then 1 else -2) else -1
def mrkS (σ : Sg) (a m0 : Int) (on : Bool) : Sg := if 0 ≤ a ∧ a < sNb σ then (if 0 ≤ m0 ∧ m0 ≤ 2 then upMk σ a m0 on else σ) else σ
def mrkR (σ : Sg) (a m0 : Int) : Int := if 0 ≤ a ∧ a < sNb σ then (if 0 ≤ m0 ∧ m0 ≤ 2 then (if sM σ (3 * a + m0) = true then 1 else 0) else -2) else -1
def cosS (σ : Sg) (k v : Int) : Sg := if (0 ≤ k ∧ k ≤ 4) ∧ (0 ≤ v ∧ v ≤ 1000000) then upCost σ k v else σ
def cosR (σ : Sg) (k v : Int) : Int := if (0 ≤ k ∧ k ≤ 4) ∧ (0 ≤ v ∧ v ≤ 1000000) then sCs σ k else -2
def ctS (σ : Sg) (n : Int) : Sg := if 0 ≤ n ∧ n ≤ 24 then upCt σ n else σ
def ctR (σ : Sg) (n : Int) : Int := if 0 ≤ n ∧ n ≤ 24 then sCt σ else -2
def szS (σ : Sg) (w v : Int) : Sg := if w = 0 ∧ (100 ≤ v ∧ v ≤ 5000) then upWd σ v else if w = 1 ∧ (1 ≤ v ∧ v ≤ 8) then upPp σ v else σ
def szR (σ : Sg) (w v : Int) : Int := if w = 0 ∧ (100 ≤ v ∧ v ≤ 5000) then sWd σ else if w = 1 ∧ (1 ≤ v ∧ v ≤ 8) then sPp σ else -2
theorem okS_bar {σ : Sg} (h : okS σ) {x y : Int} (h1 : 1 ≤ x ∧ x ≤ y ∧ y ≤ 400) (h2 : sNb σ < 24) : okS (upBar σ x y) := by
  obtain ⟨a, b, c, d, e, f⟩ := h
  refine ⟨?_, b, c, d, e, ?_⟩
  · show 0 ≤ sNb σ + 1 ∧ sNb σ + 1 ≤ 24; omega
  · intro k k1 k2
    have k2 : k < sNb σ + 1 := k2
    show 1 ≤ updI (sLs σ) (sNb σ) x k ∧ updI (sLs σ) (sNb σ) x k ≤ updI (sWs σ) (sNb σ) y k ∧ updI (sWs σ) (sNb σ) y k ≤ 400
    by_cases q : k = sNb σ
    · rw [q, updI_s, updI_s]; exact h1
    · rw [updI_n q, updI_n q]; exact f k k1 (by omega)
theorem okS_chg {σ : Sg} (h : okS σ) {a0 x y : Int} (h1 : 1 ≤ x ∧ x ≤ y ∧ y ≤ 400) : okS (upChg σ a0 x y) := by
  obtain ⟨a, b, c, d, e, f⟩ := h
  refine ⟨a, b, c, d, e, ?_⟩
  intro k k1 k2
  have k2 : k < sNb σ := k2
  show 1 ≤ updI (sLs σ) a0 x k ∧ updI (sLs σ) a0 x k ≤ updI (sWs σ) a0 y k ∧ updI (sWs σ) a0 y k ≤ 400
  by_cases q : k = a0
  · rw [q, updI_s, updI_s]; exact h1
  · rw [updI_n q, updI_n q]; exact f k k1 k2
theorem okS_mk {σ : Sg} (h : okS σ) (a m0 : Int) (on : Bool) : okS (upMk σ a m0 on) := h
theorem okS_cost {σ : Sg} (h : okS σ) {k v : Int} (h1 : 0 ≤ v ∧ v ≤ 1000000) : okS (upCost σ k v) := by
  obtain ⟨a, b, c, d, e, f⟩ := h
  refine ⟨a, b, c, d, ?_, f⟩
  intro j k1 k2
  show 0 ≤ updI (sCs σ) k v j ∧ updI (sCs σ) k v j ≤ 1000000
  by_cases q : j = k
  · rw [q, updI_s]; exact h1
  · rw [updI_n q]; exact e j k1 k2
theorem okS_ct {σ : Sg} (h : okS σ) {n : Int} (h1 : 0 ≤ n ∧ n ≤ 24) : okS (upCt σ n) := by
  obtain ⟨a, b, c, d, e, f⟩ := h
  exact ⟨a, b, c, h1, e, f⟩
theorem okS_wd {σ : Sg} (h : okS σ) {n : Int} (h1 : 100 ≤ n ∧ n ≤ 5000) : okS (upWd σ n) := by
  obtain ⟨a, b, c, d, e, f⟩ := h
  exact ⟨a, h1, c, d, e, f⟩
theorem okS_pp {σ : Sg} (h : okS σ) {n : Int} (h1 : 1 ≤ n ∧ n ≤ 8) : okS (upPp σ n) := by
  obtain ⟨a, b, c, d, e, f⟩ := h
  exact ⟨a, b, h1, d, e, f⟩
theorem pre_upd {f : Int → Int} {a x : Int} (h0 : 0 ≤ a) : ∀ n : Nat, pre (updI f a x) (a + 1 + n) = pre f (a + 1 + n) + (x - f a) := by
  intro n
  induction n with
  | zero =>
    simp only [Int.natCast_zero, Int.add_zero]
    rw [pre_s _ h0, pre_s _ h0, updI_s, pre_c (g := f) (fun j h1 h2 => updI_n (by omega))]
    omega
  | succ n ih =>
    rw [show a + 1 + ((n + 1 : Nat) : Int) = (a + 1 + n) + 1 by omega, pre_s _ (by omega), pre_s _ (by omega), ih, updI_n (by omega)]
    omega
theorem okP_bar {σ : Sg} {la wa : Int → Int} {mk : Nat → Int32} (h : okP σ la wa mk) {x y : Int} (h1 : 1 ≤ x ∧ x ≤ y ∧ y ≤ 400) (h2 : sNb σ < 24) : okP (upBar σ x y) (updI la (sNb σ + 1) (la (sNb σ) + x)) (updI wa (sNb σ + 1) (wa (sNb σ) + y)) mk := by
  have hn := h.1.1
  refine ⟨okS_bar h.1 h1 h2, fun k k1 k2 => ?_, h.2.2⟩
  have k2 : k ≤ sNb σ + 1 := k2
  show updI la (sNb σ + 1) (la (sNb σ) + x) k = pre (updI (sLs σ) (sNb σ) x) k ∧ updI wa (sNb σ + 1) (wa (sNb σ) + y) k = pre (updI (sWs σ) (sNb σ) y) k
  have hb := h.2.1 (sNb σ) (by omega) (by omega)
  by_cases q : k = sNb σ + 1
  · rw [q, updI_s, updI_s, pre_s _ (by omega), pre_s _ (by omega), updI_s, updI_s, pre_c (g := sLs σ) (fun j h1 h2 => updI_n (by omega)), pre_c (g := sWs σ) (fun j h1 h2 => updI_n (by omega)), hb.1, hb.2]
    exact ⟨rfl, rfl⟩
  · rw [updI_n q, updI_n q, pre_c (g := sLs σ) (fun j h1 h2 => updI_n (by omega)), pre_c (g := sWs σ) (fun j h1 h2 => updI_n (by omega))]
    exact h.2.1 k k1 (by omega)
theorem okP_chg {σ : Sg} {la wa la1 wa1 : Int → Int} {mk : Nat → Int32} (h : okP σ la wa mk) {a x y : Int} (h0 : 0 ≤ a ∧ a < sNb σ) (h1 : 1 ≤ x ∧ x ≤ y ∧ y ≤ 400) (hu : ∀ k, 0 ≤ k → k ≤ sNb σ → (la1 k = if k ≤ a then la k else la k + (x - tot (sLs σ) a a)) ∧ (wa1 k = if k ≤ a then wa k else wa k + (y - tot (sWs σ) a a))) : okP (upChg σ a x y) la1 wa1 mk := by
  refine ⟨okS_chg h.1 h1, fun k k1 k2 => ?_, h.2.2⟩
  have k2 : k ≤ sNb σ := k2
  show la1 k = pre (updI (sLs σ) a x) k ∧ wa1 k = pre (updI (sWs σ) a y) k
  obtain ⟨u1, u2⟩ := hu k k1 k2
  obtain ⟨v1, v2⟩ := h.2.1 k k1 k2
  by_cases q : k ≤ a
  · rw [u1, u2, if_pos q, if_pos q, pre_c (g := sLs σ) (fun j h1 h2 => updI_n (by omega)), pre_c (g := sWs σ) (fun j h1 h2 => updI_n (by omega))]
    exact ⟨v1, v2⟩
  · have e1 := pre_upd (f := sLs σ) (x := x) h0.1 (k - a - 1).toNat
    have e2 := pre_upd (f := sWs σ) (x := y) h0.1 (k - a - 1).toNat
    rw [show a + 1 + (((k - a - 1).toNat : Nat) : Int) = k by omega] at e1 e2
    have t1 : tot (sLs σ) a a = sLs σ a := by unfold tot; rw [pre_s _ h0.1]; omega
    have t2 : tot (sWs σ) a a = sWs σ a := by unfold tot; rw [pre_s _ h0.1]; omega
    rw [u1, u2, if_neg q, if_neg q, e1, e2, t1, t2, v1, v2]
    exact ⟨rfl, rfl⟩
theorem okP_mk {σ : Sg} {la wa : Int → Int} {mk : Nat → Int32} (h : okP σ la wa mk) {a m0 : Int} {on : Bool} {u : Int32} (h0 : (0 ≤ a ∧ a < 24) ∧ 0 ≤ m0 ∧ m0 < 3) (hu : ∀ i : Nat, i < 24 → bt u i = if i = a.toNat then on else bt (mk m0.toNat) i) : okP (upMk σ a m0 on) la wa (upd mk m0.toNat u) := by
  refine ⟨h.1, h.2.1, fun m b h1 h2 => ?_⟩
  show bt (upd mk m0.toNat u m) b = updB (sM σ) (3 * a + m0) on (3 * (b : Int) + (m : Int))
  have hb := h.2.2 m b h1 h2
  by_cases q : m = m0.toNat
  · rw [show upd mk m0.toNat u m = u from if_pos q, hu b h2]
    by_cases w : b = a.toNat
    · rw [if_pos w, show 3 * (b : Int) + (m : Int) = 3 * a + m0 by omega, updB_s]
    · rw [if_neg w, updB_n (by omega), ← hb, q]
  · rw [show upd mk m0.toNat u m = mk m from if_neg q, updB_n (by omega), hb]
theorem okP_same {σ σ' : Sg} {la wa : Int → Int} {mk : Nat → Int32} (h : okP σ la wa mk) (h1 : okS σ') (e1 : sNb σ' = sNb σ) (e2 : sLs σ' = sLs σ) (e3 : sWs σ' = sWs σ) (e4 : sM σ' = sM σ) : okP σ' la wa mk := by
  refine ⟨h1, ?_, ?_⟩
  · rw [e1, e2, e3]; exact h.2.1
  · rw [e4]; exact h.2.2
abbrev CU : Type := Sg × (Int → Int) × (Int → Int) × (Nat → Int32) × (Int → Int) × (Int → Int) × (Int → Int) × (Int → Int) × Int × Int × Prop × Int × Int × Int × (Int → Int) × (Int → Int) × (Int → Int) × (Int → Int) × Prop
abbrev cLa (u : CU) : Int → Int := u.2.1
abbrev cWa (u : CU) : Int → Int := u.2.2.1
abbrev cMk (u : CU) : Nat → Int32 := u.2.2.2.1
abbrev cLp (u : CU) : Int → Int := u.2.2.2.2.1
abbrev cTp (u : CU) : Int → Int := u.2.2.2.2.2.1
abbrev cRk (u : CU) : Int → Int := u.2.2.2.2.2.2.1
abbrev cOd (u : CU) : Int → Int := u.2.2.2.2.2.2.2.1
abbrev cFr (u : CU) : Int := u.2.2.2.2.2.2.2.2.1
abbrev cFo (u : CU) : Int := u.2.2.2.2.2.2.2.2.2.1
abbrev cEx (u : CU) : Prop := u.2.2.2.2.2.2.2.2.2.2.1
abbrev cTo (u : CU) : Int := u.2.2.2.2.2.2.2.2.2.2.2.1
abbrev cLn (u : CU) : Int := u.2.2.2.2.2.2.2.2.2.2.2.2.1
abbrev cPg (u : CU) : Int := u.2.2.2.2.2.2.2.2.2.2.2.2.2.1
abbrev cFb (u : CU) : Int → Int := u.2.2.2.2.2.2.2.2.2.2.2.2.2.2.1
abbrev cFl (u : CU) : Int → Int := u.2.2.2.2.2.2.2.2.2.2.2.2.2.2.2.1
abbrev cPl (u : CU) : Int → Int := u.2.2.2.2.2.2.2.2.2.2.2.2.2.2.2.2.1
abbrev cLb (u : CU) : Int → Int := u.2.2.2.2.2.2.2.2.2.2.2.2.2.2.2.2.2.1
abbrev cKn (u : CU) : Prop := u.2.2.2.2.2.2.2.2.2.2.2.2.2.2.2.2.2.2
abbrev wCU (q : Nat → Nat) (cI cJ : ClassId) (u : CU) : va_W := wPc q cI (sNb u.1) (sWd u.1) (sPp u.1) (sCt u.1) (sCs u.1) (cMk u) (cLa u) (cWa u) ++ wSe q cJ (cLp u) (cTp u) (cRk u) (cOd u) (cFr u) (cFo u) ++ wSt q cI (cEx u) (cTo u) (cLn u) (cPg u) (cFb u) (cFl u) (cPl u) (cLb u) ++ wBl q (cKn u)
def cInv (u : CU) : Prop := okP u.1 (cLa u) (cWa u) (cMk u) ∧ clsI u.1 (cKn u) (cEx u) (cTo u) (cLn u) (cPg u) (cFb u) (cFl u) (cPl u) (cLb u)
/-! the best setting, said by its rows of lines -/
def isBest (σ : Sg) (s : List (Int × Bool)) : Prop := okL σ s 0 0 ∧ Tc σ s.length ∧ ∀ t, okL σ t 0 0 → Tc σ t.length → rkL σ s 0 0 < rkL σ t 0 0 ∨ (rkL σ s 0 0 = rkL σ t 0 0 ∧ odL s ≤ odL t)
def bstS (σ : Sg) (ex : Prop) (to ln pg : Int) (fb fl pl lb : Int → Int) : Prop := (¬ ex ∧ to = -1 ∧ ∀ t, okL σ t 0 0 → ¬ Tc σ t.length) ∨ (ex ∧ ∃ s, isBest σ s ∧ to = rkL σ s 0 0 / 1024 ∧ setOK (fun b => b ∈ endL s) (fun b => b ∈ endP s) (sNb σ) ln pg fb fl pl lb)
theorem setOK_congr {LE PE LE' PE' : Int → Prop} {n ln pg : Int} {fb fl pl lb : Int → Int} (h : setOK LE PE n ln pg fb fl pl lb) (hn : 0 ≤ n) (e1 : ∀ b, 0 ≤ b → b < n → (LE b ↔ LE' b)) (e2 : ∀ b, 0 ≤ b → b < n → (PE b ↔ PE' b)) : setOK LE' PE' n ln pg fb fl pl lb := by
  have c1 : ∀ b, b ≤ n → cnt LE b = cnt LE' b := fun b hb => cnt_c (fun j h1 h2 => e1 j h1 (by omega))
  have c2 : ∀ b, b ≤ n → cnt PE b = cnt PE' b := fun b hb => cnt_c (fun j h1 h2 => e2 j h1 (by omega))
  obtain ⟨h1, h2, h3, h4, h5⟩ := h
  refine ⟨by rw [← c1 n (by omega)]; exact h1, by rw [← c2 n (by omega)]; exact h2, h3, h4, fun b k1 k2 => ?_⟩
  obtain ⟨w1, w2, w3⟩ := h5 b k1 k2
  rw [← c1 b (by omega), ← c2 b (by omega), ← c1 (b + 1) (by omega)]
  exact ⟨w1, fun w => w2 ((e1 b k1 k2).mpr w), fun w => w3 ((e2 b k1 k2).mpr w)⟩
theorem bstS_of {σ : Sg} (h : okS σ) {ex : Prop} {to ln pg : Int} {fb fl pl lb : Int → Int} (H : bstOK σ ex to ln pg fb fl pl lb) : bstS σ ex to ln pg fb fl pl lb := by
  have hn := h.1
  obtain ⟨R, Z, B, he, ht, hs⟩ := H
  rcases B with ⟨w1, w2⟩ | ⟨w1, ⟨s, k1, k2, k3, k4⟩, w3⟩
  · refine Or.inl ⟨fun w => he.mp w w1, by rw [ht, if_pos w1], fun t t1 t2 => w2 _ _ ⟨t, t1, t2, rfl, rfl⟩⟩
  · refine Or.inr ⟨he.mpr w1, s, ⟨k1, k2, fun t t1 t2 => ?_⟩, by rw [ht, if_neg w1, k3], ?_⟩
    · rw [← k3, ← k4]; exact w3 _ _ ⟨t, t1, t2, rfl, rfl⟩
    · have hb := fun (b : Int) (h1 : 0 ≤ b) (h2 : b < sNb σ) => od_bits h (by omega) (by omega) k1 h1 (by omega : b < 24)
      rw [k4] at hs
      exact setOK_congr (hs w1) (by omega) (fun b h1 h2 => (hb b h1 h2).1) (fun b h1 h2 => (hb b h1 h2).2)
/-- where a bar lies in the rows -/
theorem row_bar {P : Int → Prop} {n : Int} {F : Int → Int} (hn : 0 ≤ n) (F0 : F 0 = 0) (hF : ∀ b, 0 ≤ b → b < n → P b → F (cnt P b + 1) = b + 1) (hl : P (n - 1)) {b : Int} (h1 : 0 ≤ b) (h2 : b < n) : (0 ≤ cnt P b ∧ cnt P b < cnt P n) ∧ F (cnt P b) ≤ b ∧ b < F (cnt P b + 1) := by
  have c0 := cntB P h1
  have c1 := cnt_le P (a := b) (b := n - 1) h1 (by omega)
  have c2 := cnt_lt (P := P) (a := n - 1) (b := n) (by omega) (by omega) hl
  have hk : cnt P b < cnt P n := by omega
  obtain ⟨r1, r2, r3, r4, r5, r6⟩ := row_at hn F0 hF c0.1 hk
  refine ⟨⟨c0.1, hk⟩, ?_, ?_⟩
  · rcases Int.lt_or_le b (F (cnt P b)) with q | q
    · by_cases z : cnt P b = 0
      · rw [z, F0] at q; omega
      · obtain ⟨s1, s2, s3, s4, s5, s6⟩ := row_at hn F0 hF (k := cnt P b - 1) (by omega) (by omega)
        rw [show cnt P b - 1 + 1 = cnt P b by omega] at s2 s3 s4 s5
        have := (cnt_le P (a := b) (b := F (cnt P b) - 1) h1 (by omega)).1
        omega
    · exact q
  · rcases Int.lt_or_le b (F (cnt P b + 1)) with q | q
    · exact q
    · have := cnt_lt (P := P) (a := F (cnt P b + 1) - 1) (b := b) (by omega) (by omega) r4
      omega
theorem setOK_F {LE PE : Int → Prop} {n ln pg : Int} {fb fl pl lb : Int → Int} (h : setOK LE PE n ln pg fb fl pl lb) : ∀ b, 0 ≤ b → b < n → LE b → fb (cnt LE b + 1) = b + 1 := fun b h1 h2 w => ((h.2.2.2.2 b h1 h2).2.1 w).1
/-- the pages' rows -/
theorem page_at {LE PE : Int → Prop} {n ln pg : Int} {fb fl pl lb : Int → Int} (h : setOK LE PE n ln pg fb fl pl lb) (hn : 0 ≤ n) (hs : ∀ b, PE b → LE b) {k : Int} (h1 : 0 ≤ k) (h2 : k < pg) : 1 ≤ fl (k + 1) ∧ fl (k + 1) ≤ n ∧ 1 ≤ fb (fl (k + 1)) ∧ fb (fl (k + 1)) ≤ n := by
  obtain ⟨b, w1, w2, w3, w4⟩ := cnt_ex' hn h1 (by rw [← h.2.1]; exact h2)
  obtain ⟨u1, u2, u3⟩ := h.2.2.2.2 b w1 w2
  have e := u3 w3
  rw [w4] at e
  have c1 := cnt_t (P := LE) w1 (hs b w3)
  have c2 := cntB LE w1
  have e2 := (u2 (hs b w3)).1
  rw [e, c1, e2]
  omega
theorem isBest_last {σ : Sg} {s : List (Int × Bool)} (h : isBest σ s) (hn : 0 < sNb σ) : (sNb σ - 1) ∈ endL s ∧ (sNb σ - 1) ∈ endP s := okL_last h.1 (by omega) hn
end
