/-! the reference's search as a whole -/
noncomputable section
theorem Mn_ex {S : Int → Prop} (h : ∀ x, S x → 0 ≤ x ∧ x < 4611686018427387904) : Mn S (mnOf S) := by
  have : ∃ r, Mn S r := by
    by_cases q : ∃ x, S x
    · obtain ⟨x, hx⟩ := q
      obtain ⟨k, hk, hm⟩ := pk_least (fun n : Nat => S (n : Int)) ⟨x.toNat, by
        have := (h x hx).1
        show S ((x.toNat : Nat) : Int)
        rw [show ((x.toNat : Nat) : Int) = x by omega]; exact hx⟩
      refine ⟨(k : Int), Or.inl hk, fun y hy => ?_, fun y hy => (h y hy).2⟩
      have hy0 := (h y hy).1
      rcases Int.lt_or_le y k with z | z
      · exfalso
        exact hm y.toNat (by omega) (by show S ((y.toNat : Nat) : Int); rw [show ((y.toNat : Nat) : Int) = y by omega]; exact hy)
      · exact z
    · exact ⟨_, Mn_0 (fun x w => q ⟨x, w⟩)⟩
  exact Classical.epsilon_spec this
theorem Mn_RS {σ : Sg} (h : okS σ) {T : Nat → Prop} {i op : Int} {P : Prop} (h1 : 1 ≤ i) (h2 : i ≤ sNb σ) (ho : 1 ≤ op) : Mn (RS σ T i op P) (mnOf (RS σ T i op P)) := Mn_ex (fun x q => by have := h.1; have := RS_B h h1 h2 ho q; omega)
theorem tabM_upd {σ : Sg} (hs : okS σ) {rs : Int → Int} {i o n v : Int} {P : Prop} (h : tabM σ rs i) (ho : 1 ≤ o ∧ o ≤ sPp σ) (hn : 0 ≤ n ∧ n ≤ 24) : tabM σ (updI rs (plc i o n P) v) i := by
  have hp := hs.2.2.1
  intro j p m Q h1 h2 h3 h4 h5 h6 h7
  rw [updI_n (plc_ne (by omega) (by omega) (by omega) (by omega) (by omega))]
  exact h j p m Q h1 h2 h3 h4 h5 h6 h7
theorem best_ex {σ : Sg} (h : okS σ) {be : Int} (M : Mn (TS σ) be) (hb : be ≠ 4611686018427387904) : ∃ s0, isBest σ s0 ∧ be = rkL σ s0 0 0 := by
  have hn := h.1
  obtain ⟨s, k1, k2, k3⟩ := M.mem hb
  have pos : ∀ t, okL σ t 0 0 → 0 ≤ odL t := fun t ht => (okL_B h t 0 0 (by omega) (by omega) (by omega) ht).2.1.1
  obtain ⟨k, ⟨s0, g1, g2, g3, g4⟩, hm⟩ := pk_least (fun n : Nat => ∃ t, okL σ t 0 0 ∧ Tc σ t.length ∧ be = rkL σ t 0 0 ∧ odL t = (n : Int)) ⟨(odL s).toNat, s, k1, k2, k3, by have := pos s k1; omega⟩
  refine ⟨s0, ⟨g1, g2, fun t t1 t2 => ?_⟩, g3⟩
  have l := M.2.1 _ ⟨t, t1, t2, rfl⟩
  rw [← g3]
  rcases Int.lt_or_le be (rkL σ t 0 0) with z | z
  · exact Or.inl z
  · have e : be = rkL σ t 0 0 := by omega
    refine Or.inr ⟨e, ?_⟩
    rcases Int.lt_or_le (odL t) (odL s0) with w | w
    · exfalso
      have := pos t t1
      exact hm (odL t).toNat (by omega) ⟨t, t1, t2, e, by omega⟩
    · exact w
theorem TS_nb0 {σ : Sg} (h0 : sNb σ = 0) {b : Int} (hb : b = if sCt σ = 0 then 0 else 4611686018427387904) : Mn (TS σ) b := by
  have e : ∀ x, TS σ x ↔ sCt σ = 0 ∧ x = 0 := by
    intro x
    constructor
    · rintro ⟨s, k1, k2, k3⟩
      have := okL_nb (σ := σ) (s := s) (o := 0) (by rw [h0]; exact k1)
      rw [this.1] at k2 k3
      unfold Tc at k2
      simp [rkL] at k2 k3
      omega
    · rintro ⟨w1, w2⟩
      exact ⟨[], ⟨h0.symm, rfl⟩, Or.inl w1, w2⟩
  by_cases q : sCt σ = 0
  · rw [hb, if_pos q]
    exact Mn_1 (fun x => by rw [e]; simp [q]) (by omega)
  · rw [hb, if_neg q]
    exact Mn_0 (fun x w => q ((e x).mp w).1)
theorem TS_all {σ : Sg} {fs be : Int} (h0 : 0 < sNb σ) (hf : fs = if sCt σ = 0 then 0 else 1) (M : Mn (fun x => ∃ t, 0 ≤ t ∧ t < sNb σ ∧ CB σ (Tm σ fs) t x) be) : Mn (TS σ) be := M.congr (fun _ => (TS_rec (Tm_1 hf) h0).symm)
theorem mOK_none {σ : Sg} {be lm : Int} {lf : Int → Int} {pm : Int} {pf : Int → Int} (M : Mn (TS σ) be) (hb : be = 4611686018427387904) : mOK σ be lm lf pm pf := Or.inl ⟨hb, fun t t1 t2 => M.none hb _ ⟨t, t1, t2, rfl⟩⟩
theorem mOK_nb0 {σ : Sg} (h : okS σ) {be : Int} {lf pf : Int → Int} (M : Mn (TS σ) be) (hb : be ≠ 4611686018427387904) (h0 : sNb σ = 0) : mOK σ be 0 lf 0 pf := by
  obtain ⟨s0, g1, g2⟩ := best_ex h M hb
  refine Or.inr ⟨hb, s0, g1, g2, ?_⟩
  rw [h0]
  exact ⟨rfl, rfl, fun w => by omega, fun b b1 b2 => by omega⟩
/-- what pickPages wants of the lines -/
theorem find_lines {σ : Sg} (h : okS σ) {s0 : List (Int × Bool)} {lm : Int} {lf : Int → Int} (hb : isBest σ s0) (h0 : 0 < sNb σ) (h1 : lm = cnt (fun b => b ∈ endL s0) (sNb σ)) (h2 : lf 0 = 0) (h3 : lf lm = sNb σ) (h4 : ∀ b, 0 ≤ b → b < sNb σ → b ∈ endL s0 → lf (cnt (fun b => b ∈ endL s0) b + 1) = b + 1) : (0 < lm ∧ lm ≤ 24) ∧ VL σ lf lm ∧ (lf lm = sNb σ ∧ lf 0 = 0) ∧ endL s0 = lnl lf 0 lm.toNat ∧ lm = (s0.length : Int) := by
  have hn := h.1
  have hk : okL σ (s0.reverse.reverse ++ []) 0 0 := by simpa using hb.1
  have c := cnt_R h s0.reverse [] hk
  have sf := ((st_ok s0.reverse []).mp hk).2.1
  rw [sf, List.length_reverse, List.reverse_reverse, List.append_nil] at c
  have el : lm = (s0.length : Int) := by rw [h1, c]
  have L := lines_of h h4 s0 [] rfl hb.1 (by rw [List.length_nil]; exact h2.symm)
  rw [List.length_nil] at L
  have V := VL_of h s0 0 0 (by rw [h2]; omega) (by rw [h2]; exact hb.1) L.1
  have lenB := (okL_B h s0 0 0 (by omega) (by omega) (by omega) hb.1).2.2
  have pos : s0 ≠ [] := by intro w; rw [w] at hb; have := hb.1.1; omega
  have pos2 : 0 < s0.length := List.length_pos_iff.mpr pos
  refine ⟨by omega, fun l l1 l2 => V l l1 (by omega), ⟨h3, h2⟩, ?_, el⟩
  rw [el, Int.toNat_natCast]
  exact L.1
theorem mOK_yes {σ : Sg} {s0 : List (Int × Bool)} {be lm : Int} {lf : Int → Int} {pm : Int} {pf : Int → Int} (hb : isBest σ s0) (hbe : be = rkL σ s0 0 0) (hn : be ≠ 4611686018427387904) (h1 : lm = cnt (fun b => b ∈ endL s0) (sNb σ)) (h2 : lf 0 = 0) (h4 : ∀ b, 0 ≤ b → b < sNb σ → b ∈ endL s0 → lf (cnt (fun b => b ∈ endL s0) b + 1) = b + 1) (p1 : pm = cnt (fun b => b ∈ endP s0) (sNb σ)) (p2 : pf 0 = 0) (p4 : ∀ b, 0 ≤ b → b < sNb σ → b ∈ endP s0 → pf (cnt (fun b => b ∈ endP s0) b + 1) = cnt (fun b => b ∈ endL s0) (b + 1)) : mOK σ be lm lf pm pf :=
  Or.inr ⟨hn, s0, hb, hbe, h1, p1, fun _ => ⟨h2, p2⟩, fun b b1 b2 => ⟨h4 b b1 b2, p4 b b1 b2⟩⟩
theorem tabD_o {σ : Sg} {rs : Int → Int} {i o n mt : Int} (h : tabD σ rs i o n) (hm : mt = if sCt σ = 0 then 0 else 24) (hn : mt < n) : tabD σ rs i (o + 1) 0 := by
  intro j p m Q hd h1 h2 h3 h4 h5 h6 h7
  refine h j p m Q ?_ h1 h2 h3 h4 h5 h6 h7
  unfold dn at hd ⊢
  split at hm <;> omega
theorem tabD_i {σ : Sg} {rs : Int → Int} {i o : Int} (h : tabD σ rs i o 0) (ho : sPp σ < o) : tabD σ rs (i - 1) 1 0 := by
  intro j p m Q hd h1 h2 h3 h4 h5 h6 h7
  refine h j p m Q ?_ h1 h2 h3 h4 h5 h6 h7
  unfold dn at hd ⊢
  omega
end
