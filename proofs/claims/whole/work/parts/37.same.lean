/-! both objects' answers of the best setting are the same -/
noncomputable section
theorem best_same {σ : Sg} (h : okS σ) {s t : List (Int × Bool)} (hs : isBest σ s) (ht : isBest σ t) : rkL σ s 0 0 = rkL σ t 0 0 ∧ ∀ b, 0 ≤ b → b < 24 → (b ∈ endL s ↔ b ∈ endL t) ∧ (b ∈ endP s ↔ b ∈ endP t) := by
  have a1 := hs.2.2 t ht.1 ht.2.1
  have a2 := ht.2.2 s hs.1 hs.2.1
  have e1 : rkL σ s 0 0 = rkL σ t 0 0 := by omega
  have e2 : odL s = odL t := by omega
  refine ⟨e1, fun b b1 b2 => ?_⟩
  have o1 := od_bits h (by omega) (by omega) hs.1 b1 b2
  have o2 := od_bits h (by omega) (by omega) ht.1 b1 b2
  rw [e2] at o1
  exact ⟨o1.1.symm.trans o2.1, o1.2.symm.trans o2.2⟩
theorem bst_at {σ : Sg} (h : okS σ) {ex : Prop} {to ln pg : Int} {fb fl pl lb : Int → Int} (B : bstS σ ex to ln pg fb fl pl lb) {s0 : List (Int × Bool)} (hb : isBest σ s0) : ex ∧ to = rkL σ s0 0 0 / 1024 ∧ setOK (fun b => b ∈ endL s0) (fun b => b ∈ endP s0) (sNb σ) ln pg fb fl pl lb := by
  have hn := h.1
  rcases B with ⟨-, -, w⟩ | ⟨w1, s, w2, w3, w4⟩
  · exact absurd hb.2.1 (w s0 hb.1)
  · obtain ⟨e1, e2⟩ := best_same h w2 hb
    exact ⟨w1, by rw [w3, e1], setOK_congr w4 (by omega) (fun b b1 b2 => (e2 b b1 (by omega)).1) (fun b b1 b2 => (e2 b b1 (by omega)).2)⟩
theorem bst_no {σ : Sg} {ex : Prop} {to ln pg : Int} {fb fl pl lb : Int → Int} (B : bstS σ ex to ln pg fb fl pl lb) (hn : ∀ t, okL σ t 0 0 → ¬ Tc σ t.length) : ¬ ex := by
  rcases B with ⟨w, -, -⟩ | ⟨-, s, w2, -, -⟩
  · exact w
  · exact absurd w2.2.1 (hn s w2.1)
/-- the rows are the same -/
theorem rows_same {LE PE : Int → Prop} {n ln pg : Int} {fb fl pl lb : Int → Int} {lm : Int} {lf : Int → Int} {pm : Int} {pf : Int → Int} (hn : 0 ≤ n) (S : setOK LE PE n ln pg fb fl pl lb) (R : rowsOK LE PE n lm lf pm pf) : ln = lm ∧ pg = pm ∧ (0 < n → (∀ k, 0 ≤ k → k ≤ lm → fb k = lf k) ∧ (∀ k, 0 ≤ k → k ≤ pm → fl k = pf k) ∧ (∀ k, 0 ≤ k → k < pm → 0 ≤ pf (k + 1) ∧ pf (k + 1) ≤ lm) ∧ ∀ k, 0 ≤ k → k < lm → pl k = cnt PE (lf (k + 1) - 1)) := by
  obtain ⟨s1, s2, s3, s4, s5⟩ := S
  obtain ⟨r1, r2, r3, r4⟩ := R
  refine ⟨by omega, by omega, fun h0 => ⟨fun k k1 k2 => ?_, fun k k1 k2 => ?_, fun k k1 k2 => ?_, fun k k1 k2 => ?_⟩⟩
  · by_cases q : k = 0
    · rw [q, s3, (r3 h0).1]
    · obtain ⟨b, w1, w2, w3, w4⟩ := cnt_ex' (P := LE) (n := n) (k := k - 1) hn (by omega) (by omega)
      have e1 := ((s5 b w1 w2).2.1 w3).1
      have e2 := (r4 b w1 w2).1 w3
      rw [w4, show k - 1 + 1 = k by omega] at e1 e2
      rw [e1, e2]
  · by_cases q : k = 0
    · rw [q, s4, (r3 h0).2]
    · obtain ⟨b, w1, w2, w3, w4⟩ := cnt_ex' (P := PE) (n := n) (k := k - 1) hn (by omega) (by omega)
      have e1 := (s5 b w1 w2).2.2 w3
      have e2 := (r4 b w1 w2).2 w3
      rw [w4, show k - 1 + 1 = k by omega] at e1 e2
      rw [e1, e2]
  · obtain ⟨b, w1, w2, w3, w4⟩ := cnt_ex' (P := PE) (n := n) (k := k) hn (by omega) (by omega)
    have e2 := (r4 b w1 w2).2 w3
    rw [w4] at e2
    have c1 := cntB LE (a := b + 1) (by omega)
    have c2 := (cnt_le LE (a := b + 1) (b := n) (by omega) (by omega)).1
    rw [e2]
    omega
  · obtain ⟨b, w1, w2, w3, w4⟩ := cnt_ex' (P := LE) (n := n) (k := k) hn (by omega) (by omega)
    have e1 := ((s5 b w1 w2).2.1 w3).2
    have e2 := (r4 b w1 w2).1 w3
    rw [w4] at e1 e2
    rw [e1, e2, show b + 1 - 1 = b by omega]
section
variable {σ : Sg} {ex : Prop} {to ln pg : Int} {fb fl pl lb : Int → Int} {be lm : Int} {lf : Int → Int} {pm : Int} {pf pl2 lb2 : Int → Int}
theorem ex_same (h : okS σ) (B : bstS σ ex to ln pg fb fl pl lb) (M : mOK σ be lm lf pm pf) : (¬ ex ∧ be = 4611686018427387904) ∨ (ex ∧ be ≠ 4611686018427387904 ∧ ∃ s0, isBest σ s0 ∧ be = rkL σ s0 0 0 ∧ rowsOK (fun b => b ∈ endL s0) (fun b => b ∈ endP s0) (sNb σ) lm lf pm pf ∧ to = rkL σ s0 0 0 / 1024 ∧ setOK (fun b => b ∈ endL s0) (fun b => b ∈ endP s0) (sNb σ) ln pg fb fl pl lb) := by
  rcases M with ⟨w1, w2⟩ | ⟨w1, s0, w2, w3, w4⟩
  · exact Or.inl ⟨bst_no B w2, w1⟩
  · obtain ⟨a1, a2, a3⟩ := bst_at h B w2
    exact Or.inr ⟨a1, w1, s0, w2, w3, w4, a2, a3⟩
theorem lines_same (h : okS σ) (B : bstS σ ex to ln pg fb fl pl lb) (M : mOK σ be lm lf pm pf) : iteP ex ln (-3) = iteP (be ≠ 4611686018427387904) lm (-3) ∧ iteP ex pg (-3) = iteP (be ≠ 4611686018427387904) pm (-3) ∧ iteP ex to (-1) = iteP (be ≠ 4611686018427387904) (be / 1024) (-1) := by
  have hn := h.1
  rcases ex_same h B M with ⟨w1, w2⟩ | ⟨w1, w2, s0, w3, w4, w5, w6, w7⟩
  · rw [iteP_f w1, iteP_f w1, iteP_f w1, iteP_f (fun z => z w2), iteP_f (fun z => z w2), iteP_f (fun z => z w2)]
    exact ⟨rfl, rfl, rfl⟩
  · obtain ⟨r1, r2, -⟩ := rows_same (by omega) w7 w5
    rw [iteP_t w1, iteP_t w1, iteP_t w1, iteP_t w2, iteP_t w2, iteP_t w2, w6, w4]
    exact ⟨r1, r2, rfl⟩
theorem line_same (h : okS σ) (B : bstS σ ex to ln pg fb fl pl lb) (M : mOK σ be lm lf pm pf) (A : mAns σ be lm lf pm pf pl2 lb2) (k w : Int) : lineR σ ex ln fb pl k w = lineR σ (be ≠ 4611686018427387904) lm lf pl2 k w := by
  have hn := h.1
  unfold lineR
  rcases ex_same h B M with ⟨w1, w2⟩ | ⟨w1, w2, -⟩
  · rw [iteP_f w1, iteP_f (fun z => z w2)]
  · rw [iteP_t w1, iteP_t w2]
    obtain ⟨s0, a1, a2, a3, a4, -⟩ := A w2
    obtain ⟨r1, r2, r3⟩ := rows_same (by omega) (bst_at h B a1).2.2 a3
    have hlm := (rows_lm h a3).1
    rw [r1]
    by_cases q : 0 ≤ k ∧ k ≤ lm - 1
    · obtain ⟨f1, f2, f3, f4⟩ := r3 (by omega)
      rw [if_pos q, if_pos q, f1 k (by omega) (by omega), f1 (k + 1) (by omega) (by omega), f4 k (by omega) (by omega), a4]
    · rw [if_neg q, if_neg q]
theorem page_same (h : okS σ) (B : bstS σ ex to ln pg fb fl pl lb) (M : mOK σ be lm lf pm pf) (k w : Int) : pageR σ ex pg fb fl k w = pageR σ (be ≠ 4611686018427387904) pm lf pf k w := by
  have hn := h.1
  unfold pageR
  rcases ex_same h B M with ⟨w1, w2⟩ | ⟨w1, w2, s0, a1, a2, a3, a4, a5⟩
  · rw [iteP_f w1, iteP_f (fun z => z w2)]
  · rw [iteP_t w1, iteP_t w2]
    obtain ⟨r1, r2, r3⟩ := rows_same (by omega) a5 a3
    have hlm := (rows_lm h a3).2
    rw [r2]
    by_cases q : 0 ≤ k ∧ k ≤ pm - 1
    · obtain ⟨f1, f2, f3, f4⟩ := r3 (by omega)
      have f5 := f3 k (by omega) (by omega)
      rw [if_pos q, if_pos q, f2 k (by omega) (by omega), f2 (k + 1) (by omega) (by omega)]
      unfold ppR
      rw [f2 k (by omega) (by omega), f2 (k + 1) (by omega) (by omega), f1 _ f5.1 f5.2]
    · rw [if_neg q, if_neg q]
theorem bar_same (h : okS σ) (B : bstS σ ex to ln pg fb fl pl lb) (A : mAns σ be lm lf pm pf pl2 lb2) (w2 : be ≠ 4611686018427387904) {b : Int} (h1 : 0 ≤ b ∧ b < sNb σ) : lb b = lb2 b ∧ fb (lb2 b) = lf (lb2 b) ∧ fb (lb2 b + 1) = lf (lb2 b + 1) := by
  have hn := h.1
  obtain ⟨s0, a1, a2, a3, -, a5⟩ := A w2
  have S := (bst_at h B a1).2.2
  obtain ⟨r1, r2, r3⟩ := rows_same (by omega) S a3
  have F := fnd_line h a1 a3 h1.1 h1.2
  have c := cntB (fun b => b ∈ endL s0) h1.1
  obtain ⟨f1, f2, f3, f4⟩ := r3 (by omega)
  have e := (S.2.2.2.2 b h1.1 h1.2).1
  have F2 := F.2.1
  rw [a5]
  refine ⟨e, ?_, ?_⟩
  · show fb (cnt (fun b => b ∈ endL s0) b) = lf (cnt (fun b => b ∈ endL s0) b)
    exact f1 _ (by omega) (by omega)
  · show fb (cnt (fun b => b ∈ endL s0) b + 1) = lf (cnt (fun b => b ∈ endL s0) b + 1)
    exact f1 _ (by omega) (by omega)
theorem set_same (h : okS σ) {b w : Int} (BM : (0 ≤ b ∧ b < sNb σ) → (0 ≤ w ∧ w ≤ 2) → bstS σ ex to ln pg fb fl pl lb ∧ mOK σ be lm lf pm pf ∧ mAns σ be lm lf pm pf pl2 lb2) : setR σ ex fb lb b w = setR σ (be ≠ 4611686018427387904) lf lb2 b w := by
  unfold setR
  by_cases q1 : 0 ≤ b ∧ b < sNb σ
  · rw [if_pos q1, if_pos q1]
    by_cases q2 : 0 ≤ w ∧ w ≤ 2
    · rw [if_pos q2, if_pos q2]
      obtain ⟨B, M, A⟩ := BM q1 q2
      rcases ex_same h B M with ⟨w1, w2⟩ | ⟨w1, w2, -⟩
      · rw [iteP_f w1, iteP_f (fun z => z w2)]
      · obtain ⟨e1, e2, e3⟩ := bar_same h B A w2 q1
        rw [iteP_t w1, iteP_t w2, e1, e2, e3]
    · rw [if_neg q2, if_neg q2]
  · rw [if_neg q1, if_neg q1]
theorem ends_same (h : okS σ) {b : Int} (BM : (0 ≤ b ∧ b < sNb σ) → bstS σ ex to ln pg fb fl pl lb ∧ mOK σ be lm lf pm pf ∧ mAns σ be lm lf pm pf pl2 lb2) : endR σ ex fb lb b ↔ endR σ (be ≠ 4611686018427387904) lf lb2 b := by
  unfold endR
  by_cases q1 : 0 ≤ b ∧ b < sNb σ
  · obtain ⟨B, M, A⟩ := BM q1
    rcases ex_same h B M with ⟨w1, w2⟩ | ⟨w1, w2, -⟩
    · exact ⟨fun z => absurd z.2.1 w1, fun z => absurd w2 z.2.1⟩
    · obtain ⟨e1, e2, e3⟩ := bar_same h B A w2 q1
      rw [e1, e3]
      exact ⟨fun z => ⟨z.1, w2, z.2.2⟩, fun z => ⟨z.1, w1, z.2.2⟩⟩
  · exact ⟨fun z => absurd z.1 q1, fun z => absurd z.1 q1⟩
end
theorem wld_same {σ : Sg} (h : okS σ) {a m0 : Int} {r1 r2 : Int64} (h1 : wldP σ a m0 r1) (h2 : wldM σ a m0 r2) : r1 = r2 := by
  rcases h1 with ⟨p1, p2, p3, R, Z, B, e1⟩ | ⟨n1, e1⟩
  · rcases h2 with ⟨-, -, -, be, lm, lf, pm, pf, M, e2⟩ | ⟨n2, -⟩
    · have hk := okS_mk h a m0 true
      rw [e1, e2]
      refine congrArg jL ?_
      rcases B with ⟨b1, b2⟩ | ⟨b1, ⟨s, k1, k2, k3, k4⟩, b3⟩
      · rw [if_pos b1]
        rcases M with ⟨m1, -⟩ | ⟨-, s0, m2, -, -⟩
        · rw [iteP_f (fun z => z m1)]
        · exact absurd ⟨s0, m2.1, m2.2.1, rfl, rfl⟩ (b2 _ _)
      · rw [if_neg b1]
        rcases M with ⟨-, m1⟩ | ⟨m1, s0, m2, m3, -⟩
        · exact absurd k2 (m1 s k1)
        · rw [iteP_t m1]
          have i1 : isBest (upMk σ a m0 true) s := ⟨k1, k2, fun t t1 t2 => by rw [← k3, ← k4]; exact b3 _ _ ⟨t, t1, t2, rfl, rfl⟩⟩
          rw [k3, m3, (best_same hk i1 m2).1]
    · exact absurd ⟨p1, p2, p3⟩ n2
  · rcases h2 with ⟨p1, p2, p3, -⟩ | ⟨-, e2⟩
    · exact absurd ⟨p1, p2, p3⟩ n1
    · rw [e1, e2]
theorem sg0_ok {wd pp : Int} (h : (100 ≤ wd ∧ wd ≤ 5000) ∧ 1 ≤ pp ∧ pp ≤ 8) : okS (sg0 wd pp) := by
  refine ⟨⟨Int.le_refl _, (by decide : (0 : Int) ≤ 24)⟩, h.1, h.2, ⟨Int.le_refl _, (by decide : (0 : Int) ≤ 24)⟩, fun k k1 k2 => ?_, fun k k1 k2 => ?_⟩
  · show 0 ≤ cs0 k ∧ cs0 k ≤ 1000000
    rcases (show k = 0 ∨ k = 1 ∨ k = 2 ∨ k = 3 ∨ k = 4 by omega) with q | q | q | q | q <;> subst q <;> decide
  · have k2 : k < 0 := k2
    omega
theorem u0C_ok {wd pp : Int} (h : (100 ≤ wd ∧ wd ≤ 5000) ∧ 1 ≤ pp ∧ pp ≤ 8) : cInv (u0C wd pp) := by
  refine ⟨⟨sg0_ok h, fun k k1 k2 => ?_, fun m b _ _ => b_0 b⟩, ⟨rfl, rfl⟩, fun w => w.elim⟩
  have k2 : k ≤ 0 := k2
  rw [show k = 0 by omega]
  exact ⟨rfl, rfl⟩
theorem u0M_ok {wd pp : Int} (h : (100 ≤ wd ∧ wd ≤ 5000) ∧ 1 ≤ pp ∧ pp ≤ 8) : mInv (u0M wd pp) := ⟨sg0_ok h, fun w => w.elim⟩
end
