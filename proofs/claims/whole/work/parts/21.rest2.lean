/-! steps of the reference's search -/
noncomputable section
theorem Mn.r0 {S : Int → Prop} {r : Int} (h : Mn S r) (h0 : ∀ x, S x → 0 ≤ x) : 0 ≤ r ∧ r ≤ 4611686018427387904 := by
  rcases h.1 with q | q
  · have h1 := h0 r q; have h2 := h.2.2 r q; omega
  · omega
theorem RS_end {σ : Sg} {T : Nat → Prop} {i op x : Int} {P : Prop} (h : i = sNb σ) : RS σ T i op P x ↔ T 0 ∧ x = iteP (op = 1 ∧ ¬ P) (1024 * sCs σ 2) 0 := by
  constructor
  · rintro (⟨-, q⟩ | ⟨q, -⟩)
    · exact q
    · omega
  · intro q; exact Or.inl ⟨h, q⟩
theorem RS_c {σ : Sg} {T : Nat → Prop} {i op x : Int} {P Q : Prop} (h : P ↔ Q) : RS σ T i op P x ↔ RS σ T i op Q x := by rw [propext h]
def tabM (σ : Sg) (rs : Int → Int) (i : Int) : Prop := ∀ (j o n : Int) (Q : Prop), i < j → j ≤ sNb σ → 1 ≤ o → o ≤ sPp σ → 0 ≤ n → n ≤ 24 → (sCt σ = 0 → n = 0) → Mn (RS σ (Tm σ n) j o Q) (rs (plc j o n Q))
theorem Tm_s {σ : Sg} {n mo : Int} (h : mo = if sCt σ = 0 then 0 else n + 1) (k : Nat) : Tm σ mo k ↔ Tm σ n (k + 1) := by
  unfold Tm
  by_cases q : sCt σ = 0
  · simp [q]
  · rw [if_neg q] at h; omega
theorem Tm_1 {σ : Sg} {mo : Int} (h : mo = if sCt σ = 0 then 0 else 1) (k : Nat) : Tm σ mo k ↔ Tc σ (k + 1) := by
  unfold Tm Tc
  by_cases q : sCt σ = 0
  · simp [q]
  · rw [if_neg q] at h; omega
theorem RS_none {σ : Sg} (h : okS σ) {i op n x : Int} {P : Prop} (h1 : 1 ≤ i) (h2 : i < sNb σ) (hn : 24 ≤ n) (hc : ¬ sCt σ = 0) : ¬ RS σ (Tm σ n) i op P x := by
  have ht := h.2.2.2.1
  rintro (⟨q1, -⟩ | ⟨-, ⟨s, k1, k2, k3⟩ | ⟨q5, s, k1, k2, k3⟩⟩)
  · omega
  · cases s with
    | nil => exact absurd k1.1 (by omega)
    | cons z s => unfold Tm at k2; rw [List.length_cons] at k2; omega
  · cases s with
    | nil => exact absurd k1.1 (by omega)
    | cons z s => unfold Tm at k2; rw [List.length_cons] at k2; omega
theorem CD_step {σ : Sg} (h : okS σ) {T : Nat → Prop} {i op j le on le2 : Int} {P : Prop} (h1 : 1 ≤ i) (h2 : i ≤ j) (h3 : j < sNb σ) (ho : 1 ≤ op) (hm : may σ i j) (L : Mn (fun x => ∃ t, i ≤ t ∧ t < j ∧ CD σ T i op P t x) le)
    (O : Mn (fun y => (op < sPp σ ∧ RS σ T (j + 1) (op + 1) P y) ∨ (∃ z, RS σ T (j + 1) 1 False z ∧ y = z + (1024 * trn σ (i - 1) + 32))) on)
    (hc : (on ≠ 4611686018427387904 ∧ on + (1024 * cst σ i j + 1) < le ∧ le2 = on + (1024 * cst σ i j + 1)) ∨ ((on = 4611686018427387904 ∨ le ≤ on + (1024 * cst σ i j + 1)) ∧ le2 = le)) : Mn (fun x => ∃ t, i ≤ t ∧ t < j + 1 ∧ CD σ T i op P t x) le2 := by
  have hn := h.1
  have b1 := cstB h (a := i) (b := j) (by omega) h2 h3
  have b2 := trnB h (i - 1)
  have ub : ∀ y, ((op < sPp σ ∧ RS σ T (j + 1) (op + 1) P y) ∨ (∃ z, RS σ T (j + 1) 1 False z ∧ y = z + (1024 * trn σ (i - 1) + 32))) → y + (1024 * cst σ i j + 1) < 4611686018427387904 := by
    rintro y (⟨-, q⟩ | ⟨z, q, e⟩)
    · have := RS_B h (by omega) (by omega) (by omega) q; omega
    · have := RS_B h (by omega) (by omega) (by omega) q; omega
  have S1 := Mn_sh (d := 1024 * cst σ i j + 1) (c := if on = 4611686018427387904 then on else on + (1024 * cst σ i j + 1)) O ub (by
    by_cases q : on = 4611686018427387904
    · exact Or.inl ⟨q, by rw [if_pos q]⟩
    · exact Or.inr ⟨q, by rw [if_neg q]⟩)
  have S2 := Mn_or (c := le2) S1 L (by
    by_cases q : on = 4611686018427387904
    · rw [if_pos q]
      have : le ≤ 4611686018427387904 := by rcases L.1 with w | w; (have := L.2.2 le w; omega); omega
      omega
    · rw [if_neg q]; omega)
  refine S2.congr (fun x => ⟨fun w => ?_, fun w => ?_⟩)
  · rcases w with ⟨y, w1, w2⟩ | ⟨t, w1, w2, w3⟩
    · refine ⟨j, h2, by omega, hm, ?_⟩
      rcases w1 with ⟨v1, v2⟩ | ⟨z, v1, v2⟩
      · exact Or.inl ⟨v1, y, v2, w2⟩
      · exact Or.inr ⟨z, v1, by rw [w2, v2]⟩
    · exact ⟨t, w1, by omega, w3⟩
  · obtain ⟨t, w1, w2, w3⟩ := w
    by_cases q : t = j
    · subst q
      left
      rcases w3.2 with ⟨v1, y, v2, v3⟩ | ⟨z, v1, v2⟩
      · exact ⟨y, Or.inl ⟨v1, v2⟩, v3⟩
      · exact ⟨_, Or.inr ⟨z, v1, rfl⟩, v2⟩
    · exact Or.inr ⟨t, w1, by omega, w3⟩
theorem CD_skip {σ : Sg} {T : Nat → Prop} {i op j le : Int} {P : Prop} (hm : ¬ may σ i j) (L : Mn (fun x => ∃ t, i ≤ t ∧ t < j ∧ CD σ T i op P t x) le) : Mn (fun x => ∃ t, i ≤ t ∧ t < j + 1 ∧ CD σ T i op P t x) le := by
  refine L.congr (fun x => ⟨fun ⟨t, w1, w2, w3⟩ => ⟨t, w1, by omega, w3⟩, fun ⟨t, w1, w2, w3⟩ => ?_⟩)
  by_cases q : t = j
  · subst q; exact absurd w3.1 hm
  · exact ⟨t, w1, by omega, w3⟩
theorem CD_all {σ : Sg} {n mo i op le : Int} {P : Prop} (hmo : mo = if sCt σ = 0 then 0 else n + 1) (h1 : 1 ≤ i) (h2 : i < sNb σ) (ho : 1 ≤ op) (L : Mn (fun x => ∃ t, i ≤ t ∧ t < sNb σ ∧ CD σ (Tm σ mo) i op P t x) le) : Mn (RS σ (Tm σ n) i op P) le := L.congr (fun _ => (RS_rec (Tm_s hmo) h1 h2 ho).symm)
theorem CB_step {σ : Sg} (h : okS σ) {T : Nat → Prop} {j le re al le2 : Int} (h1 : 0 ≤ j) (h3 : j < sNb σ) (hm : may σ 0 j) (L : Mn (fun x => ∃ t, 0 ≤ t ∧ t < j ∧ CB σ T t x) le) (O : Mn (RS σ T (j + 1) 1 True) re)
    (ha : (re = 4611686018427387904 ∧ al = 4611686018427387904) ∨ (re ≠ 4611686018427387904 ∧ al = re + (1024 * cst σ 0 j + 33))) (hc : (al < le ∧ le2 = al) ∨ (le ≤ al ∧ le2 = le)) : Mn (fun x => ∃ t, 0 ≤ t ∧ t < j + 1 ∧ CB σ T t x) le2 := by
  have hn := h.1
  have b1 := cstB h (a := 0) (b := j) (by omega) h1 h3
  have S1 := Mn_sh (d := 1024 * cst σ 0 j + 33) (c := al) O (fun y q => by have := RS_B h (by omega) (by omega) (by omega) q; omega) (by omega)
  have S2 := Mn_or (c := le2) S1 L (by omega)
  refine S2.congr (fun x => ⟨fun w => ?_, fun w => ?_⟩)
  · rcases w with ⟨y, w1, w2⟩ | ⟨t, w1, w2, w3⟩
    · exact ⟨j, h1, by omega, hm, y, w1, w2⟩
    · exact ⟨t, w1, by omega, w3⟩
  · obtain ⟨t, w1, w2, w3⟩ := w
    by_cases q : t = j
    · subst q; exact Or.inl w3.2
    · exact Or.inr ⟨t, w1, by omega, w3⟩
theorem CB_skip {σ : Sg} {T : Nat → Prop} {j le : Int} (hm : ¬ may σ 0 j) (L : Mn (fun x => ∃ t, 0 ≤ t ∧ t < j ∧ CB σ T t x) le) : Mn (fun x => ∃ t, 0 ≤ t ∧ t < j + 1 ∧ CB σ T t x) le := by
  refine L.congr (fun x => ⟨fun ⟨t, w1, w2, w3⟩ => ⟨t, w1, by omega, w3⟩, fun ⟨t, w1, w2, w3⟩ => ?_⟩)
  by_cases q : t = j
  · subst q; exact absurd w3.1 hm
  · exact ⟨t, w1, by omega, w3⟩
/-! filling the table -/
def dn (i o n j p m : Int) : Prop := i < j ∨ (j = i ∧ (p < o ∨ (p = o ∧ m < n)))
def tabD (σ : Sg) (rs : Int → Int) (i o n : Int) : Prop := ∀ (j p m : Int) (Q : Prop), dn i o n j p m → 1 ≤ j → j ≤ sNb σ → 1 ≤ p → p ≤ sPp σ → 0 ≤ m → m ≤ 24 → (sCt σ = 0 → m = 0) → Mn (RS σ (Tm σ m) j p Q) (rs (plc j p m Q))
theorem tabD_M {σ : Sg} {rs : Int → Int} {i o n : Int} (h : tabD σ rs i o n) (hi : 0 ≤ i) : tabM σ rs i := fun j p m Q h1 h2 h3 h4 h5 h6 h7 => h j p m Q (Or.inl h1) (by omega) h2 h3 h4 h5 h6 h7
theorem plc_ne {i o n j p m : Int} {P Q : Prop} (h : ¬ (i = j ∧ o = p ∧ n = m)) (ho : 0 ≤ o ∧ o < 9) (hp : 0 ≤ p ∧ p < 9) (hn : 0 ≤ n ∧ n < 25) (hm : 0 ≤ m ∧ m < 25) : plc i o n P ≠ plc j p m Q := by
  have h1 := plc_B i o n P
  have h2 := plc_B j p m Q
  omega
theorem tabD_step {σ : Sg} (hs : okS σ) {rs : Int → Int} {i o n a b : Int} (h : tabD σ rs i o n) (ho : 1 ≤ o ∧ o ≤ sPp σ) (hn : 0 ≤ n ∧ n ≤ 24) (ha : Mn (RS σ (Tm σ n) i o True) a) (hb : Mn (RS σ (Tm σ n) i o False) b) : tabD σ (updI (updI rs (plc i o n True) a) (plc i o n False) b) i o (n + 1) := by
  have hp := hs.2.2.1
  intro j p m Q hd h1 h2 h3 h4 h5 h6 h7
  by_cases e : i = j ∧ o = p ∧ n = m
  · obtain ⟨rfl, rfl, rfl⟩ := e
    have hne : plc i o n True ≠ plc i o n False := by rw [plc_t trivial, plc_f id]; omega
    by_cases q : Q
    · rw [show plc i o n Q = plc i o n True by rw [plc_t q, plc_t trivial], updI_n hne, updI_s]
      exact ha.congr (fun x => RS_c ⟨fun _ => q, fun _ => trivial⟩)
    · rw [show plc i o n Q = plc i o n False by rw [plc_f q, plc_f id], updI_s]
      exact hb.congr (fun x => RS_c ⟨fun z => z.elim, fun z => q z⟩)
  · rw [updI_n (plc_ne (by omega) (by omega) (by omega) (by omega) (by omega)), updI_n (plc_ne (by omega) (by omega) (by omega) (by omega) (by omega))]
    exact h j p m Q (by unfold dn at hd ⊢; omega) h1 h2 h3 h4 h5 h6 h7
theorem CD_nn {σ : Sg} (h : okS σ) {T : Nat → Prop} {i op t x : Int} {P : Prop} (h1 : 1 ≤ i) (h2 : i ≤ t) (h3 : t < sNb σ) (ho : 1 ≤ op) (q : (op < sPp σ ∧ ∃ y, RS σ T (t + 1) (op + 1) P y ∧ x = y + (1024 * cst σ i t + 1)) ∨ (∃ y, RS σ T (t + 1) 1 False y ∧ x = y + (1024 * trn σ (i - 1) + 32) + (1024 * cst σ i t + 1))) : 0 ≤ x := by
  have b1 := cstB h (a := i) (b := t) (by omega) h2 h3
  have b2 := trnB h (i - 1)
  rcases q with ⟨-, y, q1, q2⟩ | ⟨y, q1, q2⟩
  · have := RS_B h (by omega) (by omega) (by omega) q1; omega
  · have := RS_B h (by omega) (by omega) (by omega) q1; omega
theorem restZ {σ : Sg} (h : okS σ) {n mo i op j le : Int} {P : Prop} (h0 : 25 ≤ mo) (hmo : mo = if sCt σ = 0 then 0 else n + 1) (h1 : 1 ≤ i ∧ i < sNb σ) (hn : n ≤ 24) (L : Mn (fun x => ∃ t, i ≤ t ∧ t < j ∧ CD σ (Tm σ mo) i op P t x) le) : Mn (RS σ (Tm σ n) i op P) le := by
  have ht := h.2.2.2.1
  have hc : ¬ sCt σ = 0 := fun w => by rw [if_pos w] at hmo; omega
  rw [if_neg hc] at hmo
  have e : le = 4611686018427387904 := by
    rcases L.1 with ⟨t, w1, w2, w3, w4⟩ | w
    · exfalso
      have hx : ∀ (a b y : Int) (Q : Prop), ¬ RS σ (Tm σ mo) a b Q y := by
        rintro a b y Q (⟨-, k2, -⟩ | ⟨-, ⟨s, k1, k2, k3⟩ | ⟨q5, s, k1, k2, k3⟩⟩) <;> (unfold Tm at k2; omega)
      rcases w4 with ⟨-, y, v1, -⟩ | ⟨y, v1, -⟩
      · exact hx _ _ _ _ v1
      · exact hx _ _ _ _ v1
    · exact w
  rw [e]
  exact Mn_0 (fun x q => RS_none h h1.1 h1.2 (by omega) hc q)
end
