/-! the settings' beginnings: rows of lines read backwards, the last page not yet ended -/
noncomputable section
def stF : List (Int × Bool) → Int
  | [] => 0
  | (t, _) :: _ => t + 1
def stO : List (Int × Bool) → Int
  | [] => 0
  | (_, true) :: _ => 0
  | (_, false) :: R => stO R + 1
def stI : List (Int × Bool) → Prop
  | [] => True
  | (_, true) :: _ => False
  | (_, false) :: R => stI R
def stX (σ : Sg) : List (Int × Bool) → Int
  | [] => 32
  | (t, true) :: R => stX σ R + (1024 * cst σ (stF R) t + 1) + (1024 * trn σ t + 32)
  | (t, false) :: R => stX σ R + (1024 * cst σ (stF R) t + 1)
def stK (σ : Sg) : List (Int × Bool) → Prop
  | [] => True
  | (t, true) :: R => stK σ R ∧ stF R ≤ t ∧ t < sNb σ ∧ may σ (stF R) t
  | (t, false) :: R => stK σ R ∧ stF R ≤ t ∧ t < sNb σ ∧ may σ (stF R) t ∧ stO R + 1 < sPp σ
def sF : List Int → Int
  | [] => 0
  | t :: _ => t + 1
theorem stF_c (t : Int) (b : Bool) (R : List (Int × Bool)) : stF ((t, b) :: R) = t + 1 := rfl
theorem sF_c (t : Int) (L : List Int) : sF (t :: L) = t + 1 := rfl
theorem stF_sF : ∀ R : List (Int × Bool), stF R = sF (endL R) := by
  intro R
  cases R with
  | nil => rfl
  | cons x R => rfl
theorem st_ok {σ : Sg} : ∀ (R s : List (Int × Bool)), okL σ (R.reverse ++ s) 0 0 ↔ stK σ R ∧ okL σ s (stF R) (stO R) := by
  intro R
  induction R with
  | nil => intro s; simp [stK, stF, stO]
  | cons x R ih =>
    intro s
    obtain ⟨t, b⟩ := x
    rw [List.reverse_cons, List.append_assoc, List.singleton_append, ih]
    cases b with
    | true => simp only [okL, stK, stF_c, stO]; constructor <;> (rintro ⟨a, b⟩; simp_all)
    | false => simp only [okL, stK, stF_c, stO]; constructor <;> (rintro ⟨a, b⟩; simp_all)
theorem stO_0 : ∀ R : List (Int × Bool), 0 ≤ stO R := by
  intro R
  induction R with
  | nil => exact Int.le_refl _
  | cons x R ih =>
    obtain ⟨t, b⟩ := x
    cases b with
    | true => exact Int.le_refl _
    | false => simp only [stO]; omega
theorem st_B {σ : Sg} (h : okS σ) : ∀ R : List (Int × Bool), stK σ R → (0 ≤ stF R ∧ stF R ≤ sNb σ) ∧ stO R < sPp σ ∧ (32 ≤ stX σ R ∧ stX σ R ≤ 94000000000000000 * stF R + 32) := by
  have hn := h.1
  have hp := h.2.2.1
  intro R
  induction R with
  | nil => intro _; simp [stF, stO, stX]; omega
  | cons x R ih =>
    intro hk
    obtain ⟨t, b⟩ := x
    cases b with
    | true =>
      obtain ⟨k1, k2, k3, k4⟩ := hk
      have i := ih k1
      have c := cstB h i.1.1 k2 k3
      have r := trnB h t
      simp only [stF_c, stO, stX]
      omega
    | false =>
      obtain ⟨k1, k2, k3, k4, k5⟩ := hk
      have i := ih k1
      have c := cstB h i.1.1 k2 k3
      simp only [stF_c, stO, stX]
      omega
theorem st_rk {σ : Sg} : ∀ (R s : List (Int × Bool)), s ≠ [] → okL σ (R.reverse ++ s) 0 0 → rkL σ (R.reverse ++ s) 0 0 + 32 = stX σ R + rkL σ s (stF R) (stO R) := by
  intro R
  induction R with
  | nil => intro s _ _; simp [stX, stF, stO]; omega
  | cons x R ih =>
    intro s hs hk
    obtain ⟨t, b⟩ := x
    have e : ((t, b) :: R).reverse ++ s = R.reverse ++ ((t, b) :: s) := by rw [List.reverse_cons, List.append_assoc, List.singleton_append]
    rw [e] at hk ⊢
    rw [ih _ (by simp) hk]
    have hk2 := ((st_ok R _).mp hk).2
    cases b with
    | true =>
      have q : t ≠ sNb σ - 1 := by
        intro q
        have m4 := hk2.2.2.2
        have := okL_nb (σ := σ) (s := s) (o := 0) (by rw [show t + 1 = sNb σ by omega] at m4; exact m4)
        exact hs this.1
      simp only [rkL, stX, stF_c, stO, pgc]
      rw [if_neg q]
      omega
    | false =>
      simp only [rkL, stX, stF_c, stO]
      omega
def NWs (σ : Sg) (L : List Int) (j op : Int) (fi : Prop) (x : Int) : Prop := ∃ R, endL R = L ∧ stK σ R ∧ op = stO R + 1 ∧ (fi ↔ stI R) ∧ x = stX σ R + (1024 * cst σ (sF L) j + 1)
theorem NWs_c {σ : Sg} {L : List Int} {j op x : Int} {P Q : Prop} (h : P ↔ Q) : NWs σ L j op P x ↔ NWs σ L j op Q x := by rw [propext h]
theorem NWs_nil {σ : Sg} {j op x : Int} {fi : Prop} : NWs σ [] j op fi x ↔ op = 1 ∧ fi ∧ x = 32 + (1024 * cst σ 0 j + 1) := by
  constructor
  · rintro ⟨R, h1, h2, h3, h4, h5⟩
    have : R = [] := by cases R with
      | nil => rfl
      | cons x R => cases h1
    subst this
    exact ⟨h3, h4.mpr trivial, h5⟩
  · rintro ⟨h1, h2, h3⟩
    exact ⟨[], rfl, trivial, h1, ⟨fun _ => trivial, fun _ => h2⟩, h3⟩
theorem NWs_cons {σ : Sg} {i : Int} {L : List Int} {j op x : Int} {fi : Prop} (V : sF L ≤ i ∧ i < sNb σ ∧ may σ (sF L) i) : NWs σ (i :: L) j op fi x ↔ (op = 1 ∧ ¬ fi ∧ ∃ op' fi' y, NWs σ L i op' fi' y ∧ x = y + (1024 * trn σ i + 32) + (1024 * cst σ (i + 1) j + 1)) ∨ (2 ≤ op ∧ op - 1 < sPp σ ∧ ∃ y, NWs σ L i (op - 1) fi y ∧ x = y + (1024 * cst σ (i + 1) j + 1)) := by
  constructor
  · rintro ⟨R, h1, h2, h3, h4, h5⟩
    cases R with
    | nil => cases h1
    | cons z R =>
      obtain ⟨t, b⟩ := z
      have e1 : t = i := by have := congrArg (fun l => l.head?) h1; simpa [endL] using this
      have e2 : endL R = L := by have := congrArg (fun l => l.tail) h1; simpa [endL] using this
      subst e1
      cases b with
      | true =>
        refine Or.inl ⟨h3, fun w => (h4.mp w).elim, stO R + 1, stI R, _, ⟨R, e2, h2.1, rfl, Iff.rfl, rfl⟩, ?_⟩
        rw [h5]
        simp only [stX, sF_c]
        rw [stF_sF R, e2]
      | false =>
        have o0 := stO_0 R
        have h3' : op = stO R + 1 + 1 := h3
        refine Or.inr ⟨by omega, by have := h2.2.2.2.2; omega, _, ⟨R, e2, h2.1, by omega, h4, rfl⟩, ?_⟩
        rw [h5]
        simp only [stX, sF_c]
        rw [stF_sF R, e2]
  · rintro (⟨h1, h2, op', fi', y, ⟨R, g1, g2, g3, g4, g5⟩, h5⟩ | ⟨h1, h2, y, ⟨R, g1, g2, g3, g4, g5⟩, h5⟩)
    · refine ⟨(i, true) :: R, by simp only [endL, List.map_cons] at g1 ⊢; rw [g1], ⟨g2, ?_⟩, h1, ⟨fun w => absurd w h2, fun w => w.elim⟩, ?_⟩
      · rw [stF_sF R, g1]; exact V
      · rw [h5, g5]
        simp only [stX, sF_c]
        rw [stF_sF R, g1]
    · refine ⟨(i, false) :: R, by simp only [endL, List.map_cons] at g1 ⊢; rw [g1], ⟨g2, ?_⟩, by simp only [stO]; omega, g4, ?_⟩
      · rw [stF_sF R, g1]; exact ⟨V.1, V.2.1, V.2.2, by omega⟩
      · rw [h5, g5]
        simp only [stX, sF_c]
        rw [stF_sF R, g1]
theorem NWs_B {σ : Sg} (h : okS σ) {L : List Int} {j op x : Int} {fi : Prop} (h1 : sF L ≤ j) (h2 : j < sNb σ) (q : NWs σ L j op fi x) : (1 ≤ op ∧ op ≤ sPp σ) ∧ 0 ≤ x ∧ x ≤ 94000000000000000 * (j + 1) + 64 := by
  obtain ⟨R, g1, g2, g3, g4, g5⟩ := q
  have b := st_B h R g2
  have o := stO_0 R
  have e := stF_sF R
  rw [g1] at e
  have c := cstB h (a := sF L) (b := j) (by omega) h1 h2
  omega
def NWT (σ : Sg) (L : List Int) (j : Int) (th : Int → Int) : Prop := ∀ k, 2 ≤ k → k < 18 → Mn (NWs σ L j (k / 2) (k % 2 = 1)) (th k)
/-- the table of a beginning with one line more, half made -/
def FWD (σ : Sg) (L : List Int) (i j : Int) (k : Int) (th : Int → Int) : Prop := (∀ m, 3 ≤ m → m < 18 → Mn (fun x => (4 ≤ m ∧ m < k + 2 ∧ (m - 2) / 2 < sPp σ) ∧ ∃ y, NWs σ L i ((m - 2) / 2) ((m - 2) % 2 = 1) y ∧ x = y + (1024 * cst σ (i + 1) j + 1)) (th m)) ∧ Mn (fun x => ∃ m y, (2 ≤ m ∧ m < k) ∧ NWs σ L i (m / 2) (m % 2 = 1) y ∧ x = y + (1024 * trn σ i + 32) + (1024 * cst σ (i + 1) j + 1)) (th 2)
theorem FWD_0 {σ : Sg} {L : List Int} {i j : Int} {th : Int → Int} (h : ∀ m, 0 ≤ m → m < 18 → th m = 4611686018427387904) : FWD σ L i j 2 th := by
  refine ⟨fun m h1 h2 => ?_, ?_⟩
  · rw [h m (by omega) h2]; exact Mn_0 (fun x w => by omega)
  · rw [h 2 (by omega) (by omega)]; exact Mn_0 (fun x w => by obtain ⟨m, y, w1, -⟩ := w; omega)
theorem FWD_skip {σ : Sg} {L : List Int} {i j k : Int} {nw th : Int → Int} (hk : 2 ≤ k ∧ k < 18) (hN : NWT σ L i nw) (hz : nw k = 4611686018427387904) (h : FWD σ L i j k th) : FWD σ L i j (k + 1) th := by
  have he := (hN k hk.1 hk.2).none hz
  refine ⟨fun m h1 h2 => (h.1 m h1 h2).congr (fun x => ⟨fun ⟨w1, w2⟩ => ⟨by omega, w2⟩, fun ⟨w1, w2⟩ => ⟨?_, w2⟩⟩), h.2.congr (fun x => ⟨fun ⟨m, y, w1, w2⟩ => ⟨m, y, by omega, w2⟩, fun ⟨m, y, w1, w2⟩ => ?_⟩)⟩
  · by_cases q : m = k + 2
    · obtain ⟨y, w2, -⟩ := w2
      rw [q, show k + 2 - 2 = k by omega] at w2
      exact absurd w2 (he y)
    · omega
  · by_cases q : m = k
    · rw [q] at w2; exact absurd w2.1 (he y)
    · exact ⟨m, y, by omega, w2⟩
theorem FWD_step {σ : Sg} (hs : okS σ) {L : List Int} {i j k v2 : Int} {nw th th3 : Int → Int} (hi : sF L ≤ i ∧ i < j ∧ j < sNb σ ∧ 0 ≤ sF L) (hk : 2 ≤ k ∧ k < 18) (hN : NWT σ L i nw) (hz : nw k ≠ 4611686018427387904) (h : FWD σ L i j k th)
    (h3 : (k / 2 < sPp σ ∧ ∃ v1, ((nw k + (1024 * cst σ (i + 1) j + 1) < th (k + 2) ∧ v1 = nw k + (1024 * cst σ (i + 1) j + 1)) ∨ (th (k + 2) ≤ nw k + (1024 * cst σ (i + 1) j + 1) ∧ v1 = th (k + 2))) ∧ th3 = updI th (k + 2) v1) ∨ (sPp σ ≤ k / 2 ∧ th3 = th))
    (h2 : (nw k + (1024 * cst σ (i + 1) j + 1) + 1024 * trn σ i + 32 < th3 2 ∧ v2 = nw k + (1024 * cst σ (i + 1) j + 1) + 1024 * trn σ i + 32) ∨ (th3 2 ≤ nw k + (1024 * cst σ (i + 1) j + 1) + 1024 * trn σ i + 32 ∧ v2 = th3 2)) : FWD σ L i j (k + 1) (updI th3 2 v2) := by
  have hn := hs.1
  have hp := hs.2.2.1
  have c := cstB hs (a := i + 1) (b := j) (by omega) (by omega) (by omega)
  have r := trnB hs i
  have M := hN k hk.1 hk.2
  have hb : ∀ x, NWs σ L i (k / 2) (k % 2 = 1) x → 0 ≤ x ∧ x + (1024 * trn σ i + 32) + (1024 * cst σ (i + 1) j + 1) < 4611686018427387904 := fun x q => by
    have := (NWs_B hs hi.1 (by omega) q).2; omega
  have e2 : th3 2 = th 2 := by
    rcases h3 with ⟨-, v1, -, w⟩ | ⟨-, w⟩
    · rw [w, updI_n (by omega)]
    · rw [w]
  refine ⟨fun m h4 h5 => ?_, ?_⟩
  · rw [updI_n (by omega)]
    by_cases q : m = k + 2
    · rcases h3 with ⟨g1, v1, g2, g3⟩ | ⟨g1, g3⟩
      · rw [g3, q, updI_s]
        have Z := h.1 (k + 2) (by omega) (by omega)
        have z : th (k + 2) = 4611686018427387904 := by
          rcases Z.1 with w | w
          · omega
          · exact w
        have hlt : nw k + (1024 * cst σ (i + 1) j + 1) < 4611686018427387904 := by have := hb (nw k) (M.mem hz); omega
        have ev : v1 = nw k + (1024 * cst σ (i + 1) j + 1) := by omega
        have S := Mn_sh (d := 1024 * cst σ (i + 1) j + 1) (c := v1) M (fun x w => by have := hb x w; omega) (Or.inr ⟨hz, ev⟩)
        refine S.congr (fun x => ⟨fun ⟨y, w1, w2⟩ => ⟨by omega, y, ?_, w2⟩, fun ⟨w0, y, w1, w2⟩ => ⟨y, ?_, w2⟩⟩)
        · rw [show k + 2 - 2 = k by omega]; exact w1
        · rw [show k + 2 - 2 = k by omega] at w1; exact w1
      · rw [g3]
        exact (h.1 m h4 h5).congr (fun x => ⟨fun ⟨w1, w2⟩ => ⟨by omega, w2⟩, fun ⟨w1, w2⟩ => by omega⟩)
    · have e3 : th3 m = th m := by
        rcases h3 with ⟨-, v1, -, w⟩ | ⟨-, w⟩
        · rw [w, updI_n q]
        · rw [w]
      rw [e3]
      exact (h.1 m h4 h5).congr (fun x => ⟨fun ⟨w1, w2⟩ => ⟨by omega, w2⟩, fun ⟨w1, w2⟩ => ⟨by omega, w2⟩⟩)
  · rw [updI_s]
    have S := Mn_sh (d := (1024 * trn σ i + 32) + (1024 * cst σ (i + 1) j + 1)) (c := nw k + ((1024 * trn σ i + 32) + (1024 * cst σ (i + 1) j + 1))) M (fun x w => by have := hb x w; omega) (Or.inr ⟨hz, rfl⟩)
    have U := Mn_or (c := v2) S h.2 (by omega)
    refine U.congr (fun x => ⟨fun w => ?_, fun ⟨m, y, w1, w2, w3⟩ => ?_⟩)
    · rcases w with ⟨y, w1, w2⟩ | ⟨m, y, w1, w2⟩
      · exact ⟨k, y, by omega, w1, by omega⟩
      · exact ⟨m, y, by omega, w2⟩
    · by_cases q : m = k
      · left; rw [q] at w2; exact ⟨y, w2, by omega⟩
      · right; exact ⟨m, y, by omega, w2, w3⟩
theorem FWD_end {σ : Sg} (hs : okS σ) {L : List Int} {i j : Int} {th : Int → Int} (V : sF L ≤ i ∧ i < sNb σ ∧ may σ (sF L) i) (h : FWD σ L i j 18 th) : NWT σ (i :: L) j th := by
  have hp := hs.2.2.1
  intro k h1 h2
  by_cases q : k = 2
  · subst q
    refine h.2.congr (fun x => ?_)
    rw [NWs_cons V]
    constructor
    · rintro ⟨m, y, w1, w2, w3⟩
      exact Or.inl ⟨by decide, by decide, m / 2, m % 2 = 1, y, w2, w3⟩
    · rintro (⟨-, -, op', fi', y, w2, w3⟩ | ⟨w1, -⟩)
      · have b := NWs_B hs V.1 V.2.1 w2
        by_cases f : fi'
        · refine ⟨2 * op' + 1, y, by omega, ?_, w3⟩
          rw [show (2 * op' + 1) / 2 = op' by omega]
          exact (NWs_c ⟨fun _ => by omega, fun _ => f⟩).mp w2
        · refine ⟨2 * op', y, by omega, ?_, w3⟩
          rw [show (2 * op') / 2 = op' by omega]
          exact (NWs_c ⟨fun z => absurd z f, fun z => by omega⟩).mp w2
      · omega
  · refine (h.1 k (by omega) h2).congr (fun x => ?_)
    rw [NWs_cons V]
    constructor
    · rintro ⟨w1, y, w2, w3⟩
      refine Or.inr ⟨by omega, by omega, y, ?_, w3⟩
      rw [show k / 2 - 1 = (k - 2) / 2 by omega]
      exact (NWs_c ⟨fun _ => by omega, fun _ => by omega⟩).mp w2
    · rintro (⟨w1, w2, -⟩ | ⟨w1, w2, y, w3, w4⟩)
      · omega
      · refine ⟨by omega, y, ?_, w4⟩
        rw [show k / 2 - 1 = (k - 2) / 2 by omega] at w3
        exact (NWs_c ⟨fun _ => by omega, fun _ => by omega⟩).mp w3
theorem NWT_nil {σ : Sg} (hs : okS σ) {j : Int} {th : Int → Int} (hj : 0 ≤ j ∧ j < sNb σ) (h : ∀ m, 0 ≤ m → m < 18 → th m = 4611686018427387904) : NWT σ [] j (updI th 3 (1024 * cst σ 0 j + 1 + 32)) := by
  have c := cstB hs (a := 0) (b := j) (by omega) hj.1 hj.2
  intro k h1 h2
  by_cases q : k = 3
  · subst q
    rw [updI_s]
    refine Mn_1 (fun x => ?_) (by omega)
    rw [NWs_nil]
    constructor
    · intro w; omega
    · intro w; exact ⟨by decide, by decide, by omega⟩
  · rw [updI_n q, h k (by omega) h2]
    refine Mn_0 (fun x w => ?_)
    rw [NWs_nil] at w
    omega
/-- a line ends with j, and the whole is paid best -/
def RCH (σ : Sg) (be : Int) (L : List Int) (j mo : Int) : Prop := ∃ op fi x y, NWs σ L j op fi x ∧ RS σ (Tm σ mo) (j + 1) op fi y ∧ x + y = be
theorem RCH_hit {σ : Sg} (hs : okS σ) {be : Int} {L : List Int} {j mo : Int} {th rs : Int → Int} (hj : sF L ≤ j ∧ j < sNb σ ∧ 0 ≤ sF L) (hmo : 0 ≤ mo ∧ mo ≤ 24 ∧ (sCt σ = 0 → mo = 0)) (T : NWT σ L j th) (tb : tabM σ rs 0) (ge : ∀ op fi x y, NWs σ L j op fi x → RS σ (Tm σ mo) (j + 1) op fi y → be ≤ x + y) (h : RCH σ be L j mo) : ∃ k, (2 ≤ k ∧ k < 18) ∧ th k ≠ 4611686018427387904 ∧ k / 2 ≤ sPp σ ∧ rs (plc (j + 1) (k / 2) mo (k % 2 = 1)) ≠ 4611686018427387904 ∧ th k + rs (plc (j + 1) (k / 2) mo (k % 2 = 1)) = be := by
  have hp := hs.2.2.1
  obtain ⟨op, fi, x, y, h1, h2, h3⟩ := h
  have b := NWs_B hs hj.1 hj.2.1 h1
  obtain ⟨k, k1, k2, k3⟩ : ∃ k : Int, (2 ≤ k ∧ k < 18) ∧ k / 2 = op ∧ (fi ↔ k % 2 = 1) := by
    by_cases f : fi
    · exact ⟨2 * op + 1, by omega, by omega, ⟨fun _ => by omega, fun _ => f⟩⟩
    · exact ⟨2 * op, by omega, by omega, ⟨fun w => absurd w f, fun w => by omega⟩⟩
  rw [← k2] at h1 h2
  have h1 := (NWs_c k3).mp h1
  have h2 := (RS_c k3).mp h2
  have M1 := T k k1.1 k1.2
  have M2 := tb (j + 1) (k / 2) mo (k % 2 = 1) (by omega) (by omega) (by omega) (by omega) hmo.1 hmo.2.1 hmo.2.2
  have n1 : th k ≠ 4611686018427387904 := fun w => M1.none w x h1
  have n2 : rs (plc (j + 1) (k / 2) mo (k % 2 = 1)) ≠ 4611686018427387904 := fun w => M2.none w y h2
  have g := ge _ _ _ _ (M1.mem n1) (M2.mem n2)
  have l1 := M1.2.1 x h1
  have l2 := M2.2.1 y h2
  exact ⟨k, k1, n1, by omega, n2, by omega⟩
theorem FWD_r0 {σ : Sg} (hs : okS σ) {L : List Int} {i j k : Int} {th : Int → Int} (h0 : 0 ≤ sF L) (V : sF L ≤ i ∧ i < sNb σ ∧ may σ (sF L) i) (h1 : i + 1 ≤ j) (h2 : j < sNb σ) (h : FWD σ L i j k th) : ∀ m, 2 ≤ m → m < 18 → 0 ≤ th m ∧ th m ≤ 4611686018427387904 := by
  have c := cstB hs (a := i + 1) (b := j) (by omega) h1 h2
  have r := trnB hs i
  intro m m1 m2
  by_cases q : m = 2
  · rw [q]
    exact h.2.r0 (fun x w => by obtain ⟨a, y, w1, w2, w3⟩ := w; have := (NWs_B hs V.1 V.2.1 w2).2; omega)
  · exact (h.1 m (by omega) m2).r0 (fun x w => by obtain ⟨w1, y, w2, w3⟩ := w; have := (NWs_B hs V.1 V.2.1 w2).2; omega)
theorem RCH_of {σ : Sg} {be : Int} {L : List Int} {j mo k : Int} {th rs : Int → Int} (T : NWT σ L j th) (hk : 2 ≤ k ∧ k < 18) (tb : tabM σ rs 0) (hj : 0 ≤ j ∧ j < sNb σ) (hmo : 0 ≤ mo ∧ mo ≤ 24) (hmo3 : sCt σ = 0 → mo = 0) (h : th k ≠ 4611686018427387904 ∧ k / 2 ≤ sPp σ ∧ rs (plc (j + 1) (k / 2) mo (k % 2 = 1)) ≠ 4611686018427387904 ∧ th k + rs (plc (j + 1) (k / 2) mo (k % 2 = 1)) = be) : RCH σ be L j mo :=
  ⟨k / 2, k % 2 = 1, _, _, (T k hk.1 hk.2).mem h.1, (tb (j + 1) (k / 2) mo (k % 2 = 1) (by omega) (by omega) (by omega) h.2.1 hmo.1 hmo.2 hmo3).mem h.2.2.1, h.2.2.2⟩
end
