/-! taking the pages -/
noncomputable section
theorem PG_B {σ : Sg} (h : okS σ) {F : Int → Int} {lm : Int} (V : VL σ F lm) (hl : F lm = sNb σ) (h0 : F 0 = 0) : ∀ (n : Nat) (k x : Int), (lm - k).toNat = n → 0 ≤ k → k ≤ lm → PGs σ F lm k x → 0 ≤ x ∧ x ≤ 1100000000 * (lm - k) := by
  intro n
  induction n using Nat.strongRecOn with
  | ind n ih =>
    intro k x hn hk hk2 hx
    by_cases q : k = lm
    · rw [q, PG_lm hl] at hx; omega
    · obtain ⟨e, e1, e2, e3, y, hy, hxy⟩ := (PG_rec h V hl h0 hk (by omega)).mp hx
      have i := ih (lm - e).toNat (by omega) e y rfl (by omega) e2 hy
      have b := pcM_B h F lm k e
      omega
theorem PG_r0 {σ : Sg} (h : okS σ) {F : Int → Int} {lm k : Int} (V : VL σ F lm) (hl : F lm = sNb σ) (h0 : F 0 = 0) (hk : 0 ≤ k) (hk2 : k ≤ lm) (hm : lm ≤ 24) {x : Int} (q : PGs σ F lm k x) : 0 ≤ x ∧ x ≤ 26400000000 := by
  have := PG_B h V hl h0 _ k x rfl hk hk2 q
  omega
def PGi (σ : Sg) (F : Int → Int) (lm k e x : Int) : Prop := ∃ e', (k < e' ∧ e' < e ∧ e' ≤ lm ∧ e' - k ≤ sPp σ) ∧ ∃ y, PGs σ F lm e' y ∧ x = 1024 * pcM σ F lm k e' + 32 + y
theorem PGi_step {σ : Sg} (h : okS σ) {F : Int → Int} {lm k e a b v : Int} (V : VL σ F lm) (hl : F lm = sNb σ) (h0 : F 0 = 0) (hk : 0 ≤ k) (he : k < e) (he2 : e ≤ lm) (he3 : e - k ≤ sPp σ) (hm : lm ≤ 24) (A : Mn (PGi σ F lm k e) a) (B : Mn (PGs σ F lm e) b) (hb : b ≠ 4611686018427387904) (hv : (1024 * pcM σ F lm k e + 32 + b < a ∧ v = 1024 * pcM σ F lm k e + 32 + b) ∨ (a ≤ 1024 * pcM σ F lm k e + 32 + b ∧ v = a)) : Mn (PGi σ F lm k (e + 1)) v := by
  have p := pcM_B h F lm k e
  have S := Mn_sh (d := 1024 * pcM σ F lm k e + 32) (c := 1024 * pcM σ F lm k e + 32 + b) B (fun x q => by have := PG_r0 h V hl h0 (by omega) he2 hm q; omega) (Or.inr ⟨hb, by omega⟩)
  have U := Mn_or (c := v) S A hv
  refine U.congr (fun x => ⟨fun w => ?_, fun w => ?_⟩)
  · rcases w with ⟨y, w1, w2⟩ | ⟨e', w1, w2⟩
    · exact ⟨e, by omega, y, w1, by omega⟩
    · exact ⟨e', by omega, w2⟩
  · obtain ⟨e', w1, y, w2, w3⟩ := w
    by_cases q : e' = e
    · subst q; exact Or.inl ⟨y, w2, by omega⟩
    · exact Or.inr ⟨e', by omega, y, w2, w3⟩
theorem PGi_end {σ : Sg} (h : okS σ) {F : Int → Int} {lm k e a : Int} (V : VL σ F lm) (hl : F lm = sNb σ) (h0 : F 0 = 0) (hk : 0 ≤ k) (hk2 : k < lm) (he : lm < e ∨ sPp σ < e - k) (A : Mn (PGi σ F lm k e) a) : Mn (PGs σ F lm k) a := by
  refine A.congr (fun x => ?_)
  rw [PG_rec h V hl h0 hk hk2]
  constructor
  · rintro ⟨e', w1, w2⟩; exact ⟨e', w1.1, w1.2.2.1, w1.2.2.2, w2⟩
  · rintro ⟨e', w1, w2, w3, w4⟩; exact ⟨e', by omega, w4⟩
theorem VL_mono {σ : Sg} {F : Int → Int} {lm : Int} (V : VL σ F lm) {a : Int} (h0 : 0 ≤ a) : ∀ n : Nat, a + n + 1 ≤ lm → F a < F (a + n + 1) := by
  intro n
  induction n with
  | zero => intro h; have v := V a h0 (by omega); rw [show a + ((0 : Nat) : Int) + 1 = a + 1 by omega]; omega
  | succ n ih =>
    intro h
    have i := ih (by omega)
    have v := V (a + n + 1) (by omega) (by omega)
    rw [show a + ((n + 1 : Nat) : Int) + 1 = a + n + 1 + 1 by omega]
    omega
theorem VL_lt {σ : Sg} {F : Int → Int} {lm a b : Int} (V : VL σ F lm) (h0 : 0 ≤ a) (h1 : a < b) (h2 : b ≤ lm) : F a < F b := by
  have := VL_mono V h0 (b - a - 1).toNat (by omega)
  rw [show a + (((b - a - 1).toNat : Nat) : Int) + 1 = b by omega] at this
  exact this
theorem pgL_rev (F : Int → Int) : ∀ (n : Nat) (k : Int), ∃ X, (pgL F k n).reverse = (F (k + n + 1) - 1, true) :: X ∧ X.length = n := by
  intro n
  induction n with
  | zero => intro k; exact ⟨[], by rw [show k + ((0 : Nat) : Int) + 1 = k + 1 by omega]; rfl, rfl⟩
  | succ n ih =>
    intro k
    obtain ⟨X, h1, h2⟩ := ih (k + 1)
    refine ⟨X ++ [(F (k + 1) - 1, false)], ?_, by simp [h2]⟩
    show ((F (k + 1) - 1, false) :: pgL F (k + 1) n).reverse = _
    rw [List.reverse_cons, h1, show k + 1 + (n : Int) + 1 = k + ((n + 1 : Nat) : Int) + 1 by omega]
    rfl
/-- behind a page: the beginning that is one page longer -/
theorem page_next {σ : Sg} {R t : List (Int × Bool)} {F : Int → Int} {k : Int} {n : Nat} (hk : k = R.length) : ∃ R1, R.reverse ++ (pgL F k n ++ t) = R1.reverse ++ t ∧ stO R1 = 0 ∧ stF R1 = F (k + n + 1) ∧ (R1.length : Int) = k + n + 1 := by
  obtain ⟨X, h1, h2⟩ := pgL_rev F n k
  refine ⟨(F (k + n + 1) - 1, true) :: X ++ R, ?_, rfl, ?_, ?_⟩
  · rw [← h1, List.reverse_append, List.reverse_reverse, List.append_assoc]
  · show F (k + n + 1) - 1 + 1 = _; omega
  · rw [List.cons_append, List.length_cons, List.length_append, h2]; omega
theorem page_x {σ : Sg} {F : Int → Int} {lm k : Int} {n : Nat} {t : List (Int × Bool)} (V : VL σ F lm) (hl : F lm = sNb σ) (h0 : F 0 = 0) (hk : 0 ≤ k) (hn : k + n + 1 ≤ lm) : rkL σ (pgL F k n ++ t) (F k) 0 - BL σ F k (lm - k).toNat = 1024 * pcM σ F lm k (k + n + 1) + 32 + (rkL σ t (F (k + n + 1)) 0 - BL σ F (k + n + 1) (lm - (k + n + 1)).toNat) := by
  rw [pgL_rk]
  have b := BL_app σ F (n + 1) (lm - (k + n + 1)).toNat k
  rw [show n + 1 + (lm - (k + n + 1)).toNat = (lm - k).toNat by omega, show k + ((n + 1 : Nat) : Int) = k + n + 1 by omega] at b
  have ee := pcM_eq V hl h0 hk (show k < k + n + 1 by omega) hn
  rw [show k + (n : Int) + 1 - 1 = k + n by omega, show k + (n : Int) - k = 0 + n by omega] at ee
  rw [ee]
  omega
theorem Mn_is {S : Int → Prop} {a x : Int} (M : Mn S a) (hx : S x) (hm : ∀ y, S y → x ≤ y) : a = x := by
  have h1 := M.2.1 x hx
  rcases M.1 with q | q
  · have := hm a q; omega
  · have := M.2.2 x hx; omega
theorem page_has {σ : Sg} {R t : List (Int × Bool)} {F : Int → Int} {lm k gk ge : Int} {n : Nat} (V : VL σ F lm) (hl : F lm = sNb σ) (h0 : F 0 = 0) (hb : isBest σ (R.reverse ++ (pgL F k n ++ t))) (hk : k = R.length) (ho : stO R = 0) (hf : stF R = F k) (he : endL (pgL F k n ++ t) = lnl F k (lm - k).toNat) (het : endL t = lnl F (k + n + 1) (lm - (k + n + 1)).toNat) (hn : k + n + 1 ≤ lm) (G : Mn (PGs σ F lm k) gk) (E : Mn (PGs σ F lm (k + n + 1)) ge) : 1024 * pcM σ F lm k (k + n + 1) + 32 + ge = gk := by
  have T := tail_min hb ho hf he (by omega)
  have e1 := Mn_is G T.1 T.2
  have x := page_x (t := t) V hl h0 (by omega) hn
  obtain ⟨R1, r1, r2, r3, r4⟩ := page_next (t := t) (F := F) (n := n) (σ := σ) hk
  have e2 : ge = rkL σ t (F (k + n + 1)) 0 - BL σ F (k + n + 1) (lm - (k + n + 1)).toNat := by
    by_cases q : k + n + 1 = lm
    · have ht : t = [] := by
        cases t with
        | nil => rfl
        | cons y t => rw [show (lm - (k + n + 1)).toNat = 0 by omega] at het; cases het
      rw [q] at E
      rw [ht, show (lm - (k + n + 1)).toNat = 0 by omega]
      have := Mn_is E ((PG_lm hl).mpr rfl) (fun y w => by rw [(PG_lm hl).mp w]; exact Int.le_refl _)
      simp only [rkL, BL]; omega
    · have T1 := tail_min (s := t) (R := R1) (by rw [← r1]; exact hb) r2 r3 het (by omega)
      exact Mn_is E T1.1 T1.2
  omega
theorem page_eq {σ : Sg} (h : okS σ) {R t : List (Int × Bool)} {F : Int → Int} {lm k gk ge e : Int} {n : Nat} (V : VL σ F lm) (hl : F lm = sNb σ) (h0 : F 0 = 0) (hb : isBest σ (R.reverse ++ (pgL F k n ++ t))) (hk : k = R.length) (ho : stO R = 0) (hf : stF R = F k) (he : endL (pgL F k n ++ t) = lnl F k (lm - k).toNat) (hn : k + n + 1 ≤ e) (hn2 : e ≤ lm) (hn3 : e - k ≤ sPp σ) (G : Mn (PGs σ F lm k) gk) (E : Mn (PGs σ F lm e) ge) (q : 1024 * pcM σ F lm k e + 32 + ge = gk) : e = k + n + 1 := by
  have hp := h.2.2.1
  rcases Int.lt_or_le (k + n + 1) e with z | z
  · exfalso
    obtain ⟨n1, hn1⟩ : ∃ n1 : Nat, e = k + n1 + 1 := ⟨(e - k - 1).toNat, by omega⟩
    subst hn1
    have T := tail_min hb ho hf he (by omega)
    have e1 := Mn_is G T.1 T.2
    have pb := pcM_B h F lm k (k + n1 + 1)
    have hg : ge ≠ 4611686018427387904 := by
      intro w
      have := G.2.2 _ T.1
      omega
    obtain ⟨t1, k1, k2, k3⟩ := E.mem hg
    have x1 := page_x (t := t1) V hl h0 (show 0 ≤ k by omega) hn2
    have g2 := ((st_ok R _).mp hb.1).1
    have b0 := (st_B h R g2).1
    have ok1 : okL σ (R.reverse ++ (pgL F k n1 ++ t1)) 0 0 := (st_ok R _).mpr ⟨g2, by rw [ho, hf]; exact (pgL_ok V n1 k 0 t1 (by omega) hn2 (by omega)).mpr ⟨by omega, k1⟩⟩
    have ee : endL (pgL F k n1 ++ t1) = lnl F k (lm - k).toNat := by
      rw [pgL_endL, k2]
      have := lnl_app F (n1 + 1) (lm - (k + n1 + 1)).toNat k
      rw [show n1 + 1 + (lm - (k + n1 + 1)).toNat = (lm - k).toNat by omega, show k + ((n1 + 1 : Nat) : Int) = k + n1 + 1 by omega] at this
      exact this.symm
    have eL : endL (R.reverse ++ (pgL F k n ++ t)) = endL (R.reverse ++ (pgL F k n1 ++ t1)) := by rw [endL_app R.reverse (pgL F k n ++ t), endL_app R.reverse (pgL F k n1 ++ t1), he, ee]
    have hlen : (R.reverse ++ (pgL F k n1 ++ t1)).length = (R.reverse ++ (pgL F k n ++ t)).length := by
      have a1 : ∀ s : List (Int × Bool), s.length = (endL s).length := fun s => by simp [endL]
      rw [a1, a1 (R.reverse ++ (pgL F k n ++ t)), eL]
    have ne0 : pgL F k n ++ t ≠ [] := by cases n <;> simp [pgL]
    have ne1 : pgL F k n1 ++ t1 ≠ [] := by cases n1 <;> simp [pgL]
    have r0 := st_rk R _ ne0 hb.1
    have r1 := st_rk R _ ne1 ok1
    rw [ho, hf] at r0 r1
    have od := od_lessP h hb.1 ok1 eL (VL_lt V (by omega) z hn2) b0.1
    rcases hb.2.2 _ ok1 (by rw [hlen]; exact hb.2.1) with w | w
    · omega
    · omega
  · omega
/-- rows of ends, half made: of lines (G the bar behind), of pages (G the lines ahead) -/
def gOK (P : Int → Prop) (G : Int → Int) (i m : Int) (f : Int → Int) : Prop := m = cnt P i ∧ (0 < i → f 0 = 0) ∧ (∀ b, 0 ≤ b → b + 1 < i → P b → f (cnt P b + 1) = G (b + 1)) ∧ (0 < i → P (i - 1))
theorem gOK_step {P : Int → Prop} {G : Int → Int} (G0 : G 0 = 0) {i j m : Int} {f : Int → Int} (h : gOK P G i m f) (hi : 0 ≤ i) (hj : i ≤ j) (g : ∀ c, i ≤ c → c < j → ¬ P c) (hl : P j) : gOK P G (j + 1) (m + 1) (updI f m (G i)) := by
  obtain ⟨h1, h2, h3, h4⟩ := h
  have e := cnt_gap hi hj g
  have e2 := cnt_t (P := P) (k := j) (by omega) hl
  have c0 := cntB P hi
  refine ⟨by omega, fun _ => ?_, fun b b1 b2 b3 => ?_, fun _ => by rw [show j + 1 - 1 = j by omega]; exact hl⟩
  · by_cases q : i = 0
    · rw [h1, q, cnt_0, updI_s, G0]
    · have c1 := cnt_lt (P := P) (a := i - 1) (b := i) (by omega) (by omega) (h4 (by omega))
      have c2 := cntB P (a := i - 1) (by omega)
      rw [updI_n (by omega)]; exact h2 (by omega)
  · have hbi : b < i := by
      rcases Int.lt_or_le b i with q | q
      · exact q
      · exact absurd b3 (g b q (by omega))
    by_cases q : b + 1 = i
    · have c2 := cnt_t (P := P) (k := b) b1 b3
      rw [q] at c2
      rw [show cnt P b + 1 = m by omega, updI_s, q]
    · have c3 := cnt_lt (P := P) (a := i - 1) (b := i) (by omega) (by omega) (h4 (by omega))
      have c4 := cnt_lt (P := P) (a := b) (b := i - 1) b1 (by omega) b3
      rw [updI_n (by omega)]; exact h3 b b1 (by omega) b3
theorem gOK_end {P : Int → Prop} {G : Int → Int} {n m : Int} {f : Int → Int} (h : gOK P G n m f) (hn : 0 < n) : m = cnt P n ∧ (updI f m (G n)) 0 = 0 ∧ ∀ b, 0 ≤ b → b < n → P b → (updI f m (G n)) (cnt P b + 1) = G (b + 1) := by
  obtain ⟨h1, h2, h3, h4⟩ := h
  have c1 := cnt_lt (P := P) (a := n - 1) (b := n) (by omega) (by omega) (h4 (by omega))
  have c2 := cntB P (a := n - 1) (by omega)
  refine ⟨h1, by rw [updI_n (by omega)]; exact h2 hn, fun b b1 b2 b3 => ?_⟩
  by_cases q : b + 1 = n
  · have c2 := cnt_t (P := P) (k := b) b1 b3
    rw [q] at c2
    rw [show cnt P b + 1 = m by omega, updI_s, q]
  · have c4 := cnt_lt (P := P) (a := b) (b := n - 1) b1 (by omega) b3
    rw [updI_n (by omega)]; exact h3 b b1 (by omega) b3
/-- where pages end -/
theorem endP_gap {σ : Sg} (h : okS σ) {R t : List (Int × Bool)} {F : Int → Int} {k : Int} {n : Nat} (hk : okL σ (R.reverse ++ (pgL F k n ++ t)) 0 0) (hf : stF R = F k) (hlt : F k ≤ F (k + n + 1) - 1) : (∀ c, F k ≤ c → c < F (k + n + 1) - 1 → c ∉ endP (R.reverse ++ (pgL F k n ++ t))) ∧ (F (k + n + 1) - 1) ∈ endP (R.reverse ++ (pgL F k n ++ t)) := by
  have hn := h.1
  obtain ⟨g2, g3⟩ := (st_ok R _).mp hk
  have b0 := (st_B h R g2).1
  rw [endP_app, pgL_endP]
  refine ⟨fun c h1 h2 hc => ?_, List.mem_append_right _ List.mem_cons_self⟩
  rcases List.mem_append.mp hc with q | q
  · have q := endP_sub q
    rw [endL_rev] at q
    have q := List.mem_reverse.mp q
    have hlt2 : ∀ {R : List (Int × Bool)}, stK σ R → ∀ c ∈ endL R, c < stF R := by
      intro R
      induction R with
      | nil => intro _ c hc; cases hc
      | cons x R ih =>
        intro hk c hc
        obtain ⟨t, b⟩ := x
        rw [stF_c]
        rcases List.mem_cons.mp hc with w | w
        · have w : c = t := w; omega
        · have k1 : stK σ R ∧ stF R ≤ t := by
            cases b with
            | true => exact ⟨hk.1, hk.2.1⟩
            | false => exact ⟨hk.1, hk.2.1⟩
          have := ih k1.1 c w; have := k1.2; omega
    have := hlt2 g2 c q
    omega
  · have a0 := (okL_incr h g3).2
    rw [pgL_endP] at a0
    have c0 : incr (F (k + n + 1) - 1) ((F (k + n + 1) - 1) :: endP t) := ⟨Int.le_refl _, a0.2⟩
    have := (incr_ge c0 q).1
    omega
theorem PG_some {σ : Sg} (h : okS σ) {F : Int → Int} {lm : Int} (V : VL σ F lm) (hl : F lm = sNb σ) (h0 : F 0 = 0) : ∀ (n : Nat) (k : Int), (lm - k).toNat = n → 0 ≤ k → k ≤ lm → ∃ x, PGs σ F lm k x := by
  have hp := h.2.2.1
  intro n
  induction n with
  | zero => intro k hn hk hk2; exact ⟨0, by rw [show k = lm by omega]; exact (PG_lm hl).mpr rfl⟩
  | succ n ih =>
    intro k hn hk hk2
    obtain ⟨y, hy⟩ := ih (k + 1) (by omega) (by omega) (by omega)
    exact ⟨_, (PG_rec h V hl h0 hk (by omega)).mpr ⟨k + 1, by omega, by omega, by omega, y, hy, rfl⟩⟩
theorem PG_ne {σ : Sg} (h : okS σ) {F : Int → Int} {lm k g : Int} (V : VL σ F lm) (hl : F lm = sNb σ) (h0 : F 0 = 0) (hk : 0 ≤ k) (hk2 : k ≤ lm) (M : Mn (PGs σ F lm k) g) : g ≠ 4611686018427387904 := by
  intro w
  obtain ⟨x, hx⟩ := PG_some h V hl h0 _ k rfl hk hk2
  exact M.none w x hx
end
