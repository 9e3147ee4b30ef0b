/-! bits: rows of the kit's text to paste -/
def bt (x : Int32) (i : Nat) : Bool := x.toBitVec.getLsbD i
theorem b_ext {x y : Int32} (h : ∀ i, i < 32 → bt x i = bt y i) : x = y := Int32.toBitVec_inj.mp (BitVec.eq_of_getLsbD_eq (fun i hi => h i hi))
theorem b_or (x y : Int32) (i : Nat) : bt (x ||| y) i = (bt x i || bt y i) := by unfold bt; rw [Int32.toBitVec_or, BitVec.getLsbD_or]
theorem b_and (x y : Int32) (i : Nat) : bt (x &&& y) i = (bt x i && bt y i) := by unfold bt; rw [Int32.toBitVec_and, BitVec.getLsbD_and]
theorem b_xor (x y : Int32) (i : Nat) : bt (x ^^^ y) i = (bt x i ^^ bt y i) := by unfold bt; rw [Int32.toBitVec_xor, BitVec.getLsbD_xor]
theorem b_big {x : Int32} {i : Nat} (h : 32 ≤ i) : bt x i = false := BitVec.getLsbD_of_ge _ _ h
theorem b_m1 : ∀ i, i < 32 → bt (-1) i = true := by decide +kernel
theorem b_0 (i : Nat) : bt 0 i = false := BitVec.getLsbD_zero
theorem s_l : ∀ n, n < 32 → ((nI n &&& 31).toBitVec.smod 32).toNat = n := by decide +kernel
theorem s_u : ∀ n, n < 32 → (((nI n).toUInt32 &&& Int32.toUInt32 31).toBitVec % 32).toNat = n := by decide +kernel
theorem b_shl (n : Nat) (hn : n < 32) (x : Int32) {i : Nat} (hi : i < 32) : bt (x <<< (nI n &&& 31)) i = (decide (n ≤ i) && bt x (i - n)) := by
  unfold bt
  rw [Int32.toBitVec_shiftLeft]
  show (x.toBitVec <<< ((nI n &&& 31).toBitVec.smod 32).toNat).getLsbD i = _
  rw [s_l n hn, BitVec.getLsbD_shiftLeft]
  rcases Nat.lt_or_ge i n with h | h
  · simp [h, Nat.not_le.mpr h]
  · simp [hi, h, Nat.not_lt.mpr h]
theorem b_ushr (n : Nat) (hn : n < 32) (x : Int32) (i : Nat) : bt ((x.toUInt32 >>> ((nI n).toUInt32 &&& Int32.toUInt32 31)).toInt32) i = bt x (n + i) := by
  show (x.toUInt32 >>> ((nI n).toUInt32 &&& Int32.toUInt32 31)).toBitVec.getLsbD i = x.toUInt32.toBitVec.getLsbD (n + i)
  rw [UInt32.toBitVec_shiftRight]
  show (x.toUInt32.toBitVec >>> (((nI n).toUInt32 &&& Int32.toUInt32 31).toBitVec % 32).toNat).getLsbD i = _
  rw [s_u n hn, BitVec.getLsbD_ushiftRight]
theorem b_sshr (n : Nat) (hn : n < 32) (x : Int32) {i : Nat} (hi : i < 32) : bt (x >>> (nI n &&& 31)) i = if n + i < 32 then bt x (n + i) else bt x 31 := by
  unfold bt
  rw [Int32.toBitVec_shiftRight]
  show (x.toBitVec.sshiftRight ((nI n &&& 31).toBitVec.smod 32).toNat).getLsbD i = _
  rw [s_l n hn, BitVec.getLsbD_sshiftRight, BitVec.msb_eq_getLsbD_last]
  simp [hi]
noncomputable section
/-! the mathematical state: bars, width, lines a page, count, costs, least widths, wished widths, marks (3 * bar + mark) -/
abbrev Sg : Type := Int × Int × Int × Int × (Int → Int) × (Int → Int) × (Int → Int) × (Int → Bool)
def sNb (σ : Sg) : Int := σ.1
def sWd (σ : Sg) : Int := σ.2.1
def sPp (σ : Sg) : Int := σ.2.2.1
def sCt (σ : Sg) : Int := σ.2.2.2.1
def sCs (σ : Sg) : Int → Int := σ.2.2.2.2.1
def sLs (σ : Sg) : Int → Int := σ.2.2.2.2.2.1
def sWs (σ : Sg) : Int → Int := σ.2.2.2.2.2.2.1
def sM (σ : Sg) : Int → Bool := σ.2.2.2.2.2.2.2
def okS (σ : Sg) : Prop := (0 ≤ sNb σ ∧ sNb σ ≤ 24) ∧ (100 ≤ sWd σ ∧ sWd σ ≤ 5000) ∧ (1 ≤ sPp σ ∧ sPp σ ≤ 8) ∧ (0 ≤ sCt σ ∧ sCt σ ≤ 24) ∧ (∀ k, 0 ≤ k → k < 5 → 0 ≤ sCs σ k ∧ sCs σ k ≤ 1000000) ∧ (∀ k, 0 ≤ k → k < sNb σ → 1 ≤ sLs σ k ∧ sLs σ k ≤ sWs σ k ∧ sWs σ k ≤ 400)
def preN (f : Int → Int) : Nat → Int
  | 0 => 0
  | n + 1 => preN f n + f n
def pre (f : Int → Int) (k : Int) : Int := preN f k.toNat
theorem pre_0 (f : Int → Int) : pre f 0 = 0 := rfl
theorem pre_s (f : Int → Int) {k : Int} (h : 0 ≤ k) : pre f (k + 1) = pre f k + f k := by
  obtain ⟨n, rfl⟩ : ∃ n : Nat, k = n := ⟨k.toNat, by omega⟩
  show preN f ((n : Int) + 1).toNat = preN f (n : Int).toNat + f n
  rw [show ((n : Int) + 1).toNat = n + 1 by omega, show ((n : Int)).toNat = n by omega]
  rfl
theorem pre_c {f g : Int → Int} : ∀ {k : Int}, (∀ j, 0 ≤ j → j < k → f j = g j) → pre f k = pre g k := by
  intro k h
  unfold pre
  have : ∀ n : Nat, (n : Int) ≤ k.toNat → preN f n = preN g n := by
    intro n
    induction n with
    | zero => intro _; rfl
    | succ n ih =>
      intro hn
      show preN f n + f n = preN g n + g n
      rw [ih (by omega), h n (by omega) (by omega)]
  exact this _ (Int.le_refl _)
def tot (f : Int → Int) (a b : Int) : Int := pre f (b + 1) - pre f a
def dd (σ : Sg) (a b : Int) : Int := sWd σ - tot (sWs σ) a b
def cst (σ : Sg) (a b : Int) : Int := if sWd σ < tot (sLs σ) a b then sCs σ 3 else if dd σ a b < 0 then sCs σ 0 * dd σ a b * dd σ a b else if b = sNb σ - 1 then 0 else sCs σ 4 * dd σ a b * dd σ a b
def may (σ : Sg) (a b : Int) : Prop := (∀ k, a ≤ k → k < b → sM σ (3 * k) = false) ∧ (sM σ (3 * b + 1) = false ∨ sM σ (3 * b) = true ∨ b = sNb σ - 1) ∧ (a = b ∨ ¬ sWd σ < tot (sLs σ) a b)
def trn (σ : Sg) (b : Int) : Int := if sM σ (3 * b + 2) = true then 0 else sCs σ 1
def lpr (σ : Sg) (a b : Int) : Int := @ite _ (may σ a b) (Classical.propDecidable _) (cst σ a b) (-1)
/-- how wide the bars of the line a..b ahead of k are set together -/
def ahd (σ : Sg) (a b k : Int) : Int := if sWd σ < tot (sLs σ) a b then pre (sLs σ) k - pre (sLs σ) a else if 0 ≤ dd σ a b then (pre (sWs σ) k - pre (sWs σ) a) + dd σ a b * (pre (sWs σ) k - pre (sWs σ) a) / tot (sWs σ) a b else (pre (sWs σ) k - pre (sWs σ) a) - (-dd σ a b) * ((pre (sWs σ) k - pre (sWs σ) a) - (pre (sLs σ) k - pre (sLs σ) a)) / (tot (sWs σ) a b - tot (sLs σ) a b)
theorem preB {σ : Sg} (h : okS σ) {a b : Int} (ha : 0 ≤ a) (hab : a ≤ b) (hb : b ≤ sNb σ) : b - a ≤ pre (sLs σ) b - pre (sLs σ) a ∧ pre (sLs σ) b - pre (sLs σ) a ≤ pre (sWs σ) b - pre (sWs σ) a ∧ pre (sWs σ) b - pre (sWs σ) a ≤ 400 * (b - a) := by
  obtain ⟨n, hn⟩ : ∃ n : Nat, b = a + n := ⟨(b - a).toNat, by omega⟩
  subst hn
  clear hab
  induction n with
  | zero => simp
  | succ n ih =>
    have h1 := ih (by omega)
    have h2 := h.2.2.2.2.2 (a + n) (by omega) (by omega)
    have e : a + ((n + 1 : Nat) : Int) = (a + n) + 1 := by omega
    rw [e, pre_s _ (by omega), pre_s _ (by omega)]
    omega
/-- the first object's parts: its sums of widths and its marks as bits say the state -/
def okP (σ : Sg) (la wa : Int → Int) (mk : Nat → Int32) : Prop := okS σ ∧ (∀ k, 0 ≤ k → k ≤ sNb σ → la k = pre (sLs σ) k ∧ wa k = pre (sWs σ) k) ∧ (∀ m b : Nat, m < 3 → b < 24 → bt (mk m) b = sM σ (3 * b + m))
/-! bits of ints that are images -/
theorem jI_n {z : Int} (h : 0 ≤ z) : jI z = nI z.toNat := by
  show Int32.ofInt z = Int32.ofNat z.toNat
  rw [← Int32.ofInt_eq_ofNat]
  congr 1
  omega
theorem jL_n {z : Int} (h : 0 ≤ z) : jL z = lN z.toNat := by
  show Int64.ofInt z = Int64.ofNat z.toNat
  rw [← Int64.ofInt_eq_ofNat]
  congr 1
  omega
theorem bt_1 : ∀ i, i < 32 → bt (jI 1) i = decide (i = 0) := by decide +kernel
theorem bt_and1 (y : Int32) : y &&& jI 1 = jI 1 ↔ bt y 0 = true := by
  constructor
  · intro h
    have h1 := congrArg (fun x => bt x 0) h
    simp only [b_and, bt_1 0 (by omega)] at h1
    simpa using h1
  · intro h
    apply b_ext
    intro i hi
    rw [b_and, bt_1 i hi]
    by_cases q : i = 0
    · subst q; simp [h]
    · simp [q]
theorem bt_mark {b : Int} (x : Int32) (h0 : 0 ≤ b) (h : b < 24) : x >>> (jI b &&& 31) &&& jI 1 = jI 1 ↔ bt x b.toNat = true := by
  rw [jI_n h0, bt_and1, b_sshr b.toNat (by omega) x (by omega), if_pos (by omega)]
  simp
theorem jI_pow : ∀ n, n < 24 → jI 1 <<< (nI n &&& 31) = jI (2 ^ n) := by decide +kernel
theorem jI_bit {b : Int} (h0 : 0 ≤ b) (h : b < 24) : jI 1 <<< (jI b &&& 31) = jI (2 ^ b.toNat) := by
  rw [jI_n h0]
  exact jI_pow b.toNat (by omega)
theorem bt_pow : ∀ n, n < 24 → ∀ i, i < 32 → bt (jI (2 ^ n)) i = decide (i = n) := by decide +kernel
theorem bt_inv : ∀ n, n < 24 → ∀ i, i < 32 → bt (jI (2 ^ n) ^^^ jI (-1)) i = decide (i ≠ n) := by decide +kernel
theorem bt_rng : ∀ t, t < 24 → ∀ f, f < 24 → f ≤ t → ∀ i, i < 32 → bt (jI (2 ^ t - 2 ^ f)) i = decide (f ≤ i ∧ i < t) := by decide +kernel
theorem bt_may {x : Int32} {f t : Int} (h0 : 0 ≤ f) (h1 : f ≤ t) (h2 : t < 24) : x &&& jI (2 ^ t.toNat - 2 ^ f.toNat) = 0 ↔ ∀ k : Int, f ≤ k → k < t → bt x k.toNat = false := by
  constructor
  · intro h k hk1 hk2
    have q := congrArg (fun y => bt y k.toNat) h
    simp only [b_and, b_0] at q
    rw [bt_rng t.toNat (by omega) f.toNat (by omega) (by omega) k.toNat (by omega), decide_eq_true (by omega), Bool.and_true] at q
    exact q
  · intro h
    apply b_ext
    intro i hi
    rw [b_and, b_0, bt_rng t.toNat (by omega) f.toNat (by omega) (by omega) i hi]
    by_cases q : f.toNat ≤ i ∧ i < t.toNat
    · have := h i (by omega) (by omega)
      rw [show ((i : Int)).toNat = i by omega] at this
      simp [this]
    · rw [decide_eq_false q]; simp
theorem jL_pow : ∀ n, n < 48 → jL 1 <<< ((nI n).toInt64 &&& 63) = jL (2 ^ n) := by decide +kernel
theorem jL_bit {b : Int} (h0 : 0 ≤ b) (h : b < 48) : jL 1 <<< ((jI b).toInt64 &&& 63) = jL (2 ^ b.toNat) := by
  rw [jI_n h0]
  exact jL_pow b.toNat (by omega)
theorem jL_and {o : Int} {k : Nat} (h0 : 0 ≤ o) (h : o < 9223372036854775808) (hk : k < 63) : jL o &&& jL (2 ^ k) = jL 0 ↔ ¬ o / 2 ^ k % 2 = 1 := by
  obtain ⟨n, rfl⟩ : ∃ n : Nat, o = n := ⟨o.toNat, by omega⟩
  have e2 : ((2 : Int) ^ k) = ((2 ^ k : Nat) : Int) := (Int.natCast_pow 2 k).symm
  have hp : (2 : Nat) ^ k < 2 ^ 63 := Nat.pow_lt_pow_right (by omega) hk
  have hn : n < 2 ^ 63 := by omega
  rw [e2, jL_n (by omega), jL_n (Int.natCast_nonneg _)]
  rw [Int.toNat_natCast, Int.toNat_natCast]
  have hb : lN n &&& lN (2 ^ k) = lN (n &&& 2 ^ k) := by
    apply Int64.toBitVec_inj.1
    show BitVec.ofNat 64 n &&& BitVec.ofNat 64 (2 ^ k) = BitVec.ofNat 64 (n &&& 2 ^ k)
    apply BitVec.eq_of_getLsbD_eq
    intro i hi
    simp [hi]
  have hl : n &&& 2 ^ k < 2 ^ 63 := Nat.lt_of_le_of_lt Nat.and_le_left hn
  rw [hb, show jL 0 = lN 0 from rfl, pk_lEQ hl (by omega)]
  have hz : n &&& 2 ^ k = 0 ↔ n.testBit k = false := by
    constructor
    · intro w
      have w2 := congrArg (fun x => Nat.testBit x k) w
      simpa [Nat.testBit_and] using w2
    · intro w
      apply Nat.eq_of_testBit_eq
      intro i
      rw [Nat.testBit_and, Nat.testBit_two_pow, Nat.zero_testBit]
      by_cases q : k = i
      · subst q; simp [w]
      · simp [q]
  have ht : n.testBit k = decide (n / 2 ^ k % 2 = 1) := Nat.testBit_eq_decide_div_mod_eq
  have hc : ((n : Int) / ((2 ^ k : Nat) : Int) % 2 = 1) ↔ n / 2 ^ k % 2 = 1 := by omega
  rw [hz, hc, ht, decide_eq_false_iff_not]
/-! the worlds: the class's sixteen cells are q 0 .. q 15, the reference's eleven r 0 .. r 10 -/
abbrev wPc (q : Nat → Nat) (cI : ClassId) (nb wd pp ct : Int) (cs : Int → Int) (mk : Nat → Int32) (la wa : Int → Int) : va_W := [(q 0, .inr (0, [.int (jI nb), .int (jI wd), .int (jI pp), .int (jI ct), .ref (q 1), .ref (q 2), .ref (q 3), .ref (q 4)])), (q 1, .inl (cI, 5, .inl (fun k : Nat => jI (cs k)))), (q 2, .inl (cI, 3, .inl mk)), (q 3, .inl (cI, 25, .inl (fun k : Nat => jI (la k)))), (q 4, .inl (cI, 25, .inl (fun k : Nat => jI (wa k))))]
abbrev wSe (q : Nat → Nat) (cJ : ClassId) (lp tp rk od : Int → Int) (fr fo : Int) : va_W := [(q 5, .inr (1, [.ref (q 0), .ref (q 6), .ref (q 7), .ref (q 8), .ref (q 9), .long (jL fr), .long (jL fo)])), (q 6, .inl (cJ, 576, .inr (.inl (fun k : Nat => jL (lp k))))), (q 7, .inl (cJ, 24, .inr (.inl (fun k : Nat => jL (tp k))))), (q 8, .inl (cJ, 192, .inr (.inl (fun k : Nat => jL (rk k))))), (q 9, .inl (cJ, 192, .inr (.inl (fun k : Nat => jL (od k)))))]
abbrev wSt (q : Nat → Nat) (cI : ClassId) (ex : Prop) (to ln pg : Int) (fb fl pl lb : Int → Int) : va_W := [(q 10, .inr (2, [.int (jZ ex), .long (jL to), .int (jI ln), .int (jI pg), .ref (q 11), .ref (q 12), .ref (q 13), .ref (q 14)])), (q 11, .inl (cI, 25, .inl (fun k : Nat => jI (fb k)))), (q 12, .inl (cI, 25, .inl (fun k : Nat => jI (fl k)))), (q 13, .inl (cI, 24, .inl (fun k : Nat => jI (pl k)))), (q 14, .inl (cI, 24, .inl (fun k : Nat => jI (lb k))))]
abbrev wBl (q : Nat → Nat) (kn : Prop) : va_W := [(q 15, .inr (3, [.ref (q 0), .ref (q 5), .ref (q 10), .int (jZ kn)]))]
abbrev wMo (r : Nat → Nat) (cI cJ cZ : ClassId) (wd pp nb : Int) (ls ws : Int → Int) (M : Int → Bool) (cs : Int → Int) (ct : Int) (rs : Int → Int) (kn : Prop) (be lm : Int) (lf : Int → Int) (pm : Int) (pf nw th pg : Int → Int) : va_W := [(r 0, .inr (4, [.int (jI wd), .int (jI pp), .int (jI nb), .ref (r 1), .ref (r 2), .ref (r 3), .ref (r 4), .int (jI ct), .ref (r 5), .int (jZ kn), .long (jL be), .int (jI lm), .ref (r 6), .int (jI pm), .ref (r 7), .ref (r 8), .ref (r 9), .ref (r 10)])), (r 1, .inl (cI, 24, .inl (fun k : Nat => jI (ls k)))), (r 2, .inl (cI, 24, .inl (fun k : Nat => jI (ws k)))), (r 3, .inl (cZ, 72, .inl (fun k : Nat => jZ (M k = true)))), (r 4, .inl (cJ, 5, .inr (.inl (fun k : Nat => jL (cs k))))), (r 5, .inl (cJ, 11250, .inr (.inl (fun k : Nat => jL (rs k))))), (r 6, .inl (cI, 25, .inl (fun k : Nat => jI (lf k)))), (r 7, .inl (cI, 25, .inl (fun k : Nat => jI (pf k)))), (r 8, .inl (cJ, 18, .inr (.inl (fun k : Nat => jL (nw k))))), (r 9, .inl (cJ, 18, .inr (.inl (fun k : Nat => jL (th k))))), (r 10, .inl (cJ, 25, .inr (.inl (fun k : Nat => jL (pg k)))))]
end
