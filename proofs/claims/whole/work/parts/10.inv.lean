/-! what the first object keeps -/
noncomputable section
def bstOK (σ : Sg) (ex : Prop) (to ln pg : Int) (fb fl pl lb : Int → Int) : Prop := ∃ R Z, Bst (Cmp σ (Tc σ) 0 0) R Z ∧ (ex ↔ R ≠ 9223372036854775807) ∧ to = (if R = 9223372036854775807 then -1 else R / 1024) ∧ (R ≠ 9223372036854775807 → setOK (fun b => Z / leB b % 2 = 1) (fun b => Z / peB b % 2 = 1) (sNb σ) ln pg fb fl pl lb)
def clsI (σ : Sg) (kn ex : Prop) (to ln pg : Int) (fb fl pl lb : Int → Int) : Prop := (fb 0 = 0 ∧ fl 0 = 0) ∧ (kn → bstOK σ ex to ln pg fb fl pl lb)
def iteP (P : Prop) (a b : Int) : Int := @ite _ P (Classical.propDecidable P) a b
theorem iteP_t {P : Prop} (h : P) (a b : Int) : iteP P a b = a := if_pos h
theorem iteP_f {P : Prop} (h : ¬ P) (a b : Int) : iteP P a b = b := if_neg h
theorem setOK_ln {LE PE : Int → Prop} {n ln pg : Int} {fb fl pl lb : Int → Int} (h : setOK LE PE n ln pg fb fl pl lb) (hn : 0 ≤ n) : (0 ≤ ln ∧ ln ≤ n) ∧ (0 ≤ pg ∧ pg ≤ n) := by
  have h1 := cntB LE hn
  have h2 := cntB PE hn
  rw [h.1, h.2.1]
  exact ⟨h1, h2⟩
end
