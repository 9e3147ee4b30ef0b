/-! rows of constructors: new arrays, new objects, the call of a constructor, its return -/
noncomputable section
def zI : Int → Int := fun _ => 0
def zB : Int → Bool := fun _ => false
def zM : Nat → Int32 := fun _ => 0
def qF : List Nat → Nat → Nat
  | [], _ => 0
  | x :: _, 0 => x
  | _ :: t, k + 1 => qF t k
def q9 (q : Nat → Nat) (h : Nat) : Nat → Nat
  | 15 => h
  | k => q k
def q0 (q : Nat → Nat) (h : Nat) : Nat → Nat
  | 0 => h
  | k + 1 => q k
def cs0 : Int → Int := updI (updI (updI (updI (updI zI 0 4) 1 1000) 2 500) 3 100000) 4 1
def sg0 (wd pp : Int) : Sg := (0, wd, pp, 0, cs0, zI, zI, zB)
def u0C (wd pp : Int) : CU := (sg0 wd pp, zI, zI, zM, zI, zI, zI, zI, 9223372036854775807, 0, False, 0, 0, 0, zI, zI, zI, zI, False)
def u0M (wd pp : Int) : MU := (sg0 wd pp, zI, False, 0, 0, zI, 0, zI, zI, zI, zI)
theorem zcI (cA : ClassId) (N : Nat) : vp_cell cA (N, .inl (fun k : Nat => jI (zI k))) = arrV cA N (fun _ => defaultValue .int) := rfl
theorem zcM (cA : ClassId) (N : Nat) : vp_cell cA (N, .inl zM) = arrV cA N (fun _ => defaultValue .int) := rfl
theorem zcL (cA : ClassId) (N : Nat) : vp_cell cA (N, .inr (.inl (fun k : Nat => jL (zI k)))) = arrV cA N (fun _ => defaultValue .long) := rfl
theorem zcZ (cA : ClassId) (N : Nat) : vp_cell cA (N, .inl (fun k : Nat => jZ (zB k = true))) = arrV cA N (fun _ => defaultValue .boolean) := by
  rw [show (fun k : Nat => jZ (zB k = true)) = fun _ : Nat => (0 : Int32) from funext fun k => by rw [jZ_f (fun h => by cases h)]; decide]
  rfl
abbrev rmN (fr lo mc ms : Nat) : Room := { frames := fr, cells := mc, slots := ms, locals := lo }
abbrev MuN (l : Launch) (y : MethodName) (ws : List Cond) (fr lo mc ms : Nat) (D : va_G) (tys : List (ClassId × FieldType)) (w : va_W) (av : List Value) {S : Type} (w1 : S → va_W) : Prop := ∀ sz : Nat, Met l y ws (rmN fr lo mc ms) (MuPre D tys sz w av) (va_Qv (fun _ : S => True) (fun u t => va_P D vwCl (w1 u) t.heap ∧ va_D (va_A w sz) (w1 u)) (va_A w sz)) mc ms (va_A w sz)
section JN
variable {p : Program} {l : Launch} {e : Env} {R : Room} {s : State} {m : MethodId} {args : Array Value} {below : List Frame} {meth : Method} {c : Code} {H : Heap} {locs : List Loc} {cells slots : Nat} {Q : State → Prop} {cc : ByteArray} {pc : Nat} {ls : Array Slot} {rest : List Value} {D : va_G} {tys : List (ClassId × FieldType)} {wc wr W0 : va_W} {y : MethodName} {ws : List Cond} {fr lo mc ms nL n maxL index : Nat} {Ts : List Cond} {own C : String} {bytes : ByteArray} {b : Nat} {As st0 : List Value} {A : Nat → Prop} {H0 : Heap}
theorem j_newa (hx : p.tables.exec = Jvm.exec) (hb : c.code = cc) {atype : ArrayType} (harr : (Cond.arrayClass (newarray.typeOf atype)).before args s = true) {ty : FieldType} (hty : newarray.typeOf atype = ty) (hK : va_K D vwCl tys s) (hP : va_P D vwCl W0 H) (hD : va_D A W0) (hS : va_S A H0 H locs) (hA : ∀ q, H0.size ≤ q → A q) (t0 : Nat) {cT : ClassId} (ht : tys[t0]? = some (cT, ty)) (hq : ∀ c1 c2, va_RA s c1 ty → va_RA s c2 ty → c1 = c2) {z : Int} {a0 : vp_A} (N : Nat) (ha : ∀ cA : ClassId, vp_cell cA a0 = arrV cA N (fun _ => defaultValue ty)) (hn : z = N ∧ z < 1000000) (hbytes : N * componentBytes ty ≤ 536870912) {c2 s2 : Nat} (hcells : c2 ≤ R.cells) (hslots : s2 ≤ R.slots) (e1 : cells + 1 = c2) (e2 : slots + N = s2) (hdg : decode cc pc = .ok (.newarray atype, 2))
    (kk : ∀ (q : Nat) (H1 : Heap), va_P D vwCl (W0 ++ [(q, .inl (cT, a0))]) H1 → va_D A (W0 ++ [(q, .inl (cT, a0))]) → va_S A H0 H1 locs → W p l e R s m args below meth c H1 locs c2 s2 Q (F0 m (pc + 2) ls (.ref q :: rest))) : W p l e R s m args below meth c H locs cells slots Q (F0 m pc ls (.int (jI z) :: rest)) := by
  subst e1; subst e2
  refine va_newa hx hb harr hty hK hP hD hS hA ha ?_ ?_ hbytes hcells hslots hdg (fun q cA H1 hK1 hP1 hD1 hS1 => ?_)
  · rw [show (0 : Int32) = jI 0 by decide, jI_lt ⟨by omega, by omega⟩ i32_0]; omega
  · rw [jI_cl (by omega) (by omega)]; omega
  · have h1 := (hK1.2 tys.length (cA, ty) (by simp)).2
    have h2 := (hK.2 t0 _ ht).2
    have h3 := hq _ _ h1 h2
    subst h3
    exact kk q H1 hP1 hD1 hS1
theorem j_mI (S9 : CallFix p m c cc nL s args Ts own) {S : Type} {w1 : S → va_W} (hM : MuN l y ws fr lo mc ms D tys wc (.ref b :: As) w1) (cw : CallB R s args own index y bytes maxL none ws (rmN fr lo mc ms) mc ms n ∧ y.name = "<init>" ∧ (Cond.instanceMethod y).before args s = true) (hK : va_K D vwCl tys s) (hP : va_P D vwCl W0 H) (hD : va_D A W0) (hS : va_S A H0 H locs) (hA : ∀ q, H0.size ≤ q → A q) (hn : As.length = n) (hsize : ls.size = nL) (hst : st0 = As.reverse ++ .ref b :: rest) (hW : (rest.map fun v => v.category).sum ≤ 8) {c2 s2 : Nat} (hf : c2 ≤ R.cells ∧ s2 ≤ R.slots) (e1 : cells + mc = c2) (e2 : slots + ms = s2) (hdg : decode cc pc = .ok (.invokespecial index, 3))
    (isC isR : List Nat) (hC : isC.map (fun i => W0[i]?) = wc.map some) (hcn : va_nd isC = true) (hR : isR.map (fun i => W0[i]?) = wr.map some) (hnd : va_nd isR = true) (hdis : ∀ i ∈ isR, i ∉ isC)
    (kk : ∀ (u : S) (H1 : Heap) (locs1 : List Loc), va_P D vwCl (wr ++ w1 u) H1 → va_D A (wr ++ w1 u) → va_S A H0 H1 locs1 → W p l e R s m args below meth c H1 locs1 c2 s2 Q (F0 m (pc + 3) ls (rest))) : W p l e R s m args below meth c H locs cells slots Q (F0 m pc ls st0) := by
  subst e1; subst e2
  have hPc := hP.sub isC (fm_of hC)
  have hDc := hD.sub isC hcn hC
  have hFc := va_free (wc := wc) hD hS hA isC hC
  refine va_callv (va_runI S9 (hM H.size) cw ⟨MuPre.blind, fun U hU hW => ⟨rfl, by rw [hU], by rw [hU]; exact hPc, va_K.moved hW.alike hK, hDc.weaken (fun _ _ _ _ => trivial)⟩⟩ rfl hn hsize hst (lv_room hW) hdg hf) hS (fun q _ h => hFc q h) hFc (fun u t H1 locs1 ht hvm hw hB hz1 hk1 hS1 => ?_)
  obtain ⟨hB, hE⟩ := hB
  have hB : va_P D vwCl (w1 u) t.heap := hB
  rw [ht] at hB
  obtain ⟨hP1, hD1⟩ := va_join (wr := wr) (w1 := w1 u) hP hD isC isR hC hR hnd hdis hk1 hFc hB hE
  exact kk u H1 locs1 hP1 hD1 hS1
theorem j_cret (hx : p.tables.exec = Jvm.exec) (hb : c.code = cc) {S : Type} {w1 : S → va_W} (hr : meth.sig.returnType = none) (hlocks : meth.locks = false) (hS : va_S A s.heap H locs) (hdg : decode cc pc = .ok (.return_, 1)) (u : S) (hP : va_P D vwCl (w1 u) H) (hD : va_D A (w1 u)) : W p l e R s m args below meth c H locs cells slots (MQ below (va_Qv (fun _ : S => True) (fun u t => va_P D vwCl (w1 u) t.heap ∧ va_D A (w1 u)) A) args s cells slots A) (F0 m pc ls []) :=
  W.vret hx hb hr (fun t ht _ => ⟨⟨u, rfl, trivial, by show va_P D vwCl (w1 u) t.heap; rw [ht]; exact hP, hD⟩, hS.F ht⟩) hS.2.2 hdg hlocks
theorem raI {s : State} : ∀ c1 c2, va_RA s c1 .int → va_RA s c2 .int → c1 = c2 := fun _ _ h1 h2 => Option.some.inj (Eq.trans (Eq.symm h1) h2)
theorem raL {s : State} : ∀ c1 c2, va_RA s c1 .long → va_RA s c2 .long → c1 = c2 := fun _ _ h1 h2 => Option.some.inj (Eq.trans (Eq.symm h1) h2)
theorem raZ {s : State} : ∀ c1 c2, va_RA s c1 .boolean → va_RA s c2 .boolean → c1 = c2 := fun _ _ h1 h2 => Option.some.inj (Eq.trans (Eq.symm h1) h2)
end JN
theorem dfX0 : ∀ j, j < 8 → defaultValue (tyX0 j) = vp_V [.int (jI 0), .int (jI 0), .int (jI 0), .int (jI 0), .null, .null, .null, .null] j
  | 0, _ => rfl | 1, _ => rfl | 2, _ => rfl | 3, _ => rfl | 4, _ => rfl | 5, _ => rfl | 6, _ => rfl | 7, _ => rfl
  | n + 8, h => absurd h (by omega)
theorem dfX1 : ∀ j, j < 7 → defaultValue (tyX1 j) = vp_V [.null, .null, .null, .null, .null, .long (jL 0), .long (jL 0)] j
  | 0, _ => rfl | 1, _ => rfl | 2, _ => rfl | 3, _ => rfl | 4, _ => rfl | 5, _ => rfl | 6, _ => rfl
  | n + 7, h => absurd h (by omega)
theorem dfX2 : ∀ j, j < 8 → defaultValue (tyX2 j) = vp_V [.int (jI 0), .long (jL 0), .int (jI 0), .int (jI 0), .null, .null, .null, .null] j
  | 0, _ => rfl | 1, _ => rfl | 2, _ => rfl | 3, _ => rfl | 4, _ => rfl | 5, _ => rfl | 6, _ => rfl | 7, _ => rfl
  | n + 8, h => absurd h (by omega)
theorem dfX3 : ∀ j, j < 4 → defaultValue (tyX3 j) = vp_V [.null, .null, .null, .int (jI 0)] j
  | 0, _ => rfl | 1, _ => rfl | 2, _ => rfl | 3, _ => rfl
  | n + 4, h => absurd h (by omega)
theorem dfX4 : ∀ j, j < 18 → defaultValue (tyX4 j) = vp_V [.int (jI 0), .int (jI 0), .int (jI 0), .null, .null, .null, .null, .int (jI 0), .null, .int (jI 0), .long (jL 0), .int (jI 0), .null, .int (jI 0), .null, .null, .null, .null] j
  | 0, _ => rfl | 1, _ => rfl | 2, _ => rfl | 3, _ => rfl | 4, _ => rfl | 5, _ => rfl | 6, _ => rfl | 7, _ => rfl | 8, _ => rfl | 9, _ => rfl | 10, _ => rfl | 11, _ => rfl | 12, _ => rfl | 13, _ => rfl | 14, _ => rfl | 15, _ => rfl | 16, _ => rfl | 17, _ => rfl
  | n + 18, h => absurd h (by omega)
end
