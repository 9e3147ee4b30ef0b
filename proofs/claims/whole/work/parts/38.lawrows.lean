/-! THE CLAIM OUT OF ONE WALK OF THE LAW'S BODY. Your part is whole_start (and what it stands on); all else here is the same for every law, but numbers. -/
def R_law : String := "BreakLinesLaw"
def lw_P (b : Addr) (xs : List Int32) (args : Array Value) (s : State) : Prop := args = #[.ref b] ∧ s.IntsAt b xs ∧ xs.length ≤ 2050 ∧ (Jvm.Cond.and given_1 narrow_1).before args s = true
def lw_Q (_ : Array Value) (s : State) (o : Outcome) (t : State) : Prop := o = .returned (some (.int 1)) ∧ Framed s o t [] 27 12671
def lw_Z (below : List Frame) (a : Array Value) (s : State) : State → Prop := fun t => ∃ o, t.status = .running ∧ Ended t below o ∧ lw_Q a s o t
/-- the law's own end, with 1 on the stack, nothing written that was there before, its room as the claim has it -/
theorem lw_ret {p : Program} {l : Launch} {e : Env} {s : State} {m : MethodId} {below : List Frame} {meth : Method} {c : Code} {b : Nat} (hx : p.tables.exec = Jvm.exec) (hb : c.code = code) (hr : meth.sig.returnType = ret) (hlocks : meth.locks = false) {pc : Nat} {H : Heap} {ls : Array Slot} (hdg : decode code pc = .ok (.ireturn, 1)) : W p l e room_1 s m #[Value.ref b] below meth c H [] 27 12671 (lw_Z below #[Value.ref b] s) (F0 m pc ls [.int 1]) := by
  intro T hT X
  obtain ⟨fs, hret, hrun, hended, hW, hframe⟩ := X.leave (v := some (.int 1)) (hlocks := hlocks) (fun h => by rw [hr] at h; cases h)
  have hmeth' : T.vm.method? m = some meth := X.method'
  refine ⟨T.setFrames fs, ?_, .returned (some (.int 1)), hrun, hended, rfl, ⟨_, rfl⟩, hW, hframe⟩
  jvm_step X.here [X.here.top, hx, hb, hdg, hmeth', hr, ret, narrow_b1]
  (try refine ⟨rfl, ?_⟩); (try refine ⟨rfl, ?_⟩)
  first | (intro acts; rw [hret _ acts rfl rfl rfl]) | rw [hret _ _ rfl rfl rfl]
  exact Steps.refl _
/-- what holds at the law's entry: the machine, the code, the tables' words (any of lw_tbl by 'hts w (by decide +kernel)'), the script of L ints xs at the cell b, what the Statement gives of the start (any of its parts by flat_of_before) -/
def lw_At (p : Program) (s : State) (m : MethodId) (meth : Method) (c : Code) (b L : Nat) (xs : Nat → Int32) : Prop :=
  p.tables.exec = Jvm.exec ∧ c.code = code ∧ meth.sig.returnType = ret ∧ c.maxLocals = 4 ∧ s.vm.findClass R_law = some m.cls ∧ (∀ w ∈ lw_tbl, w.before #[Value.ref b] s = true) ∧ va_X b L xs s s.heap ∧ b < s.heap.size ∧ meth.locks = false ∧ (Jvm.Cond.and given_1 narrow_1).before #[Value.ref b] s = true
/-! rows of the law -/
noncomputable section
/-- the script's ints as integers -/
def ys (xs : Nat → Int32) (i : Int) : Int := (xs i.toNat).toInt
theorem ys_b (xs : Nat → Int32) (i : Int) : i32 (ys xs i) := ⟨by have := Int32.le_toInt (xs i.toNat); simpa [ys] using this, by have := Int32.toInt_lt (xs i.toNat); simpa [ys] using this⟩
theorem ys_j (xs : Nat → Int32) (i : Int) : xs i.toNat = jI (ys xs i) := (Int32.ofInt_toInt _).symm
theorem jI_nat (n : Nat) : Int32.ofNat n = jI n := (Int32.ofInt_eq_ofNat).symm
def cl (xs : Nat → Int32) (L : Nat) (k : Int) : Int := if k < L then ys xs k else 0
theorem cl_b (xs : Nat → Int32) (L : Nat) (k : Int) : i32 (cl xs L k) := by
  unfold cl
  split
  · exact ys_b xs k
  · exact i32_0
section JS
variable {p : Program} {l : Launch} {e : Env} {R : Room} {s : State} {m : MethodId} {args : Array Value} {below : List Frame} {meth : Method} {c : Code} {H : Heap} {locs : List Loc} {cells slots : Nat} {Q : State → Prop} {cc : ByteArray} {pc : Nat} {ls : Array Slot} {rest : List Value} {A : Nat → Prop} {H0 : Heap} {b L : Nat} {xs : Nat → Int32}
theorem j_scr (hx : p.tables.exec = Jvm.exec) (hb : c.code = cc) (hX : va_X b L xs s H0) (hbl : b < H0.size) (hbA : ¬ A b) (hS : va_S A H0 H locs) {i : Int} (hi : 0 ≤ i ∧ i < L) (hL : L ≤ 2050) (hdg : decode cc pc = .ok (.iaload, 1)) (kk : W p l e R s m args below meth c H locs cells slots Q (F0 m (pc + 1) ls (.int (jI (ys xs i)) :: rest))) : W p l e R s m args below meth c H locs cells slots Q (F0 m pc ls (.int (jI i) :: .ref b :: rest)) := by
  refine va_sld hx hb hX hbl hbA hS (jI_in (by omega) (by omega)) hdg ?_
  rw [jI_cl (by omega) (by omega), ys_j xs i]
  exact kk
theorem j_slen (hx : p.tables.exec = Jvm.exec) (hb : c.code = cc) (hX : va_X b L xs s H0) (hbl : b < H0.size) (hbA : ¬ A b) (hS : va_S A H0 H locs) (hdg : decode cc pc = .ok (.arraylength, 1)) (kk : W p l e R s m args below meth c H locs cells slots Q (F0 m (pc + 1) ls (.int (jI L) :: rest))) : W p l e R s m args below meth c H locs cells slots Q (F0 m pc ls (.ref b :: rest)) := by
  refine va_slen hx hb hX hbl hbA hS hdg ?_
  rw [jI_nat]
  exact kk
theorem j_eqI (hx : p.tables.exec = Jvm.exec) (hb : c.code = cc) {r1 r2 : Int32} (h : r1 = r2) {off : Int} {tgt : Nat} (hdg : decode cc pc = .ok (.if_icmp .eq off, 3)) (ht : (pc : Int) + off = (tgt : Int)) (kt : W p l e R s m args below meth c H locs cells slots Q (F0 m tgt ls rest)) : W p l e R s m args below meth c H locs cells slots Q (F0 m pc ls (.int r2 :: .int r1 :: rest)) :=
  lv_icmp_eq hx hb hdg ht (fun _ => kt) (fun q => absurd h q)
theorem j_eqL (hx : p.tables.exec = Jvm.exec) (hb : c.code = cc) {r1 r2 : Int64} (h : r1 = r2) {off : Int} {tgt : Nat} (hd0 : decode cc pc = .ok (.lcmp, 1)) (hdg : decode cc (pc + 1) = .ok (.ifCond .eq off, 3)) (ht : ((pc + 1 : Nat) : Int) + off = (tgt : Int)) (kt : W p l e R s m args below meth c H locs cells slots Q (F0 m tgt ls rest)) : W p l e R s m args below meth c H locs cells slots Q (F0 m pc ls (.long r2 :: .long r1 :: rest)) :=
  W.lcmp hx hb hd0 (lv_if_eq hx hb hdg ht (fun _ => kt) (fun q => absurd ((lg_cmp_eq r1 r2).mpr h) q))
end JS
set_option maxHeartbeats 4000000 in
set_option maxRecDepth 100000 in
theorem kL_cell (l : Launch) (b L : Nat) (xs : Nat → Int32) (hL : L ≤ 2050) (k : Int) (hk : 0 ≤ k ∧ k < 100) : Met l yL_cell wsL_cell (rmOf 0 0) (va_Pc [.ref b, .int (jI k)] (fun U => va_X b L xs U U.heap)) (vp_Si (fun z => z = jI (cl xs L k))) 0 0 (fun _ => False) := by
  refine j_start RL rfl (by decide) rfl (Nat.le_of_ble_eq_true rfl) ?_
  intro p e s m below meth c ls hx hb hr hlocks hml hown hts hnm hl hX
  have hl : lv_has ls 2 [(0, .ref b), (1, .int (jI k))] := hl
  have hS : va_S (fun _ => False) s.heap s.heap [] := va_S.rf
  have hbl : b < s.heap.size := by
    obtain ⟨scr, h1, -⟩ := hX
    exact (Array.getElem?_eq_some_iff.mp h1).1
  refine lv_iload_n hx hb dL_cell_0 rfl (lv_at hl 1 rfl) ?_
  refine lv_aload_n hx hb dL_cell_1 rfl (lv_at hl 0 rfl) ?_
  refine j_slen hx hb hX hbl (fun z => z) hS dL_cell_2 ?_
  refine j_icmp_ge (tgt := 12) hx hb (by unfold i32; omega) dL_cell_3 (by decide) (fun c3 => ?_) (fun c3 => ?_)
  · refine j_iconst hx hb dL_cell_12 ?_
    exact j_retI hx hb hr hlocks dL_cell_13 (by unfold cl; rw [if_neg (by omega)])
  · refine lv_aload_n hx hb dL_cell_6 rfl (lv_at hl 0 rfl) ?_
    refine lv_iload_n hx hb dL_cell_7 rfl (lv_at hl 1 rfl) ?_
    refine j_scr hx hb hX hbl (fun z => z) hS (by omega) hL dL_cell_8 ?_
    refine lv_goto (tgt := 13) hx hb dL_cell_9 (by decide) ?_
    exact j_retI hx hb hr hlocks dL_cell_13 (by unfold cl; rw [if_pos (by omega)])
theorem both {u : CU} {v : MU} (hu : cInv u) (hv : mInv v) (he : u.1 = v.1) (ku : cKn u) (kv : mKn v) : bstS v.1 (cEx u) (cTo u) (cLn u) (cPg u) (cFb u) (cFl u) (cPl u) (cLb u) ∧ mOK v.1 (mBe v) (mLm v) (mLf v) (mPm v) (mPf v) := ⟨by rw [← he]; exact bstS_of hu.1.1 (hu.2.2 ku), hv.2 kv⟩
end
