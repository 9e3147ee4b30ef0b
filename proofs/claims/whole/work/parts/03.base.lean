noncomputable section
def jI (z : Int) : Int32 := Int32.ofInt z
def jL (z : Int) : Int64 := Int64.ofInt z
def jZ (P : Prop) : Int32 := @ite _ P (Classical.propDecidable P) 1 0
def updI (F : Int → Int) (k v : Int) : Int → Int := fun j => if j = k then v else F j
def updB (F : Int → Bool) (k : Int) (v : Bool) : Int → Bool := fun j => if j = k then v else F j
theorem jZ_t {P : Prop} (h : P) : jZ P = jI 1 := by unfold jZ; rw [if_pos h]; decide
theorem jZ_f {P : Prop} (h : ¬ P) : jZ P = jI 0 := by unfold jZ; rw [if_neg h]; decide
theorem jZ_c {P P' : Prop} (h : P ↔ P') : jZ P = jZ P' := by rw [propext h]
theorem jZ_0 {P : Prop} : jZ P = 0 ↔ ¬ P := by
  by_cases h : P
  · rw [jZ_t h]; exact ⟨fun q => absurd q (by decide), fun q => absurd h q⟩
  · rw [jZ_f h]; exact ⟨fun _ => h, fun _ => by decide⟩
theorem jI_toInt {z : Int} (h1 : -2147483648 ≤ z) (h2 : z < 2147483648) : (jI z).toInt = z := Int32.toInt_ofInt_of_le (by omega) (by omega)
theorem jL_toInt {z : Int} (h1 : -9223372036854775808 ≤ z) (h2 : z < 9223372036854775808) : (jL z).toInt = z := Int64.toInt_ofInt_of_le (by omega) (by omega)
theorem jI_add (a b : Int) : jI a + jI b = jI (a + b) := (Int32.ofInt_add a b).symm
theorem jI_sub (a b : Int) : jI a - jI b = jI (a - b) := (Int32.ofInt_sub a b).symm
theorem jI_mul (a b : Int) : jI a * jI b = jI (a * b) := (Int32.ofInt_mul a b).symm
theorem jI_neg (a : Int) : -jI a = jI (-a) := (Int32.ofInt_neg a).symm
theorem jL_add (a b : Int) : jL a + jL b = jL (a + b) := (Int64.ofInt_add a b).symm
theorem jL_sub (a b : Int) : jL a - jL b = jL (a - b) := (Int64.ofInt_sub a b).symm
theorem jL_mul (a b : Int) : jL a * jL b = jL (a * b) := (Int64.ofInt_mul a b).symm
theorem jL_neg (a : Int) : -jL a = jL (-a) := (Int64.ofInt_neg a).symm
theorem jI_of (x : Int32) : ∃ z : Int, x = jI z ∧ -2147483648 ≤ z ∧ z < 2147483648 := ⟨x.toInt, (Int32.ofInt_toInt x).symm, by have := Int32.le_toInt x; simpa using this, by have := Int32.toInt_lt x; simpa using this⟩
def i32 (z : Int) : Prop := -2147483648 ≤ z ∧ z < 2147483648
def i64 (z : Int) : Prop := -9223372036854775808 ≤ z ∧ z < 9223372036854775808
theorem jI_eq {a b : Int} (ha : i32 a) (hb : i32 b) : jI a = jI b ↔ a = b := by rw [← Int32.toInt_inj, jI_toInt ha.1 ha.2, jI_toInt hb.1 hb.2]
theorem jI_lt {a b : Int} (ha : i32 a) (hb : i32 b) : jI a < jI b ↔ a < b := by rw [Int32.lt_iff_toInt_lt, jI_toInt ha.1 ha.2, jI_toInt hb.1 hb.2]
theorem jI_le {a b : Int} (ha : i32 a) (hb : i32 b) : jI a ≤ jI b ↔ a ≤ b := by rw [Int32.le_iff_toInt_le, jI_toInt ha.1 ha.2, jI_toInt hb.1 hb.2]
theorem jL_eq {a b : Int} (ha : i64 a) (hb : i64 b) : jL a = jL b ↔ a = b := by rw [← Int64.toInt_inj, jL_toInt ha.1 ha.2, jL_toInt hb.1 hb.2]
theorem jL_lt {a b : Int} (ha : i64 a) (hb : i64 b) : jL a < jL b ↔ a < b := by rw [Int64.lt_iff_toInt_lt, jL_toInt ha.1 ha.2, jL_toInt hb.1 hb.2]
theorem jL_le {a b : Int} (ha : i64 a) (hb : i64 b) : jL a ≤ jL b ↔ a ≤ b := by rw [Int64.le_iff_toInt_le, jL_toInt ha.1 ha.2, jL_toInt hb.1 hb.2]
theorem i32_0 : i32 0 := by unfold i32; omega
theorem jI_div {a b : Int} (ha : 0 ≤ a ∧ a < 2147483648) (hb : 0 < b ∧ b < 2147483648) : jI a / jI b = jI (a / b) := by
  apply Int32.toInt_inj.mp
  have h1 := jI_toInt (z := a) (by omega) ha.2
  have h2 := jI_toInt (z := b) (by omega) hb.2
  have h3 : 0 ≤ a / b := Int.ediv_nonneg ha.1 (by omega)
  have h4 : a / b ≤ a := Int.ediv_le_self _ ha.1
  rw [lg_idiv_nonneg (by rw [h1]; exact ha.1) (by rw [h2]; exact hb.1), h1, h2, jI_toInt (by omega) (by omega)]
theorem jL_div {a b : Int} (ha : 0 ≤ a ∧ a < 9223372036854775808) (hb : 0 < b ∧ b < 9223372036854775808) : jL a / jL b = jL (a / b) := by
  apply Int64.toInt_inj.mp
  have h1 := jL_toInt (z := a) (by omega) ha.2
  have h2 := jL_toInt (z := b) (by omega) hb.2
  have h3 : 0 ≤ a / b := Int.ediv_nonneg ha.1 (by omega)
  have h4 : a / b ≤ a := Int.ediv_le_self _ ha.1
  rw [lg_ldiv_nonneg (by rw [h1]; exact ha.1) (by rw [h2]; exact hb.1), h1, h2, jL_toInt (by omega) (by omega)]
theorem jI_l {a : Int} (h : i32 a) : (jI a).toInt64 = jL a := Int64.toInt_inj.mp (by rw [Int32.toInt_toInt64, jI_toInt h.1 h.2, jL_toInt (by have := h.1; omega) (by have := h.2; omega)])
theorem jL_i (a : Int) : (jL a).toInt32 = jI a := Int64.toInt32_ofInt
theorem jI_cl {i : Int} (h : 0 ≤ i) (h2 : i < 2147483648) : (jI i).toNatClampNeg = i.toNat := by
  show (jI i).toInt.toNat = i.toNat
  rw [jI_toInt (by omega) h2]
theorem jI_in {i : Int} {n : Nat} (h : 0 ≤ i ∧ i < n) (hn : n < 2147483648) : vp_in (jI i) n := by
  rw [vp_in_iff, jI_toInt (by omega) (by omega)]
  exact h
theorem jI_ix {i : Int} (h : 0 ≤ i) (h2 : i < 2147483648) : (((jI i).toNatClampNeg : Nat) : Int) = i := by rw [jI_cl h h2]; omega
theorem jI_upd {F : Int → Int} {i v : Int} (h : 0 ≤ i) (h2 : i < 2147483648) : upd (fun k : Nat => jI (F k)) (jI i).toNatClampNeg (jI v) = fun k : Nat => jI (updI F i v k) := by
  funext j
  have h3 := jI_ix h h2
  unfold upd updI
  by_cases q : j = (jI i).toNatClampNeg
  · rw [if_pos q, if_pos (by rw [q]; exact h3)]
  · rw [if_neg q, if_neg (fun z => q (by omega))]
theorem jL_upd {F : Int → Int} {i v : Int} (h : 0 ≤ i) (h2 : i < 2147483648) : vp_updL (fun k : Nat => jL (F k)) (jI i).toNatClampNeg (jL v) = fun k : Nat => jL (updI F i v k) := by
  funext j
  have h3 := jI_ix h h2
  unfold vp_updL updI
  by_cases q : j = (jI i).toNatClampNeg
  · rw [if_pos q, if_pos (by rw [q]; exact h3)]
  · rw [if_neg q, if_neg (fun z => q (by omega))]
theorem jZ_nar (P : Prop) : vp_nar .boolean (jZ P) = jZ P := by
  by_cases h : P
  · rw [jZ_t h]; decide
  · rw [jZ_f h]; decide
theorem jZ_narrow (P : Prop) : narrow .boolean (.int (jZ P)) = .int (jZ P) := by
  by_cases h : P
  · rw [jZ_t h]; decide
  · rw [jZ_f h]; decide
theorem jZ_fits (P : Prop) : fits .boolean (.int (jZ P)) = true := by
  by_cases h : P
  · rw [jZ_t h]; decide
  · rw [jZ_f h]; decide
theorem jZ_upd {F : Int → Bool} {i : Int} {v : Bool} (h : 0 ≤ i) (h2 : i < 2147483648) : upd (fun k : Nat => jZ (F k = true)) (jI i).toNatClampNeg (vp_nar .boolean (jZ (v = true))) = fun k : Nat => jZ (updB F i v k = true) := by
  funext j
  have h3 := jI_ix h h2
  unfold upd updB
  rw [jZ_nar]
  by_cases q : j = (jI i).toNatClampNeg
  · rw [if_pos q, if_pos (by rw [q]; exact h3)]
  · rw [if_neg q, if_neg (fun z => q (by omega))]
theorem updI_s (F : Int → Int) (k v : Int) : updI F k v k = v := if_pos rfl
theorem updI_n {F : Int → Int} {k v j : Int} (h : j ≠ k) : updI F k v j = F j := if_neg h
theorem updB_s (F : Int → Bool) (k : Int) (v : Bool) : updB F k v k = v := if_pos rfl
theorem updB_n {F : Int → Bool} {k j : Int} {v : Bool} (h : j ≠ k) : updB F k v j = F j := if_neg h
section JB
variable {p : Program} {l : Launch} {e : Env} {R : Room} {s : State} {m : MethodId} {args : Array Value} {below : List Frame} {meth : Method} {c : Code} {H : Heap} {locs : List Loc} {cells slots : Nat} {Q : State → Prop} {cc : ByteArray} {pc : Nat} {ls : Array Slot} {rest : List Value}
theorem j_iconst (hx : p.tables.exec = Jvm.exec) (hb : c.code = cc) {n : Int} (hdg : decode cc pc = .ok (.iconst n, 1)) (k : W p l e R s m args below meth c H locs cells slots Q (F0 m (pc + 1) ls (.int (jI n) :: rest))) : W p l e R s m args below meth c H locs cells slots Q (F0 m pc ls rest) := lv_iconst hx hb hdg rfl k
theorem j_bipush (hx : p.tables.exec = Jvm.exec) (hb : c.code = cc) {n : Int} (hdg : decode cc pc = .ok (.bipush n, 2)) (hv : (Int8.ofInt n).toInt32 = jI n) (k : W p l e R s m args below meth c H locs cells slots Q (F0 m (pc + 2) ls (.int (jI n) :: rest))) : W p l e R s m args below meth c H locs cells slots Q (F0 m pc ls rest) := lv_bipush hx hb hdg hv k
theorem j_sipush (hx : p.tables.exec = Jvm.exec) (hb : c.code = cc) {n : Int} (hdg : decode cc pc = .ok (.sipush n, 3)) (hv : (Int16.ofInt n).toInt32 = jI n) (k : W p l e R s m args below meth c H locs cells slots Q (F0 m (pc + 3) ls (.int (jI n) :: rest))) : W p l e R s m args below meth c H locs cells slots Q (F0 m pc ls rest) := lv_sipush hx hb hdg hv k
theorem j_lconst0 (hx : p.tables.exec = Jvm.exec) (hb : c.code = cc) (hdg : decode cc pc = .ok (.lconst 0, 1)) (k : W p l e R s m args below meth c H locs cells slots Q (F0 m (pc + 1) ls (.long (jL 0) :: rest))) : W p l e R s m args below meth c H locs cells slots Q (F0 m pc ls rest) := lv_lconst hx hb hdg (by decide) k
theorem j_lconst1 (hx : p.tables.exec = Jvm.exec) (hb : c.code = cc) (hdg : decode cc pc = .ok (.lconst 1, 1)) (k : W p l e R s m args below meth c H locs cells slots Q (F0 m (pc + 1) ls (.long (jL 1) :: rest))) : W p l e R s m args below meth c H locs cells slots Q (F0 m pc ls rest) := lv_lconst hx hb hdg (by decide) k
theorem j_iadd (hx : p.tables.exec = Jvm.exec) (hb : c.code = cc) {a b : Int} (hdg : decode cc pc = .ok (.iadd, 1)) (k : W p l e R s m args below meth c H locs cells slots Q (F0 m (pc + 1) ls (.int (jI (a + b)) :: rest))) : W p l e R s m args below meth c H locs cells slots Q (F0 m pc ls (.int (jI b) :: .int (jI a) :: rest)) := by
  refine lv_iadd hx hb hdg ?_
  rw [jI_add]; exact k
theorem j_ladd (hx : p.tables.exec = Jvm.exec) (hb : c.code = cc) {a b : Int} (hdg : decode cc pc = .ok (.ladd, 1)) (k : W p l e R s m args below meth c H locs cells slots Q (F0 m (pc + 1) ls (.long (jL (a + b)) :: rest))) : W p l e R s m args below meth c H locs cells slots Q (F0 m pc ls (.long (jL b) :: .long (jL a) :: rest)) := by
  refine lv_ladd hx hb hdg ?_
  rw [jL_add]; exact k
theorem j_isub (hx : p.tables.exec = Jvm.exec) (hb : c.code = cc) {a b : Int} (hdg : decode cc pc = .ok (.isub, 1)) (k : W p l e R s m args below meth c H locs cells slots Q (F0 m (pc + 1) ls (.int (jI (a - b)) :: rest))) : W p l e R s m args below meth c H locs cells slots Q (F0 m pc ls (.int (jI b) :: .int (jI a) :: rest)) := by
  refine lv_isub hx hb hdg ?_
  rw [jI_sub]; exact k
theorem j_lsub (hx : p.tables.exec = Jvm.exec) (hb : c.code = cc) {a b : Int} (hdg : decode cc pc = .ok (.lsub, 1)) (k : W p l e R s m args below meth c H locs cells slots Q (F0 m (pc + 1) ls (.long (jL (a - b)) :: rest))) : W p l e R s m args below meth c H locs cells slots Q (F0 m pc ls (.long (jL b) :: .long (jL a) :: rest)) := by
  refine lv_lsub hx hb hdg ?_
  rw [jL_sub]; exact k
theorem j_imul (hx : p.tables.exec = Jvm.exec) (hb : c.code = cc) {a b : Int} (hdg : decode cc pc = .ok (.imul, 1)) (k : W p l e R s m args below meth c H locs cells slots Q (F0 m (pc + 1) ls (.int (jI (a * b)) :: rest))) : W p l e R s m args below meth c H locs cells slots Q (F0 m pc ls (.int (jI b) :: .int (jI a) :: rest)) := by
  refine lv_imul hx hb hdg ?_
  rw [jI_mul]; exact k
theorem j_lmul (hx : p.tables.exec = Jvm.exec) (hb : c.code = cc) {a b : Int} (hdg : decode cc pc = .ok (.lmul, 1)) (k : W p l e R s m args below meth c H locs cells slots Q (F0 m (pc + 1) ls (.long (jL (a * b)) :: rest))) : W p l e R s m args below meth c H locs cells slots Q (F0 m pc ls (.long (jL b) :: .long (jL a) :: rest)) := by
  refine lv_lmul hx hb hdg ?_
  rw [jL_mul]; exact k
theorem j_ineg (hx : p.tables.exec = Jvm.exec) (hb : c.code = cc) {a : Int} (hdg : decode cc pc = .ok (.ineg, 1)) (k : W p l e R s m args below meth c H locs cells slots Q (F0 m (pc + 1) ls (.int (jI (-a)) :: rest))) : W p l e R s m args below meth c H locs cells slots Q (F0 m pc ls (.int (jI a) :: rest)) := by
  refine lv_ineg hx hb hdg ?_
  rw [jI_neg]; exact k
theorem j_idiv (hx : p.tables.exec = Jvm.exec) (hb : c.code = cc) {a b : Int} (h : (0 ≤ a ∧ a < 2147483648) ∧ 0 < b ∧ b < 2147483648) (hdg : decode cc pc = .ok (.idiv, 1)) (k : W p l e R s m args below meth c H locs cells slots Q (F0 m (pc + 1) ls (.int (jI (a / b)) :: rest))) : W p l e R s m args below meth c H locs cells slots Q (F0 m pc ls (.int (jI b) :: .int (jI a) :: rest)) := by
  refine lv_idiv hx hb hdg (fun q => ?_) ?_
  · have q2 := congrArg (Int32.toInt) q
    rw [jI_toInt (by omega) h.2.2] at q2
    have q3 : (0 : Int32).toInt = 0 := by decide
    omega
  · rw [jI_div h.1 h.2]; exact k
theorem j_lneg (hx : p.tables.exec = Jvm.exec) (hb : c.code = cc) {a : Int} (hdg : decode cc pc = .ok (.lneg, 1)) (k : W p l e R s m args below meth c H locs cells slots Q (F0 m (pc + 1) ls (.long (jL (-a)) :: rest))) : W p l e R s m args below meth c H locs cells slots Q (F0 m pc ls (.long (jL a) :: rest)) := by
  refine lv_lneg hx hb hdg ?_
  rw [jL_neg]; exact k
theorem j_ldiv (hx : p.tables.exec = Jvm.exec) (hb : c.code = cc) {a b : Int} (h : (0 ≤ a ∧ a < 9223372036854775808) ∧ 0 < b ∧ b < 9223372036854775808) (hdg : decode cc pc = .ok (.ldiv, 1)) (k : W p l e R s m args below meth c H locs cells slots Q (F0 m (pc + 1) ls (.long (jL (a / b)) :: rest))) : W p l e R s m args below meth c H locs cells slots Q (F0 m pc ls (.long (jL b) :: .long (jL a) :: rest)) := by
  refine lv_ldiv hx hb hdg (fun q => ?_) ?_
  · have q2 := congrArg (Int64.toInt) q
    rw [jL_toInt (by omega) h.2.2] at q2
    have q3 : (0 : Int64).toInt = 0 := by decide
    omega
  · rw [jL_div h.1 h.2]; exact k
theorem j_irem (hx : p.tables.exec = Jvm.exec) (hb : c.code = cc) {a b : Int} (h : (0 ≤ a ∧ a < 2147483648) ∧ 0 < b ∧ b < 2147483648) (hdg : decode cc pc = .ok (.irem, 1)) (k : W p l e R s m args below meth c H locs cells slots Q (F0 m (pc + 1) ls (.int (jI (a % b)) :: rest))) : W p l e R s m args below meth c H locs cells slots Q (F0 m pc ls (.int (jI b) :: .int (jI a) :: rest)) := by
  refine lv_irem hx hb hdg (fun q => ?_) ?_
  · have q2 := congrArg (Int32.toInt) q
    rw [jI_toInt (by omega) h.2.2] at q2
    have q3 : (0 : Int32).toInt = 0 := by decide
    omega
  · rw [jI_div h.1 h.2, jI_mul, jI_sub, show a - a / b * b = a % b by rw [Int.emod_def, Int.mul_comm b]]; exact k
theorem j_i2l (hx : p.tables.exec = Jvm.exec) (hb : c.code = cc) {a : Int} (h : i32 a) (hdg : decode cc pc = .ok (.i2l, 1)) (k : W p l e R s m args below meth c H locs cells slots Q (F0 m (pc + 1) ls (.long (jL a) :: rest))) : W p l e R s m args below meth c H locs cells slots Q (F0 m pc ls (.int (jI a) :: rest)) := lv_i2l hx hb hdg (jI_l h) k
theorem j_l2i (hx : p.tables.exec = Jvm.exec) (hb : c.code = cc) {a : Int} (hdg : decode cc pc = .ok (.l2i, 1)) (k : W p l e R s m args below meth c H locs cells slots Q (F0 m (pc + 1) ls (.int (jI a) :: rest))) : W p l e R s m args below meth c H locs cells slots Q (F0 m pc ls (.long (jL a) :: rest)) := lv_l2i hx hb hdg (jL_i a) k
theorem j_icmp_eq (hx : p.tables.exec = Jvm.exec) (hb : c.code = cc) {a b : Int} (h : i32 a ∧ i32 b) {off : Int} {tgt : Nat} (hdg : decode cc pc = .ok (.if_icmp .eq off, 3)) (ht : (pc : Int) + off = (tgt : Int)) (kt : a = b → W p l e R s m args below meth c H locs cells slots Q (F0 m tgt ls rest)) (kf : ¬ a = b → W p l e R s m args below meth c H locs cells slots Q (F0 m (pc + 3) ls rest)) : W p l e R s m args below meth c H locs cells slots Q (F0 m pc ls (.int (jI b) :: .int (jI a) :: rest)) :=
  lv_icmp_eq hx hb hdg ht (fun q => kt ((jI_eq h.1 h.2).mp q)) (fun q => kf (fun z => q ((jI_eq h.1 h.2).mpr z)))
theorem j_if_eq (hx : p.tables.exec = Jvm.exec) (hb : c.code = cc) {a : Int} (h : i32 a) {off : Int} {tgt : Nat} (hdg : decode cc pc = .ok (.ifCond .eq off, 3)) (ht : (pc : Int) + off = (tgt : Int)) (kt : a = 0 → W p l e R s m args below meth c H locs cells slots Q (F0 m tgt ls rest)) (kf : ¬ a = 0 → W p l e R s m args below meth c H locs cells slots Q (F0 m (pc + 3) ls rest)) : W p l e R s m args below meth c H locs cells slots Q (F0 m pc ls (.int (jI a) :: rest)) :=
  lv_if_eq hx hb hdg ht (fun q => kt ((jI_eq h i32_0).mp q)) (fun q => kf (fun z => q ((jI_eq h i32_0).mpr z)))
theorem j_lcmp_eq (hx : p.tables.exec = Jvm.exec) (hb : c.code = cc) {a b : Int} (h : i64 a ∧ i64 b) {off : Int} {tgt : Nat} (hd0 : decode cc pc = .ok (.lcmp, 1)) (hdg : decode cc (pc + 1) = .ok (.ifCond .eq off, 3)) (ht : ((pc + 1 : Nat) : Int) + off = (tgt : Int)) (kt : a = b → W p l e R s m args below meth c H locs cells slots Q (F0 m tgt ls rest)) (kf : ¬ a = b → W p l e R s m args below meth c H locs cells slots Q (F0 m (pc + 1 + 3) ls rest)) : W p l e R s m args below meth c H locs cells slots Q (F0 m pc ls (.long (jL b) :: .long (jL a) :: rest)) :=
  W.lcmp hx hb hd0 (lv_if_eq hx hb hdg ht (fun q => kt ((jL_eq h.1 h.2).mp ((lg_cmp_eq (jL a) (jL b)).mp q))) (fun q => kf (fun z => q ((lg_cmp_eq (jL a) (jL b)).mpr ((jL_eq h.1 h.2).mpr z)))))
theorem j_icmp_ne (hx : p.tables.exec = Jvm.exec) (hb : c.code = cc) {a b : Int} (h : i32 a ∧ i32 b) {off : Int} {tgt : Nat} (hdg : decode cc pc = .ok (.if_icmp .ne off, 3)) (ht : (pc : Int) + off = (tgt : Int)) (kt : ¬ a = b → W p l e R s m args below meth c H locs cells slots Q (F0 m tgt ls rest)) (kf : a = b → W p l e R s m args below meth c H locs cells slots Q (F0 m (pc + 3) ls rest)) : W p l e R s m args below meth c H locs cells slots Q (F0 m pc ls (.int (jI b) :: .int (jI a) :: rest)) :=
  lv_icmp_ne hx hb hdg ht (fun q => kt (fun z => q ((jI_eq h.1 h.2).mpr z))) (fun q => kf ((jI_eq h.1 h.2).mp q))
theorem j_if_ne (hx : p.tables.exec = Jvm.exec) (hb : c.code = cc) {a : Int} (h : i32 a) {off : Int} {tgt : Nat} (hdg : decode cc pc = .ok (.ifCond .ne off, 3)) (ht : (pc : Int) + off = (tgt : Int)) (kt : ¬ a = 0 → W p l e R s m args below meth c H locs cells slots Q (F0 m tgt ls rest)) (kf : a = 0 → W p l e R s m args below meth c H locs cells slots Q (F0 m (pc + 3) ls rest)) : W p l e R s m args below meth c H locs cells slots Q (F0 m pc ls (.int (jI a) :: rest)) :=
  lv_if_ne hx hb hdg ht (fun q => kt (fun z => q ((jI_eq h i32_0).mpr z))) (fun q => kf ((jI_eq h i32_0).mp q))
theorem j_lcmp_ne (hx : p.tables.exec = Jvm.exec) (hb : c.code = cc) {a b : Int} (h : i64 a ∧ i64 b) {off : Int} {tgt : Nat} (hd0 : decode cc pc = .ok (.lcmp, 1)) (hdg : decode cc (pc + 1) = .ok (.ifCond .ne off, 3)) (ht : ((pc + 1 : Nat) : Int) + off = (tgt : Int)) (kt : ¬ a = b → W p l e R s m args below meth c H locs cells slots Q (F0 m tgt ls rest)) (kf : a = b → W p l e R s m args below meth c H locs cells slots Q (F0 m (pc + 1 + 3) ls rest)) : W p l e R s m args below meth c H locs cells slots Q (F0 m pc ls (.long (jL b) :: .long (jL a) :: rest)) :=
  W.lcmp hx hb hd0 (lv_if_ne hx hb hdg ht (fun q => kt (fun z => q ((lg_cmp_eq (jL a) (jL b)).mpr ((jL_eq h.1 h.2).mpr z)))) (fun q => kf ((jL_eq h.1 h.2).mp ((lg_cmp_eq (jL a) (jL b)).mp q))))
theorem j_icmp_lt (hx : p.tables.exec = Jvm.exec) (hb : c.code = cc) {a b : Int} (h : i32 a ∧ i32 b) {off : Int} {tgt : Nat} (hdg : decode cc pc = .ok (.if_icmp .lt off, 3)) (ht : (pc : Int) + off = (tgt : Int)) (kt : a < b → W p l e R s m args below meth c H locs cells slots Q (F0 m tgt ls rest)) (kf : b ≤ a → W p l e R s m args below meth c H locs cells slots Q (F0 m (pc + 3) ls rest)) : W p l e R s m args below meth c H locs cells slots Q (F0 m pc ls (.int (jI b) :: .int (jI a) :: rest)) :=
  lv_icmp_lt hx hb hdg ht (fun q => kt ((jI_lt h.1 h.2).mp q)) (fun q => kf (Int.not_lt.mp (fun z => q ((jI_lt h.1 h.2).mpr z))))
theorem j_if_lt (hx : p.tables.exec = Jvm.exec) (hb : c.code = cc) {a : Int} (h : i32 a) {off : Int} {tgt : Nat} (hdg : decode cc pc = .ok (.ifCond .lt off, 3)) (ht : (pc : Int) + off = (tgt : Int)) (kt : a < 0 → W p l e R s m args below meth c H locs cells slots Q (F0 m tgt ls rest)) (kf : 0 ≤ a → W p l e R s m args below meth c H locs cells slots Q (F0 m (pc + 3) ls rest)) : W p l e R s m args below meth c H locs cells slots Q (F0 m pc ls (.int (jI a) :: rest)) :=
  lv_if_lt hx hb hdg ht (fun q => kt ((jI_lt h i32_0).mp q)) (fun q => kf (Int.not_lt.mp (fun z => q ((jI_lt h i32_0).mpr z))))
theorem j_lcmp_lt (hx : p.tables.exec = Jvm.exec) (hb : c.code = cc) {a b : Int} (h : i64 a ∧ i64 b) {off : Int} {tgt : Nat} (hd0 : decode cc pc = .ok (.lcmp, 1)) (hdg : decode cc (pc + 1) = .ok (.ifCond .lt off, 3)) (ht : ((pc + 1 : Nat) : Int) + off = (tgt : Int)) (kt : a < b → W p l e R s m args below meth c H locs cells slots Q (F0 m tgt ls rest)) (kf : b ≤ a → W p l e R s m args below meth c H locs cells slots Q (F0 m (pc + 1 + 3) ls rest)) : W p l e R s m args below meth c H locs cells slots Q (F0 m pc ls (.long (jL b) :: .long (jL a) :: rest)) :=
  W.lcmp hx hb hd0 (lv_if_lt hx hb hdg ht (fun q => kt ((jL_lt h.1 h.2).mp ((lg_cmp_lt (jL a) (jL b)).mp q))) (fun q => kf (Int.not_lt.mp (fun z => q ((lg_cmp_lt (jL a) (jL b)).mpr ((jL_lt h.1 h.2).mpr z))))))
theorem j_icmp_ge (hx : p.tables.exec = Jvm.exec) (hb : c.code = cc) {a b : Int} (h : i32 a ∧ i32 b) {off : Int} {tgt : Nat} (hdg : decode cc pc = .ok (.if_icmp .ge off, 3)) (ht : (pc : Int) + off = (tgt : Int)) (kt : b ≤ a → W p l e R s m args below meth c H locs cells slots Q (F0 m tgt ls rest)) (kf : a < b → W p l e R s m args below meth c H locs cells slots Q (F0 m (pc + 3) ls rest)) : W p l e R s m args below meth c H locs cells slots Q (F0 m pc ls (.int (jI b) :: .int (jI a) :: rest)) :=
  lv_icmp_ge hx hb hdg ht (fun q => kt ((jI_le h.2 h.1).mp q)) (fun q => kf (Int.not_le.mp (fun z => q ((jI_le h.2 h.1).mpr z))))
theorem j_if_ge (hx : p.tables.exec = Jvm.exec) (hb : c.code = cc) {a : Int} (h : i32 a) {off : Int} {tgt : Nat} (hdg : decode cc pc = .ok (.ifCond .ge off, 3)) (ht : (pc : Int) + off = (tgt : Int)) (kt : 0 ≤ a → W p l e R s m args below meth c H locs cells slots Q (F0 m tgt ls rest)) (kf : a < 0 → W p l e R s m args below meth c H locs cells slots Q (F0 m (pc + 3) ls rest)) : W p l e R s m args below meth c H locs cells slots Q (F0 m pc ls (.int (jI a) :: rest)) :=
  lv_if_ge hx hb hdg ht (fun q => kt ((jI_le i32_0 h).mp q)) (fun q => kf (Int.not_le.mp (fun z => q ((jI_le i32_0 h).mpr z))))
theorem j_lcmp_ge (hx : p.tables.exec = Jvm.exec) (hb : c.code = cc) {a b : Int} (h : i64 a ∧ i64 b) {off : Int} {tgt : Nat} (hd0 : decode cc pc = .ok (.lcmp, 1)) (hdg : decode cc (pc + 1) = .ok (.ifCond .ge off, 3)) (ht : ((pc + 1 : Nat) : Int) + off = (tgt : Int)) (kt : b ≤ a → W p l e R s m args below meth c H locs cells slots Q (F0 m tgt ls rest)) (kf : a < b → W p l e R s m args below meth c H locs cells slots Q (F0 m (pc + 1 + 3) ls rest)) : W p l e R s m args below meth c H locs cells slots Q (F0 m pc ls (.long (jL b) :: .long (jL a) :: rest)) :=
  W.lcmp hx hb hd0 (lv_if_ge hx hb hdg ht (fun q => kt ((jL_le h.2 h.1).mp ((lg_cmp_ge (jL a) (jL b)).mp q))) (fun q => kf (Int.not_le.mp (fun z => q ((lg_cmp_ge (jL a) (jL b)).mpr ((jL_le h.2 h.1).mpr z))))))
theorem j_icmp_gt (hx : p.tables.exec = Jvm.exec) (hb : c.code = cc) {a b : Int} (h : i32 a ∧ i32 b) {off : Int} {tgt : Nat} (hdg : decode cc pc = .ok (.if_icmp .gt off, 3)) (ht : (pc : Int) + off = (tgt : Int)) (kt : b < a → W p l e R s m args below meth c H locs cells slots Q (F0 m tgt ls rest)) (kf : a ≤ b → W p l e R s m args below meth c H locs cells slots Q (F0 m (pc + 3) ls rest)) : W p l e R s m args below meth c H locs cells slots Q (F0 m pc ls (.int (jI b) :: .int (jI a) :: rest)) :=
  lv_icmp_gt hx hb hdg ht (fun q => kt ((jI_lt h.2 h.1).mp q)) (fun q => kf (Int.not_lt.mp (fun z => q ((jI_lt h.2 h.1).mpr z))))
theorem j_if_gt (hx : p.tables.exec = Jvm.exec) (hb : c.code = cc) {a : Int} (h : i32 a) {off : Int} {tgt : Nat} (hdg : decode cc pc = .ok (.ifCond .gt off, 3)) (ht : (pc : Int) + off = (tgt : Int)) (kt : 0 < a → W p l e R s m args below meth c H locs cells slots Q (F0 m tgt ls rest)) (kf : a ≤ 0 → W p l e R s m args below meth c H locs cells slots Q (F0 m (pc + 3) ls rest)) : W p l e R s m args below meth c H locs cells slots Q (F0 m pc ls (.int (jI a) :: rest)) :=
  lv_if_gt hx hb hdg ht (fun q => kt ((jI_lt i32_0 h).mp q)) (fun q => kf (Int.not_lt.mp (fun z => q ((jI_lt i32_0 h).mpr z))))
theorem j_lcmp_gt (hx : p.tables.exec = Jvm.exec) (hb : c.code = cc) {a b : Int} (h : i64 a ∧ i64 b) {off : Int} {tgt : Nat} (hd0 : decode cc pc = .ok (.lcmp, 1)) (hdg : decode cc (pc + 1) = .ok (.ifCond .gt off, 3)) (ht : ((pc + 1 : Nat) : Int) + off = (tgt : Int)) (kt : b < a → W p l e R s m args below meth c H locs cells slots Q (F0 m tgt ls rest)) (kf : a ≤ b → W p l e R s m args below meth c H locs cells slots Q (F0 m (pc + 1 + 3) ls rest)) : W p l e R s m args below meth c H locs cells slots Q (F0 m pc ls (.long (jL b) :: .long (jL a) :: rest)) :=
  W.lcmp hx hb hd0 (lv_if_gt hx hb hdg ht (fun q => kt ((jL_lt h.2 h.1).mp ((lg_cmp_gt (jL a) (jL b)).mp q))) (fun q => kf (Int.not_lt.mp (fun z => q ((lg_cmp_gt (jL a) (jL b)).mpr ((jL_lt h.2 h.1).mpr z))))))
theorem j_icmp_le (hx : p.tables.exec = Jvm.exec) (hb : c.code = cc) {a b : Int} (h : i32 a ∧ i32 b) {off : Int} {tgt : Nat} (hdg : decode cc pc = .ok (.if_icmp .le off, 3)) (ht : (pc : Int) + off = (tgt : Int)) (kt : a ≤ b → W p l e R s m args below meth c H locs cells slots Q (F0 m tgt ls rest)) (kf : b < a → W p l e R s m args below meth c H locs cells slots Q (F0 m (pc + 3) ls rest)) : W p l e R s m args below meth c H locs cells slots Q (F0 m pc ls (.int (jI b) :: .int (jI a) :: rest)) :=
  lv_icmp_le hx hb hdg ht (fun q => kt ((jI_le h.1 h.2).mp q)) (fun q => kf (Int.not_le.mp (fun z => q ((jI_le h.1 h.2).mpr z))))
theorem j_if_le (hx : p.tables.exec = Jvm.exec) (hb : c.code = cc) {a : Int} (h : i32 a) {off : Int} {tgt : Nat} (hdg : decode cc pc = .ok (.ifCond .le off, 3)) (ht : (pc : Int) + off = (tgt : Int)) (kt : a ≤ 0 → W p l e R s m args below meth c H locs cells slots Q (F0 m tgt ls rest)) (kf : 0 < a → W p l e R s m args below meth c H locs cells slots Q (F0 m (pc + 3) ls rest)) : W p l e R s m args below meth c H locs cells slots Q (F0 m pc ls (.int (jI a) :: rest)) :=
  lv_if_le hx hb hdg ht (fun q => kt ((jI_le h i32_0).mp q)) (fun q => kf (Int.not_le.mp (fun z => q ((jI_le h i32_0).mpr z))))
theorem j_lcmp_le (hx : p.tables.exec = Jvm.exec) (hb : c.code = cc) {a b : Int} (h : i64 a ∧ i64 b) {off : Int} {tgt : Nat} (hd0 : decode cc pc = .ok (.lcmp, 1)) (hdg : decode cc (pc + 1) = .ok (.ifCond .le off, 3)) (ht : ((pc + 1 : Nat) : Int) + off = (tgt : Int)) (kt : a ≤ b → W p l e R s m args below meth c H locs cells slots Q (F0 m tgt ls rest)) (kf : b < a → W p l e R s m args below meth c H locs cells slots Q (F0 m (pc + 1 + 3) ls rest)) : W p l e R s m args below meth c H locs cells slots Q (F0 m pc ls (.long (jL b) :: .long (jL a) :: rest)) :=
  W.lcmp hx hb hd0 (lv_if_le hx hb hdg ht (fun q => kt ((jL_le h.1 h.2).mp ((lg_cmp_le (jL a) (jL b)).mp q))) (fun q => kf (Int.not_le.mp (fun z => q ((lg_cmp_le (jL a) (jL b)).mpr ((jL_le h.1 h.2).mpr z))))))
theorem j_ifeqZ (hx : p.tables.exec = Jvm.exec) (hb : c.code = cc) {P : Prop} {off : Int} {tgt : Nat} (hdg : decode cc pc = .ok (.ifCond .eq off, 3)) (ht : (pc : Int) + off = (tgt : Int)) (kt : ¬ P → W p l e R s m args below meth c H locs cells slots Q (F0 m tgt ls rest)) (kf : P → W p l e R s m args below meth c H locs cells slots Q (F0 m (pc + 3) ls rest)) : W p l e R s m args below meth c H locs cells slots Q (F0 m pc ls (.int (jZ P) :: rest)) :=
  lv_if_eq hx hb hdg ht (fun q => kt (jZ_0.mp q)) (fun q => kf (Classical.byContradiction fun z => q (jZ_0.mpr z)))
theorem j_ifneZ (hx : p.tables.exec = Jvm.exec) (hb : c.code = cc) {P : Prop} {off : Int} {tgt : Nat} (hdg : decode cc pc = .ok (.ifCond .ne off, 3)) (ht : (pc : Int) + off = (tgt : Int)) (kt : P → W p l e R s m args below meth c H locs cells slots Q (F0 m tgt ls rest)) (kf : ¬ P → W p l e R s m args below meth c H locs cells slots Q (F0 m (pc + 3) ls rest)) : W p l e R s m args below meth c H locs cells slots Q (F0 m pc ls (.int (jZ P) :: rest)) :=
  lv_if_ne hx hb hdg ht (fun q => kt (Classical.byContradiction fun z => q (jZ_0.mpr z))) (fun q => kf (jZ_0.mp q))
theorem j_topi {x y : Int32} (h : x = y) (k : W p l e R s m args below meth c H locs cells slots Q (F0 m pc ls (.int y :: rest))) : W p l e R s m args below meth c H locs cells slots Q (F0 m pc ls (.int x :: rest)) := by rw [h]; exact k
theorem j_topl {x y : Int64} (h : x = y) (k : W p l e R s m args below meth c H locs cells slots Q (F0 m pc ls (.long y :: rest))) : W p l e R s m args below meth c H locs cells slots Q (F0 m pc ls (.long x :: rest)) := by rw [h]; exact k
theorem j_iald (hx : p.tables.exec = Jvm.exec) (hb : c.code = cc) {D : va_G} {cl : List vw_C} {tys : List (ClassId × FieldType)} {ws : va_W} {a : Nat} (hK : va_K D cl tys s) (hP : va_P D cl ws H) (q0 t0 : Nat) {cA : ClassId} {n : Nat} {F : Int → Int} (ha : ws[q0]? = some (a, .inl (cA, n, .inl (fun k : Nat => jI (F k))))) (ht : tys[t0]? = some (cA, .int)) {i : Int} (hi : 0 ≤ i ∧ i < (n : Int)) (hn : n < 2147483648) (hdg : decode cc pc = .ok (.iaload, 1)) (kk : W p l e R s m args below meth c H locs cells slots Q (F0 m (pc + 1) ls (.int (jI (F i)) :: rest))) : W p l e R s m args below meth c H locs cells slots Q (F0 m pc ls (.int (jI i) :: .ref a :: rest)) := by
  refine va_iald hx hb hK hP q0 t0 ha ht (jI_in hi hn) hdg ?_
  have h3 := jI_ix hi.1 (by omega)
  show W p l e R s m args below meth c H locs cells slots Q (F0 m (pc + 1) ls (.int (jI (F (((jI i).toNatClampNeg : Nat) : Int))) :: rest))
  rw [h3]
  exact kk
theorem j_lald (hx : p.tables.exec = Jvm.exec) (hb : c.code = cc) {D : va_G} {cl : List vw_C} {tys : List (ClassId × FieldType)} {ws : va_W} {a : Nat} (hK : va_K D cl tys s) (hP : va_P D cl ws H) (q0 t0 : Nat) {cA : ClassId} {n : Nat} {F : Int → Int} (ha : ws[q0]? = some (a, .inl (cA, n, .inr (.inl (fun k : Nat => jL (F k)))))) (ht : tys[t0]? = some (cA, .long)) {i : Int} (hi : 0 ≤ i ∧ i < (n : Int)) (hn : n < 2147483648) (hdg : decode cc pc = .ok (.laload, 1)) (kk : W p l e R s m args below meth c H locs cells slots Q (F0 m (pc + 1) ls (.long (jL (F i)) :: rest))) : W p l e R s m args below meth c H locs cells slots Q (F0 m pc ls (.int (jI i) :: .ref a :: rest)) := by
  refine va_lald hx hb hK hP q0 t0 ha ht (jI_in hi hn) hdg ?_
  have h3 := jI_ix hi.1 (by omega)
  show W p l e R s m args below meth c H locs cells slots Q (F0 m (pc + 1) ls (.long (jL (F (((jI i).toNatClampNeg : Nat) : Int))) :: rest))
  rw [h3]
  exact kk
theorem j_zald (hx : p.tables.exec = Jvm.exec) (hb : c.code = cc) {D : va_G} {cl : List vw_C} {tys : List (ClassId × FieldType)} {ws : va_W} {a : Nat} (hK : va_K D cl tys s) (hP : va_P D cl ws H) (q0 t0 : Nat) {cA : ClassId} {n : Nat} {F : Int → Bool} (ha : ws[q0]? = some (a, .inl (cA, n, .inl (fun k : Nat => jZ (F k = true))))) (ht : tys[t0]? = some (cA, .boolean)) {i : Int} (hi : 0 ≤ i ∧ i < (n : Int)) (hn : n < 2147483648) (hdg : decode cc pc = .ok (.baload, 1)) (kk : W p l e R s m args below meth c H locs cells slots Q (F0 m (pc + 1) ls (.int (jZ (F i = true)) :: rest))) : W p l e R s m args below meth c H locs cells slots Q (F0 m pc ls (.int (jI i) :: .ref a :: rest)) := by
  refine va_zald hx hb hK hP q0 t0 ha ht (jI_in hi hn) hdg ?_
  have h3 := jI_ix hi.1 (by omega)
  show W p l e R s m args below meth c H locs cells slots Q (F0 m (pc + 1) ls (.int (jZ (F (((jI i).toNatClampNeg : Nat) : Int) = true)) :: rest))
  rw [h3]
  exact kk
theorem j_ialdR (hx : p.tables.exec = Jvm.exec) (hb : c.code = cc) {D : va_G} {cl : List vw_C} {tys : List (ClassId × FieldType)} {ws : va_W} {a : Nat} (hK : va_K D cl tys s) (hP : va_P D cl ws H) (q0 t0 : Nat) {cA : ClassId} {n : Nat} {F : Nat → Int32} (ha : ws[q0]? = some (a, .inl (cA, n, .inl F))) (ht : tys[t0]? = some (cA, .int)) {i : Int} (hi : 0 ≤ i ∧ i < (n : Int)) (hn : n < 2147483648) (hdg : decode cc pc = .ok (.iaload, 1)) (kk : W p l e R s m args below meth c H locs cells slots Q (F0 m (pc + 1) ls (.int (F i.toNat) :: rest))) : W p l e R s m args below meth c H locs cells slots Q (F0 m pc ls (.int (jI i) :: .ref a :: rest)) := by
  refine va_iald hx hb hK hP q0 t0 ha ht (jI_in hi hn) hdg ?_
  have h3 := jI_ix hi.1 (by omega)
  rw [jI_cl hi.1 (by omega)]
  exact kk
theorem j_iast (hx : p.tables.exec = Jvm.exec) (hb : c.code = cc) {D : va_G} {cl : List vw_C} {tys : List (ClassId × FieldType)} {ws : va_W} {a : Nat} {A : Nat → Prop} {H0 : Heap} (hK : va_K D cl tys s) (hP : va_P D cl ws H) (hD : va_D A ws) (hS : va_S A H0 H locs) (q0 t0 : Nat) {cA : ClassId} {n : Nat} {F : Int → Int} {v : Int} (ha : ws[q0]? = some (a, .inl (cA, n, .inl (fun k : Nat => jI (F k))))) (ht : tys[t0]? = some (cA, .int)) {i : Int} (hi : 0 ≤ i ∧ i < (n : Int)) (hn : n < 2147483648) (hdg : decode cc pc = .ok (.iastore, 1)) (kk : ∀ (H1 : Heap) (locs1 : List Loc), va_P D cl (ws.set q0 (a, .inl (cA, n, .inl (fun k : Nat => jI (updI F i v k))))) H1 → va_D A (ws.set q0 (a, .inl (cA, n, .inl (fun k : Nat => jI (updI F i v k))))) → va_S A H0 H1 locs1 → W p l e R s m args below meth c H1 locs1 cells slots Q (F0 m (pc + 1) ls rest)) : W p l e R s m args below meth c H locs cells slots Q (F0 m pc ls (.int (jI v) :: .int (jI i) :: .ref a :: rest)) := by
  refine va_iast hx hb hK hP hD hS q0 t0 ha ht (jI_in hi hn) hdg (fun H1 locs1 h1 h2 h3 => ?_)
  rw [jI_upd hi.1 (by omega)] at h1 h2
  exact kk H1 locs1 h1 h2 h3
theorem j_last (hx : p.tables.exec = Jvm.exec) (hb : c.code = cc) {D : va_G} {cl : List vw_C} {tys : List (ClassId × FieldType)} {ws : va_W} {a : Nat} {A : Nat → Prop} {H0 : Heap} (hK : va_K D cl tys s) (hP : va_P D cl ws H) (hD : va_D A ws) (hS : va_S A H0 H locs) (q0 t0 : Nat) {cA : ClassId} {n : Nat} {F : Int → Int} {v : Int} (ha : ws[q0]? = some (a, .inl (cA, n, .inr (.inl (fun k : Nat => jL (F k)))))) (ht : tys[t0]? = some (cA, .long)) {i : Int} (hi : 0 ≤ i ∧ i < (n : Int)) (hn : n < 2147483648) (hdg : decode cc pc = .ok (.lastore, 1)) (kk : ∀ (H1 : Heap) (locs1 : List Loc), va_P D cl (ws.set q0 (a, .inl (cA, n, .inr (.inl (fun k : Nat => jL (updI F i v k)))))) H1 → va_D A (ws.set q0 (a, .inl (cA, n, .inr (.inl (fun k : Nat => jL (updI F i v k)))))) → va_S A H0 H1 locs1 → W p l e R s m args below meth c H1 locs1 cells slots Q (F0 m (pc + 1) ls rest)) : W p l e R s m args below meth c H locs cells slots Q (F0 m pc ls (.long (jL v) :: .int (jI i) :: .ref a :: rest)) := by
  refine va_last hx hb hK hP hD hS q0 t0 ha ht (jI_in hi hn) hdg (fun H1 locs1 h1 h2 h3 => ?_)
  rw [jL_upd hi.1 (by omega)] at h1 h2
  exact kk H1 locs1 h1 h2 h3
theorem j_zast (hx : p.tables.exec = Jvm.exec) (hb : c.code = cc) {D : va_G} {cl : List vw_C} {tys : List (ClassId × FieldType)} {ws : va_W} {a : Nat} {A : Nat → Prop} {H0 : Heap} (hK : va_K D cl tys s) (hP : va_P D cl ws H) (hD : va_D A ws) (hS : va_S A H0 H locs) (q0 t0 : Nat) {cA : ClassId} {n : Nat} {F : Int → Bool} {v : Bool} (ha : ws[q0]? = some (a, .inl (cA, n, .inl (fun k : Nat => jZ (F k = true))))) (ht : tys[t0]? = some (cA, .boolean)) {i : Int} (hi : 0 ≤ i ∧ i < (n : Int)) (hn : n < 2147483648) (hdg : decode cc pc = .ok (.bastore, 1)) (kk : ∀ (H1 : Heap) (locs1 : List Loc), va_P D cl (ws.set q0 (a, .inl (cA, n, .inl (fun k : Nat => jZ (updB F i v k = true))))) H1 → va_D A (ws.set q0 (a, .inl (cA, n, .inl (fun k : Nat => jZ (updB F i v k = true))))) → va_S A H0 H1 locs1 → W p l e R s m args below meth c H1 locs1 cells slots Q (F0 m (pc + 1) ls rest)) : W p l e R s m args below meth c H locs cells slots Q (F0 m pc ls (.int (jZ (v = true)) :: .int (jI i) :: .ref a :: rest)) := by
  refine va_zast hx hb hK hP hD hS q0 t0 ha ht (jI_in hi hn) hdg (fun H1 locs1 h1 h2 h3 => ?_)
  rw [jZ_upd hi.1 (by omega)] at h1 h2
  exact kk H1 locs1 h1 h2 h3
theorem j_iastR (hx : p.tables.exec = Jvm.exec) (hb : c.code = cc) {D : va_G} {cl : List vw_C} {tys : List (ClassId × FieldType)} {ws : va_W} {a : Nat} {A : Nat → Prop} {H0 : Heap} (hK : va_K D cl tys s) (hP : va_P D cl ws H) (hD : va_D A ws) (hS : va_S A H0 H locs) (q0 t0 : Nat) {cA : ClassId} {n : Nat} {F : Nat → Int32} {v : Int32} (ha : ws[q0]? = some (a, .inl (cA, n, .inl F))) (ht : tys[t0]? = some (cA, .int)) {i : Int} (hi : 0 ≤ i ∧ i < (n : Int)) (hn : n < 2147483648) (hdg : decode cc pc = .ok (.iastore, 1)) (kk : ∀ (H1 : Heap) (locs1 : List Loc), va_P D cl (ws.set q0 (a, .inl (cA, n, .inl (upd F i.toNat v)))) H1 → va_D A (ws.set q0 (a, .inl (cA, n, .inl (upd F i.toNat v)))) → va_S A H0 H1 locs1 → W p l e R s m args below meth c H1 locs1 cells slots Q (F0 m (pc + 1) ls rest)) : W p l e R s m args below meth c H locs cells slots Q (F0 m pc ls (.int v :: .int (jI i) :: .ref a :: rest)) := by
  refine va_iast hx hb hK hP hD hS q0 t0 ha ht (jI_in hi hn) hdg (fun H1 locs1 h1 h2 h3 => ?_)
  rw [jI_cl hi.1 (by omega)] at h1 h2
  exact kk H1 locs1 h1 h2 h3
theorem j_retI (hx : p.tables.exec = Jvm.exec) (hb : c.code = cc) {v : Int32} {post : Int32 → Prop} (hr : meth.sig.returnType = some .int)  (hlocks : meth.locks = false) (hdg : decode cc pc = .ok (.ireturn, 1)) (hp : post v) : W p l e R s m args below meth c s.heap [] cells slots (MQ below (vp_Si post) args s cells slots (fun _ => False)) (F0 m pc ls [.int v]) :=
  W.iret hx hb hr (fun t ht _ => ⟨v, rfl, hp, ht⟩) (fun _ h => by cases h) hdg hlocks
theorem j_retZ (hx : p.tables.exec = Jvm.exec) (hb : c.code = cc) {v : Int32} {post : Int32 → Prop} (hr : meth.sig.returnType = some .boolean) (hn : narrow .boolean (.int v) = .int v) (hlocks : meth.locks = false) (hdg : decode cc pc = .ok (.ireturn, 1)) (hp : post v) : W p l e R s m args below meth c s.heap [] cells slots (MQ below (vp_Si post) args s cells slots (fun _ => False)) (F0 m pc ls [.int v]) :=
  W.zret hx hb hr hn (fun t ht _ => ⟨v, rfl, hp, ht⟩) (fun _ h => by cases h) hdg hlocks
theorem j_retL (hx : p.tables.exec = Jvm.exec) (hb : c.code = cc) {v : Int64} {post : Int64 → Prop} (hr : meth.sig.returnType = some .long)  (hlocks : meth.locks = false) (hdg : decode cc pc = .ok (.lreturn, 1)) (hp : post v) : W p l e R s m args below meth c s.heap [] cells slots (MQ below (vp_Sl post) args s cells slots (fun _ => False)) (F0 m pc ls [.long v]) :=
  W.lret hx hb hr (fun t ht _ => ⟨v, rfl, hp, ht⟩) (fun _ h => by cases h) hdg hlocks
theorem j_join {α : Sort _} {g : JFrame} {f : α → JFrame} {P : α → Prop} (k : ∀ x, P x → W p l e R s m args below meth c H locs cells slots Q (f x)) (b : (∀ x, P x → W p l e R s m args below meth c H locs cells slots Q (f x)) → W p l e R s m args below meth c H locs cells slots Q g) : W p l e R s m args below meth c H locs cells slots Q g := b k
theorem j_gen {g : JFrame} (k : ∀ (H1 : Heap) (locs1 : List Loc), H1 = H → locs1 = locs → W p l e R s m args below meth c H1 locs1 cells slots Q g) : W p l e R s m args below meth c H locs cells slots Q g := k H locs rfl rfl
theorem j_joinM {α : Sort _} {g : JFrame} (h : α → Heap) (lc : α → List Loc) (f : α → JFrame) (P : α → Prop) (k : ∀ x, P x → W p l e R s m args below meth c (h x) (lc x) cells slots Q (f x)) (b : (∀ x, P x → W p l e R s m args below meth c (h x) (lc x) cells slots Q (f x)) → W p l e R s m args below meth c H locs cells slots Q g) : W p l e R s m args below meth c H locs cells slots Q g := b k
theorem j_loop {α : Type _} (h : α → Heap) (lc : α → List Loc) (f : α → JFrame) (P : Nat → α → Prop) (h0 : ∀ z, ¬ P 0 z) (k : ∀ n, (∀ z, P n z → W p l e R s m args below meth c (h z) (lc z) cells slots Q (f z)) → ∀ z, P (n + 1) z → W p l e R s m args below meth c (h z) (lc z) cells slots Q (f z)) (n : Nat) (z : α) (hz : P n z) : W p l e R s m args below meth c (h z) (lc z) cells slots Q (f z) := by
  induction n generalizing z with
  | zero => exact absurd hz (h0 z)
  | succ n ih => exact k n ih z hz
theorem j_min {a b : Int} (h : i32 a ∧ i32 b) : (if jI b < jI a then jI b else jI a) = jI (min a b) := by
  by_cases q : b < a
  · rw [if_pos ((jI_lt h.2 h.1).mpr q)]; congr 1; omega
  · rw [if_neg (fun z => q ((jI_lt h.2 h.1).mp z))]; congr 1; omega
theorem j_max {a b : Int} (h : i32 a ∧ i32 b) : (if jI a < jI b then jI b else jI a) = jI (max a b) := by
  by_cases q : a < b
  · rw [if_pos ((jI_lt h.1 h.2).mpr q)]; congr 1; omega
  · rw [if_neg (fun z => q ((jI_lt h.1 h.2).mp z))]; congr 1; omega
end JB
abbrev tyc (cI cJ cZ : ClassId) : List (ClassId × FieldType) := [(cI, .int), (cJ, .long), (cZ, .boolean)]
abbrev RoPre (D : va_G) (tys : List (ClassId × FieldType)) (w : va_W) (av : List Value) : Array Value → State → Prop := va_Pc av (fun U => va_P D vwCl w U.heap ∧ va_K D vwCl tys U)
abbrev rmOf (fr lo : Nat) : Room := { frames := fr, cells := 0, slots := 0, locals := lo }
abbrev RoI (l : Launch) (y : MethodName) (ws : List Cond) (fr lo : Nat) (D : va_G) (tys : List (ClassId × FieldType)) (w : va_W) (av : List Value) (v : Int32) : Prop := Met l y ws (rmOf fr lo) (RoPre D tys w av) (vp_Si (fun r => r = v)) 0 0 (fun _ => False)
abbrev RoL (l : Launch) (y : MethodName) (ws : List Cond) (fr lo : Nat) (D : va_G) (tys : List (ClassId × FieldType)) (w : va_W) (av : List Value) (v : Int64) : Prop := Met l y ws (rmOf fr lo) (RoPre D tys w av) (vp_Sl (fun r => r = v)) 0 0 (fun _ => False)
theorem RoPre.blind {D : va_G} {tys : List (ClassId × FieldType)} {w : va_W} {av : List Value} : FrameBlind (RoPre D tys w av) := fun a U g mk q => by
  obtain ⟨q0, qP, qK⟩ := q
  exact ⟨q0, qP, va_K.moved (u := U) (U := U.calling g mk a) (Vm.Alike.refl U.vm) qK⟩
section JC
variable {p : Program} {l : Launch} {e : Env} {R : Room} {s : State} {m : MethodId} {args : Array Value} {below : List Frame} {meth : Method} {c : Code} {H : Heap} {locs : List Loc} {cells slots : Nat} {Q : State → Prop} {cc : ByteArray} {pc : Nat} {ls : Array Slot} {rest : List Value} {D : va_G} {tys : List (ClassId × FieldType)} {w wr : va_W} {y : MethodName} {ws : List Cond} {fr lo fr0 lo0 nL n maxL index : Nat} {Ts : List Cond} {own C : String} {bytes : ByteArray} {ret : Option FieldType} {b : Nat} {As st0 : List Value} {a : Array Value}
theorem j_gosI {post : Int32 → Prop} (hr : va_Run p l e R s m args below meth c H locs cells slots 0 0 (F0 m pc ls st0) rest (vp_Si post a) (fun _ => False)) (kk : ∀ r : Int32, post r → W p l e R s m args below meth c H locs cells slots Q (F0 m (pc + 3) ls (.int r :: rest))) : W p l e R s m args below meth c H locs cells slots Q (F0 m pc ls st0) := by
  intro T hT X
  obtain ⟨v, st₀, t, T', L, h0, X', hL, e1, -, ⟨r, hv, hp, hh⟩, st⟩ := hr T hT X
  cases hv
  obtain ⟨t2, a1, b1⟩ := kk r hp T' (by rw [e1, hh, h0]) (Stand.forget X' (fun q h => (hL q h).elim))
  exact ⟨t2, st t2 a1, b1⟩
theorem j_gosL {post : Int64 → Prop} (hr : va_Run p l e R s m args below meth c H locs cells slots 0 0 (F0 m pc ls st0) rest (vp_Sl post a) (fun _ => False)) (kk : ∀ r : Int64, post r → W p l e R s m args below meth c H locs cells slots Q (F0 m (pc + 3) ls (.long r :: rest))) : W p l e R s m args below meth c H locs cells slots Q (F0 m pc ls st0) := by
  intro T hT X
  obtain ⟨v, st₀, t, T', L, h0, X', hL, e1, -, ⟨r, hv, hp, hh⟩, st⟩ := hr T hT X
  cases hv
  obtain ⟨t2, a1, b1⟩ := kk r hp T' (by rw [e1, hh, h0]) (Stand.forget X' (fun q h => (hL q h).elim))
  exact ⟨t2, st t2 a1, b1⟩
theorem j_cVI (S : CallFix p m c cc nL s args Ts own) {v : Int32} (hM : RoI l y ws fr lo D tys w (.ref b :: As) v) (cw : CallW R s args own C index y bytes maxL ret ws (rmOf fr lo) 0 0 n) (hK : va_K D vwCl tys s) (hP : va_P D vwCl w H) (hrv : ∃ cell : Cell, H[b]? = some cell ∧ cell.vm.isStatics = false ∧ s.vm.findClass C = some cell.cls) (hn : As.length = n) (hsize : ls.size = nL) (hst : st0 = As.reverse ++ .ref b :: rest) (hW : (rest.map fun v => v.category).sum ≤ 8) (hf : cells ≤ R.cells ∧ slots ≤ R.slots) (hdg : decode cc pc = .ok (.invokevirtual index, 3)) (kk : W p l e R s m args below meth c H locs cells slots Q (F0 m (pc + 3) ls (.int v :: rest))) : W p l e R s m args below meth c H locs cells slots Q (F0 m pc ls st0) :=
  j_gosI (va_runV S hM cw ⟨RoPre.blind, hrv, fun U hU hW => ⟨rfl, by rw [hU]; exact hP, va_K.moved hW.alike hK⟩⟩ rfl hn hsize hst (lv_room hW) hdg hf) (fun r hr => by subst hr; exact kk)
theorem j_cSI (S : CallFix p m c cc nL s args Ts own) {v : Int32} (hM : RoI l y ws fr lo D tys w As v) (cw : CallB R s args own index y bytes maxL ret ws (rmOf fr lo) 0 0 n ∧ (Cond.static y).before args s = true) (hK : va_K D vwCl tys s) (hP : va_P D vwCl w H) (hn : As.length = n) (hsize : ls.size = nL) (hst : st0 = As.reverse ++ rest) (hW : (rest.map fun v => v.category).sum ≤ 8) (hf : cells ≤ R.cells ∧ slots ≤ R.slots) (hdg : decode cc pc = .ok (.invokestatic index, 3)) (kk : W p l e R s m args below meth c H locs cells slots Q (F0 m (pc + 3) ls (.int v :: rest))) : W p l e R s m args below meth c H locs cells slots Q (F0 m pc ls st0) :=
  j_gosI (va_runS S hM cw ⟨RoPre.blind, fun U hU hW => ⟨rfl, by rw [hU]; exact hP, va_K.moved hW.alike hK⟩⟩ rfl hn hsize hst (lv_room hW) hdg hf) (fun r hr => by subst hr; exact kk)
theorem j_cVL (S : CallFix p m c cc nL s args Ts own) {v : Int64} (hM : RoL l y ws fr lo D tys w (.ref b :: As) v) (cw : CallW R s args own C index y bytes maxL ret ws (rmOf fr lo) 0 0 n) (hK : va_K D vwCl tys s) (hP : va_P D vwCl w H) (hrv : ∃ cell : Cell, H[b]? = some cell ∧ cell.vm.isStatics = false ∧ s.vm.findClass C = some cell.cls) (hn : As.length = n) (hsize : ls.size = nL) (hst : st0 = As.reverse ++ .ref b :: rest) (hW : (rest.map fun v => v.category).sum ≤ 8) (hf : cells ≤ R.cells ∧ slots ≤ R.slots) (hdg : decode cc pc = .ok (.invokevirtual index, 3)) (kk : W p l e R s m args below meth c H locs cells slots Q (F0 m (pc + 3) ls (.long v :: rest))) : W p l e R s m args below meth c H locs cells slots Q (F0 m pc ls st0) :=
  j_gosL (va_runV S hM cw ⟨RoPre.blind, hrv, fun U hU hW => ⟨rfl, by rw [hU]; exact hP, va_K.moved hW.alike hK⟩⟩ rfl hn hsize hst (lv_room hW) hdg hf) (fun r hr => by subst hr; exact kk)
theorem j_cSL (S : CallFix p m c cc nL s args Ts own) {v : Int64} (hM : RoL l y ws fr lo D tys w As v) (cw : CallB R s args own index y bytes maxL ret ws (rmOf fr lo) 0 0 n ∧ (Cond.static y).before args s = true) (hK : va_K D vwCl tys s) (hP : va_P D vwCl w H) (hn : As.length = n) (hsize : ls.size = nL) (hst : st0 = As.reverse ++ rest) (hW : (rest.map fun v => v.category).sum ≤ 8) (hf : cells ≤ R.cells ∧ slots ≤ R.slots) (hdg : decode cc pc = .ok (.invokestatic index, 3)) (kk : W p l e R s m args below meth c H locs cells slots Q (F0 m (pc + 3) ls (.long v :: rest))) : W p l e R s m args below meth c H locs cells slots Q (F0 m pc ls st0) :=
  j_gosL (va_runS S hM cw ⟨RoPre.blind, fun U hU hW => ⟨rfl, by rw [hU]; exact hP, va_K.moved hW.alike hK⟩⟩ rfl hn hsize hst (lv_room hW) hdg hf) (fun r hr => by subst hr; exact kk)
/-- the start of a method's walk: what its head gives -/
theorem j_start {y : MethodName} {ws ws' : List Cond} {rm : Room} {av : List Value} {B : State → Prop} {Qc : Array Value → State → Outcome → State → Prop} {free : Addr → Prop} {cc : ByteArray} {maxL : Nat} {ret : Option FieldType} {mc ms : Nat} (own : String) (hown : y.cls = own) (hy : plainName y.cls = true) (hw : ws = Cond.code y cc maxL ret :: ws') (hlen : (lg_sl av).length ≤ maxL)
    (body : ∀ (p : Program) (e : Env) (s : State) (m : MethodId) (below : List Frame) (meth : Method) (c : Code) (ls : Array Slot), p.tables.exec = Jvm.exec → c.code = cc → meth.sig.returnType = ret → meth.locks = false → c.maxLocals = maxL → s.vm.findClass own = some m.cls → (∀ w ∈ ws, w.before av.toArray s = true) → meth.name = y.name → lv_has ls maxL (lv_args 0 av) → B s →
      W p l e rm s m av.toArray below meth c s.heap [] 0 0 (MQ below Qc av.toArray s mc ms free) (F0 m 0 ls [])) : Met l y ws rm (va_Pc av B) Qc mc ms free := by
  refine Met.ofW (cc := cc) (maxL := maxL) (ret := ret) hy hw ?_
  intro p e s m args below meth c s₁ X hml hv
  obtain ⟨rfl, hB⟩ := hv
  have hl := lv_entry av (n := maxL) hlen
  rw [lg_entry_eq]
  subst hown
  exact body p e s m below meth c _ X.exec X.bytes X.returns X.notSynchronized hml (findClass_of_methodNamed X.named) (atoms_spec X.pre) (name_of_methodNamed X.named X.method).1 hl hB
end JC
/-! contracts that keep the addresses of their world -/
theorem va_D.re {A : Nat → Prop} {w w' : va_W} (h : va_D A w) (e : w'.map Prod.fst = w.map Prod.fst) : va_D A w' := by
  have at' : ∀ (k : Nat) (q : Nat × va_E), w'[k]? = some q → ∃ q2, w[k]? = some q2 ∧ q2.1 = q.1 := by
    intro k q hk
    have h1 : (w'.map Prod.fst)[k]? = some q.1 := by rw [List.getElem?_map, hk]; rfl
    rw [e, List.getElem?_map] at h1
    cases hw : w[k]? with
    | none => rw [hw] at h1; cases h1
    | some q2 => rw [hw] at h1; exact ⟨q2, rfl, Option.some.inj h1⟩
  refine ⟨fun i j x y hx hy hxy => ?_, fun k q hk => ?_⟩
  · obtain ⟨x2, h1, h2⟩ := at' i x hx
    obtain ⟨y2, h3, h4⟩ := at' j y hy
    exact h.1 i j x2 y2 h1 h3 (by rw [h2, h4]; exact hxy)
  · obtain ⟨q2, h1, h2⟩ := at' k q hk
    rw [← h2]; exact h.2 k q2 h1
abbrev MuPre (D : va_G) (tys : List (ClassId × FieldType)) (sz : Nat) (w : va_W) (av : List Value) : Array Value → State → Prop := va_Pc av (fun U => U.heap.size = sz ∧ va_P D vwCl w U.heap ∧ va_K D vwCl tys U ∧ va_D (fun _ => True) w)
theorem MuPre.blind {D : va_G} {tys : List (ClassId × FieldType)} {w : va_W} {av : List Value} {sz : Nat} : FrameBlind (MuPre D tys sz w av) := fun a U g mk q => by
  obtain ⟨q0, q1, qP, qK, qD⟩ := q
  exact ⟨q0, q1, qP, va_K.moved (u := U) (U := U.calling g mk a) (Vm.Alike.refl U.vm) qK, qD⟩
abbrev MuV (l : Launch) (y : MethodName) (ws : List Cond) (fr lo : Nat) (D : va_G) (tys : List (ClassId × FieldType)) (w : va_W) (av : List Value) {S : Type} (post : S → Prop) (w1 : S → va_W) : Prop := ∀ sz : Nat, Met l y ws (rmOf fr lo) (MuPre D tys sz w av) (va_Qv post (fun u t => va_P D vwCl (w1 u) t.heap) (va_A w sz)) 0 0 (va_A w sz)
abbrev MuI (l : Launch) (y : MethodName) (ws : List Cond) (fr lo : Nat) (D : va_G) (tys : List (ClassId × FieldType)) (w : va_W) (av : List Value) {S : Type} (post : Int32 → S → Prop) (w1 : S → va_W) : Prop := ∀ sz : Nat, Met l y ws (rmOf fr lo) (MuPre D tys sz w av) (va_Qi post (fun u t => va_P D vwCl (w1 u) t.heap) (va_A w sz)) 0 0 (va_A w sz)
abbrev MuL (l : Launch) (y : MethodName) (ws : List Cond) (fr lo : Nat) (D : va_G) (tys : List (ClassId × FieldType)) (w : va_W) (av : List Value) {S : Type} (post : Int64 → S → Prop) (w1 : S → va_W) : Prop := ∀ sz : Nat, Met l y ws (rmOf fr lo) (MuPre D tys sz w av) (va_Ql post (fun u t => va_P D vwCl (w1 u) t.heap) (va_A w sz)) 0 0 (va_A w sz)
theorem fm_of {α β : Type _} {g : α → Option β} : ∀ {l : List α} {w : List β}, l.map g = w.map some → l.filterMap g = w := by
  intro l
  induction l with
  | nil =>
    intro w h
    cases w with
    | nil => rfl
    | cons y w => simp at h
  | cons x l ih =>
    intro w h
    cases w with
    | nil => simp at h
    | cons y w =>
      simp only [List.map_cons, List.cons.injEq] at h
      rw [List.filterMap_cons, h.1]
      simp only
      rw [ih h.2]
section JM
variable {p : Program} {l : Launch} {e : Env} {R : Room} {s : State} {m : MethodId} {args : Array Value} {below : List Frame} {meth : Method} {c : Code} {H : Heap} {locs : List Loc} {cells slots : Nat} {Q : State → Prop} {cc : ByteArray} {pc : Nat} {ls : Array Slot} {rest : List Value} {D : va_G} {tys : List (ClassId × FieldType)} {wc wr W0 : va_W} {y : MethodName} {ws : List Cond} {fr lo nL n maxL index : Nat} {Ts : List Cond} {own C : String} {bytes : ByteArray} {ret : Option FieldType} {b : Nat} {As st0 : List Value} {a : Array Value} {A : Nat → Prop} {H0 : Heap}
theorem j_mVV (S9 : CallFix p m c cc nL s args Ts own) {S : Type} {post : S → Prop} {w1 : S → va_W} (hM : MuV l y ws fr lo D tys wc (.ref b :: As) post w1) (cw : CallW R s args own C index y bytes maxL ret ws (rmOf fr lo) 0 0 n) (hK : va_K D vwCl tys s) (hP : va_P D vwCl W0 H) (hD : va_D A W0) (hS : va_S A H0 H locs) (hA : ∀ q, H0.size ≤ q → A q) (hrv : ∃ cell : Cell, H[b]? = some cell ∧ cell.vm.isStatics = false ∧ s.vm.findClass C = some cell.cls) (hn : As.length = n) (hsize : ls.size = nL) (hst : st0 = As.reverse ++ .ref b :: rest) (hW : (rest.map fun v => v.category).sum ≤ 8) (hf : cells ≤ R.cells ∧ slots ≤ R.slots) (hdg : decode cc pc = .ok (.invokevirtual index, 3))
    (isC isR perm : List Nat) (hC : isC.map (fun i => W0[i]?) = wc.map some) (hcn : va_nd isC = true) (hR : isR.map (fun i => W0[i]?) = wr.map some) (hnd : va_nd isR = true) (hdis : ∀ i ∈ isR, i ∉ isC) (ad1 : ∀ u, (w1 u).map Prod.fst = wc.map Prod.fst) (W1 : S → va_W) (hperm : ∀ u, perm.filterMap (fun i => (wr ++ w1 u)[i]?) = W1 u) (adr : ∀ u, (W1 u).map Prod.fst = W0.map Prod.fst)
    (kk : ∀ (u : S) (H1 : Heap) (locs1 : List Loc), post u → va_P D vwCl (W1 u) H1 → va_D A (W1 u) → va_S A H0 H1 locs1 → W p l e R s m args below meth c H1 locs1 cells slots Q (F0 m (pc + 3) ls (rest))) : W p l e R s m args below meth c H locs cells slots Q (F0 m pc ls st0) := by
  have hPc := hP.sub isC (fm_of hC)
  have hDc := hD.sub isC hcn hC
  have hFc := va_free (wc := wc) hD hS hA isC hC
  refine va_callv (va_runV S9 (hM H.size) cw ⟨MuPre.blind, hrv, fun U hU hW => ⟨rfl, by rw [hU], by rw [hU]; exact hPc, va_K.moved hW.alike hK, hDc.weaken (fun _ _ _ _ => trivial)⟩⟩ rfl hn hsize hst (lv_room hW) hdg hf) hS (fun q _ h => hFc q h) hFc (fun u t H1 locs1 ht hvm hw hB hz1 hk1 hS1 => ?_)
  have hB : va_P D vwCl (w1 u) t.heap := hB
  rw [ht] at hB
  obtain ⟨hP1, hD1⟩ := va_join (wr := wr) (w1 := w1 u) hP hD isC isR hC hR hnd hdis hk1 hFc hB ((hDc.self (sz := H.size)).re (ad1 u))
  exact kk u H1 locs1 hw (hP1.sub perm (hperm u)) (hD.re (adr u)) hS1
theorem j_mVI (S9 : CallFix p m c cc nL s args Ts own) {S : Type} {post : Int32 → S → Prop} {w1 : S → va_W} (hM : MuI l y ws fr lo D tys wc (.ref b :: As) post w1) (cw : CallW R s args own C index y bytes maxL ret ws (rmOf fr lo) 0 0 n) (hK : va_K D vwCl tys s) (hP : va_P D vwCl W0 H) (hD : va_D A W0) (hS : va_S A H0 H locs) (hA : ∀ q, H0.size ≤ q → A q) (hrv : ∃ cell : Cell, H[b]? = some cell ∧ cell.vm.isStatics = false ∧ s.vm.findClass C = some cell.cls) (hn : As.length = n) (hsize : ls.size = nL) (hst : st0 = As.reverse ++ .ref b :: rest) (hW : (rest.map fun v => v.category).sum ≤ 8) (hf : cells ≤ R.cells ∧ slots ≤ R.slots) (hdg : decode cc pc = .ok (.invokevirtual index, 3))
    (isC isR perm : List Nat) (hC : isC.map (fun i => W0[i]?) = wc.map some) (hcn : va_nd isC = true) (hR : isR.map (fun i => W0[i]?) = wr.map some) (hnd : va_nd isR = true) (hdis : ∀ i ∈ isR, i ∉ isC) (ad1 : ∀ u, (w1 u).map Prod.fst = wc.map Prod.fst) (W1 : S → va_W) (hperm : ∀ u, perm.filterMap (fun i => (wr ++ w1 u)[i]?) = W1 u) (adr : ∀ u, (W1 u).map Prod.fst = W0.map Prod.fst)
    (kk : ∀ (r : Int32) (u : S) (H1 : Heap) (locs1 : List Loc), post r u → va_P D vwCl (W1 u) H1 → va_D A (W1 u) → va_S A H0 H1 locs1 → W p l e R s m args below meth c H1 locs1 cells slots Q (F0 m (pc + 3) ls (.int r :: rest))) : W p l e R s m args below meth c H locs cells slots Q (F0 m pc ls st0) := by
  have hPc := hP.sub isC (fm_of hC)
  have hDc := hD.sub isC hcn hC
  have hFc := va_free (wc := wc) hD hS hA isC hC
  refine va_calli (va_runV S9 (hM H.size) cw ⟨MuPre.blind, hrv, fun U hU hW => ⟨rfl, by rw [hU], by rw [hU]; exact hPc, va_K.moved hW.alike hK, hDc.weaken (fun _ _ _ _ => trivial)⟩⟩ rfl hn hsize hst (lv_room hW) hdg hf) hS (fun q _ h => hFc q h) hFc (fun r u t H1 locs1 ht hvm hw hB hz1 hk1 hS1 => ?_)
  have hB : va_P D vwCl (w1 u) t.heap := hB
  rw [ht] at hB
  obtain ⟨hP1, hD1⟩ := va_join (wr := wr) (w1 := w1 u) hP hD isC isR hC hR hnd hdis hk1 hFc hB ((hDc.self (sz := H.size)).re (ad1 u))
  exact kk r u H1 locs1 hw (hP1.sub perm (hperm u)) (hD.re (adr u)) hS1
theorem j_mVL (S9 : CallFix p m c cc nL s args Ts own) {S : Type} {post : Int64 → S → Prop} {w1 : S → va_W} (hM : MuL l y ws fr lo D tys wc (.ref b :: As) post w1) (cw : CallW R s args own C index y bytes maxL ret ws (rmOf fr lo) 0 0 n) (hK : va_K D vwCl tys s) (hP : va_P D vwCl W0 H) (hD : va_D A W0) (hS : va_S A H0 H locs) (hA : ∀ q, H0.size ≤ q → A q) (hrv : ∃ cell : Cell, H[b]? = some cell ∧ cell.vm.isStatics = false ∧ s.vm.findClass C = some cell.cls) (hn : As.length = n) (hsize : ls.size = nL) (hst : st0 = As.reverse ++ .ref b :: rest) (hW : (rest.map fun v => v.category).sum ≤ 8) (hf : cells ≤ R.cells ∧ slots ≤ R.slots) (hdg : decode cc pc = .ok (.invokevirtual index, 3))
    (isC isR perm : List Nat) (hC : isC.map (fun i => W0[i]?) = wc.map some) (hcn : va_nd isC = true) (hR : isR.map (fun i => W0[i]?) = wr.map some) (hnd : va_nd isR = true) (hdis : ∀ i ∈ isR, i ∉ isC) (ad1 : ∀ u, (w1 u).map Prod.fst = wc.map Prod.fst) (W1 : S → va_W) (hperm : ∀ u, perm.filterMap (fun i => (wr ++ w1 u)[i]?) = W1 u) (adr : ∀ u, (W1 u).map Prod.fst = W0.map Prod.fst)
    (kk : ∀ (r : Int64) (u : S) (H1 : Heap) (locs1 : List Loc), post r u → va_P D vwCl (W1 u) H1 → va_D A (W1 u) → va_S A H0 H1 locs1 → W p l e R s m args below meth c H1 locs1 cells slots Q (F0 m (pc + 3) ls (.long r :: rest))) : W p l e R s m args below meth c H locs cells slots Q (F0 m pc ls st0) := by
  have hPc := hP.sub isC (fm_of hC)
  have hDc := hD.sub isC hcn hC
  have hFc := va_free (wc := wc) hD hS hA isC hC
  refine va_calll (va_runV S9 (hM H.size) cw ⟨MuPre.blind, hrv, fun U hU hW => ⟨rfl, by rw [hU], by rw [hU]; exact hPc, va_K.moved hW.alike hK, hDc.weaken (fun _ _ _ _ => trivial)⟩⟩ rfl hn hsize hst (lv_room hW) hdg hf) hS (fun q _ h => hFc q h) hFc (fun r u t H1 locs1 ht hvm hw hB hz1 hk1 hS1 => ?_)
  have hB : va_P D vwCl (w1 u) t.heap := hB
  rw [ht] at hB
  obtain ⟨hP1, hD1⟩ := va_join (wr := wr) (w1 := w1 u) hP hD isC isR hC hR hnd hdis hk1 hFc hB ((hDc.self (sz := H.size)).re (ad1 u))
  exact kk r u H1 locs1 hw (hP1.sub perm (hperm u)) (hD.re (adr u)) hS1
theorem j_mretV (hx : p.tables.exec = Jvm.exec) (hb : c.code = cc) {S : Type} {post : S → Prop} {w1 : S → va_W} (hr : meth.sig.returnType = none) (hlocks : meth.locks = false) (hS : va_S A s.heap H locs) (hdg : decode cc pc = .ok (.return_, 1)) (u : S) (hp : post u) (hP : va_P D vwCl (w1 u) H) : W p l e R s m args below meth c H locs cells slots (MQ below (va_Qv post (fun u t => va_P D vwCl (w1 u) t.heap) A) args s cells slots A) (F0 m pc ls []) :=
  W.vret hx hb hr (fun t ht _ => ⟨⟨u, rfl, hp, by show va_P D vwCl (w1 u) t.heap; rw [ht]; exact hP⟩, hS.F ht⟩) hS.2.2 hdg hlocks
theorem j_mretI (hx : p.tables.exec = Jvm.exec) (hb : c.code = cc) {S : Type} {post : Int32 → S → Prop} {w1 : S → va_W} {v : Int32} (hr : meth.sig.returnType = some .int) (hlocks : meth.locks = false) (hS : va_S A s.heap H locs) (hdg : decode cc pc = .ok (.ireturn, 1)) (u : S) (hp : post v u) (hP : va_P D vwCl (w1 u) H) : W p l e R s m args below meth c H locs cells slots (MQ below (va_Qi post (fun u t => va_P D vwCl (w1 u) t.heap) A) args s cells slots A) (F0 m pc ls [.int v]) :=
  W.iret hx hb hr (fun t ht _ => ⟨⟨v, u, rfl, hp, by show va_P D vwCl (w1 u) t.heap; rw [ht]; exact hP⟩, hS.F ht⟩) hS.2.2 hdg hlocks
theorem j_mretZ (hx : p.tables.exec = Jvm.exec) (hb : c.code = cc) {S : Type} {post : Int32 → S → Prop} {w1 : S → va_W} {v : Int32} (hr : meth.sig.returnType = some .boolean) (hnr : narrow .boolean (.int v) = .int v) (hlocks : meth.locks = false) (hS : va_S A s.heap H locs) (hdg : decode cc pc = .ok (.ireturn, 1)) (u : S) (hp : post v u) (hP : va_P D vwCl (w1 u) H) : W p l e R s m args below meth c H locs cells slots (MQ below (va_Qi post (fun u t => va_P D vwCl (w1 u) t.heap) A) args s cells slots A) (F0 m pc ls [.int v]) :=
  W.zret hx hb hr hnr (fun t ht _ => ⟨⟨v, u, rfl, hp, by show va_P D vwCl (w1 u) t.heap; rw [ht]; exact hP⟩, hS.F ht⟩) hS.2.2 hdg hlocks
theorem j_mretL (hx : p.tables.exec = Jvm.exec) (hb : c.code = cc) {S : Type} {post : Int64 → S → Prop} {w1 : S → va_W} {v : Int64} (hr : meth.sig.returnType = some .long) (hlocks : meth.locks = false) (hS : va_S A s.heap H locs) (hdg : decode cc pc = .ok (.lreturn, 1)) (u : S) (hp : post v u) (hP : va_P D vwCl (w1 u) H) : W p l e R s m args below meth c H locs cells slots (MQ below (va_Ql post (fun u t => va_P D vwCl (w1 u) t.heap) A) args s cells slots A) (F0 m pc ls [.long v]) :=
  W.lret hx hb hr (fun t ht _ => ⟨⟨v, u, rfl, hp, by show va_P D vwCl (w1 u) t.heap; rw [ht]; exact hP⟩, hS.F ht⟩) hS.2.2 hdg hlocks
end JM
end
