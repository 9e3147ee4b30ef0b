section
-- ===== PART A: goes FIRST, ahead of the names: the tables' words, and 'selects' of the private methods out of them =====
/-- a private method of a class that the tables say can be made, by its rows of tables_1 -/
def lw_okq (q : MethodName × Nat) : Prop := (q.1.cls ≠ "java/lang/invoke/MethodHandle" ∧ q.1.cls ≠ "java/lang/invoke/VarHandle") ∧ Cond.instantiable q.1.cls q.2 ∈ tables_1 ∧ Cond.privateMethod q.1 ∈ tables_1 ∧ Cond.instanceMethod q.1 ∈ tables_1
theorem lw_p0 : lw_okq (⟨"BreakLines", "findBest", "()V"⟩, 4) := ⟨⟨by decide +kernel, by decide +kernel⟩, List.mem_of_getElem? (i := 8) (by decide +kernel), List.mem_of_getElem? (i := 216) (by decide +kernel), List.mem_of_getElem? (i := 217) (by decide +kernel)⟩
theorem lw_p1 : lw_okq (⟨"BreakLines$Search", "priceLinesAndTurns", "()V"⟩, 7) := ⟨⟨by decide +kernel, by decide +kernel⟩, List.mem_of_getElem? (i := 67) (by decide +kernel), List.mem_of_getElem? (i := 224) (by decide +kernel), List.mem_of_getElem? (i := 225) (by decide +kernel)⟩
theorem lw_p2 : lw_okq (⟨"BreakLines$Search", "fillForAnyCount", "()V"⟩, 7) := ⟨⟨by decide +kernel, by decide +kernel⟩, List.mem_of_getElem? (i := 67) (by decide +kernel), List.mem_of_getElem? (i := 250) (by decide +kernel), List.mem_of_getElem? (i := 251) (by decide +kernel)⟩
theorem lw_p3 : lw_okq (⟨"BreakLines$Search", "fillCell", "(IIII)V"⟩, 7) := ⟨⟨by decide +kernel, by decide +kernel⟩, List.mem_of_getElem? (i := 67) (by decide +kernel), List.mem_of_getElem? (i := 255) (by decide +kernel), List.mem_of_getElem? (i := 256) (by decide +kernel)⟩
theorem lw_p4 : lw_okq (⟨"BreakLines$Search", "offer", "(IJJ)V"⟩, 7) := ⟨⟨by decide +kernel, by decide +kernel⟩, List.mem_of_getElem? (i := 67) (by decide +kernel), List.mem_of_getElem? (i := 268) (by decide +kernel), List.mem_of_getElem? (i := 269) (by decide +kernel)⟩
theorem lw_p5 : lw_okq (⟨"BreakLines$Search", "offerGoingOn", "(IJII)V"⟩, 7) := ⟨⟨by decide +kernel, by decide +kernel⟩, List.mem_of_getElem? (i := 67) (by decide +kernel), List.mem_of_getElem? (i := 272) (by decide +kernel), List.mem_of_getElem? (i := 273) (by decide +kernel)⟩
theorem lw_p6 : lw_okq (⟨"BreakLines$Search", "fillForCount", "(I)V"⟩, 7) := ⟨⟨by decide +kernel, by decide +kernel⟩, List.mem_of_getElem? (i := 67) (by decide +kernel), List.mem_of_getElem? (i := 276) (by decide +kernel), List.mem_of_getElem? (i := 277) (by decide +kernel)⟩
theorem lw_p7 : lw_okq (⟨"BreakLines", "pagePrice", "(I)I"⟩, 4) := ⟨⟨by decide +kernel, by decide +kernel⟩, List.mem_of_getElem? (i := 8) (by decide +kernel), List.mem_of_getElem? (i := 327) (by decide +kernel), List.mem_of_getElem? (i := 328) (by decide +kernel)⟩
theorem lw_p8 : lw_okq (⟨"BreakLinesModel", "isBar", "(I)Z"⟩, 18) := ⟨⟨by decide +kernel, by decide +kernel⟩, List.mem_of_getElem? (i := 360) (by decide +kernel), List.mem_of_getElem? (i := 440) (by decide +kernel), List.mem_of_getElem? (i := 441) (by decide +kernel)⟩
theorem lw_p9 : lw_okq (⟨"BreakLinesModel", "isThere", "()Z"⟩, 18) := ⟨⟨by decide +kernel, by decide +kernel⟩, List.mem_of_getElem? (i := 360) (by decide +kernel), List.mem_of_getElem? (i := 469) (by decide +kernel), List.mem_of_getElem? (i := 470) (by decide +kernel)⟩
theorem lw_p10 : lw_okq (⟨"BreakLinesModel", "find", "()V"⟩, 18) := ⟨⟨by decide +kernel, by decide +kernel⟩, List.mem_of_getElem? (i := 360) (by decide +kernel), List.mem_of_getElem? (i := 473) (by decide +kernel), List.mem_of_getElem? (i := 474) (by decide +kernel)⟩
theorem lw_p11 : lw_okq (⟨"BreakLinesModel", "restOf", "(IIIZ)J"⟩, 18) := ⟨⟨by decide +kernel, by decide +kernel⟩, List.mem_of_getElem? (i := 360) (by decide +kernel), List.mem_of_getElem? (i := 480) (by decide +kernel), List.mem_of_getElem? (i := 481) (by decide +kernel)⟩
theorem lw_p12 : lw_okq (⟨"BreakLinesModel", "mayBe", "(II)Z"⟩, 18) := ⟨⟨by decide +kernel, by decide +kernel⟩, List.mem_of_getElem? (i := 360) (by decide +kernel), List.mem_of_getElem? (i := 486) (by decide +kernel), List.mem_of_getElem? (i := 487) (by decide +kernel)⟩
theorem lw_p13 : lw_okq (⟨"BreakLinesModel", "total", "([III)I"⟩, 18) := ⟨⟨by decide +kernel, by decide +kernel⟩, List.mem_of_getElem? (i := 360) (by decide +kernel), List.mem_of_getElem? (i := 490) (by decide +kernel), List.mem_of_getElem? (i := 491) (by decide +kernel)⟩
theorem lw_p14 : lw_okq (⟨"BreakLinesModel", "costOf", "(II)J"⟩, 18) := ⟨⟨by decide +kernel, by decide +kernel⟩, List.mem_of_getElem? (i := 360) (by decide +kernel), List.mem_of_getElem? (i := 494) (by decide +kernel), List.mem_of_getElem? (i := 495) (by decide +kernel)⟩
theorem lw_p15 : lw_okq (⟨"BreakLinesModel", "off", "(II)I"⟩, 18) := ⟨⟨by decide +kernel, by decide +kernel⟩, List.mem_of_getElem? (i := 360) (by decide +kernel), List.mem_of_getElem? (i := 498) (by decide +kernel), List.mem_of_getElem? (i := 499) (by decide +kernel)⟩
def lw_privs_1 : List (MethodName × Nat) := [(⟨"BreakLines", "findBest", "()V"⟩, 4), (⟨"BreakLines$Search", "priceLinesAndTurns", "()V"⟩, 7), (⟨"BreakLines$Search", "fillForAnyCount", "()V"⟩, 7), (⟨"BreakLines$Search", "fillCell", "(IIII)V"⟩, 7), (⟨"BreakLines$Search", "offer", "(IJJ)V"⟩, 7), (⟨"BreakLines$Search", "offerGoingOn", "(IJII)V"⟩, 7), (⟨"BreakLines$Search", "fillForCount", "(I)V"⟩, 7), (⟨"BreakLines", "pagePrice", "(I)I"⟩, 4), (⟨"BreakLinesModel", "isBar", "(I)Z"⟩, 18), (⟨"BreakLinesModel", "isThere", "()Z"⟩, 18), (⟨"BreakLinesModel", "find", "()V"⟩, 18), (⟨"BreakLinesModel", "restOf", "(IIIZ)J"⟩, 18), (⟨"BreakLinesModel", "mayBe", "(II)Z"⟩, 18), (⟨"BreakLinesModel", "total", "([III)I"⟩, 18), (⟨"BreakLinesModel", "costOf", "(II)J"⟩, 18), (⟨"BreakLinesModel", "off", "(II)I"⟩, 18)]
theorem lw_r1 : ∀ q ∈ lw_privs_1, lw_okq q := List.forall_mem_cons.mpr ⟨lw_p0, List.forall_mem_cons.mpr ⟨lw_p1, List.forall_mem_cons.mpr ⟨lw_p2, List.forall_mem_cons.mpr ⟨lw_p3, List.forall_mem_cons.mpr ⟨lw_p4, List.forall_mem_cons.mpr ⟨lw_p5, List.forall_mem_cons.mpr ⟨lw_p6, List.forall_mem_cons.mpr ⟨lw_p7, List.forall_mem_cons.mpr ⟨lw_p8, List.forall_mem_cons.mpr ⟨lw_p9, List.forall_mem_cons.mpr ⟨lw_p10, List.forall_mem_cons.mpr ⟨lw_p11, List.forall_mem_cons.mpr ⟨lw_p12, List.forall_mem_cons.mpr ⟨lw_p13, List.forall_mem_cons.mpr ⟨lw_p14, List.forall_mem_cons.mpr ⟨lw_p15, fun _ h => absurd h List.not_mem_nil⟩⟩⟩⟩⟩⟩⟩⟩⟩⟩⟩⟩⟩⟩⟩⟩
theorem lw_p16 : lw_okq (⟨"BreakLinesModel", "isOver", "(II)Z"⟩, 18) := ⟨⟨by decide +kernel, by decide +kernel⟩, List.mem_of_getElem? (i := 360) (by decide +kernel), List.mem_of_getElem? (i := 502) (by decide +kernel), List.mem_of_getElem? (i := 503) (by decide +kernel)⟩
theorem lw_p17 : lw_okq (⟨"BreakLinesModel", "turnAt", "(I)J"⟩, 18) := ⟨⟨by decide +kernel, by decide +kernel⟩, List.mem_of_getElem? (i := 360) (by decide +kernel), List.mem_of_getElem? (i := 506) (by decide +kernel), List.mem_of_getElem? (i := 507) (by decide +kernel)⟩
theorem lw_p18 : lw_okq (⟨"BreakLinesModel", "pickLines", "()V"⟩, 18) := ⟨⟨by decide +kernel, by decide +kernel⟩, List.mem_of_getElem? (i := 360) (by decide +kernel), List.mem_of_getElem? (i := 512) (by decide +kernel), List.mem_of_getElem? (i := 513) (by decide +kernel)⟩
theorem lw_p19 : lw_okq (⟨"BreakLinesModel", "reaches", "(III)Z"⟩, 18) := ⟨⟨by decide +kernel, by decide +kernel⟩, List.mem_of_getElem? (i := 360) (by decide +kernel), List.mem_of_getElem? (i := 516) (by decide +kernel), List.mem_of_getElem? (i := 517) (by decide +kernel)⟩
theorem lw_p20 : lw_okq (⟨"BreakLinesModel", "pickPages", "()V"⟩, 18) := ⟨⟨by decide +kernel, by decide +kernel⟩, List.mem_of_getElem? (i := 360) (by decide +kernel), List.mem_of_getElem? (i := 520) (by decide +kernel), List.mem_of_getElem? (i := 521) (by decide +kernel)⟩
theorem lw_p21 : lw_okq (⟨"BreakLinesModel", "pageCost", "(II)J"⟩, 18) := ⟨⟨by decide +kernel, by decide +kernel⟩, List.mem_of_getElem? (i := 360) (by decide +kernel), List.mem_of_getElem? (i := 524) (by decide +kernel), List.mem_of_getElem? (i := 525) (by decide +kernel)⟩
theorem lw_p22 : lw_okq (⟨"BreakLinesModel", "pageOf", "(I)I"⟩, 18) := ⟨⟨by decide +kernel, by decide +kernel⟩, List.mem_of_getElem? (i := 360) (by decide +kernel), List.mem_of_getElem? (i := 541) (by decide +kernel), List.mem_of_getElem? (i := 542) (by decide +kernel)⟩
theorem lw_p23 : lw_okq (⟨"BreakLinesModel", "lineOf", "(I)I"⟩, 18) := ⟨⟨by decide +kernel, by decide +kernel⟩, List.mem_of_getElem? (i := 360) (by decide +kernel), List.mem_of_getElem? (i := 553) (by decide +kernel), List.mem_of_getElem? (i := 554) (by decide +kernel)⟩
theorem lw_p24 : lw_okq (⟨"BreakLinesModel", "wide", "(III)I"⟩, 18) := ⟨⟨by decide +kernel, by decide +kernel⟩, List.mem_of_getElem? (i := 360) (by decide +kernel), List.mem_of_getElem? (i := 557) (by decide +kernel), List.mem_of_getElem? (i := 558) (by decide +kernel)⟩
def lw_privs_2 : List (MethodName × Nat) := [(⟨"BreakLinesModel", "isOver", "(II)Z"⟩, 18), (⟨"BreakLinesModel", "turnAt", "(I)J"⟩, 18), (⟨"BreakLinesModel", "pickLines", "()V"⟩, 18), (⟨"BreakLinesModel", "reaches", "(III)Z"⟩, 18), (⟨"BreakLinesModel", "pickPages", "()V"⟩, 18), (⟨"BreakLinesModel", "pageCost", "(II)J"⟩, 18), (⟨"BreakLinesModel", "pageOf", "(I)I"⟩, 18), (⟨"BreakLinesModel", "lineOf", "(I)I"⟩, 18), (⟨"BreakLinesModel", "wide", "(III)I"⟩, 18)]
theorem lw_r2 : ∀ q ∈ lw_privs_2, lw_okq q := List.forall_mem_cons.mpr ⟨lw_p16, List.forall_mem_cons.mpr ⟨lw_p17, List.forall_mem_cons.mpr ⟨lw_p18, List.forall_mem_cons.mpr ⟨lw_p19, List.forall_mem_cons.mpr ⟨lw_p20, List.forall_mem_cons.mpr ⟨lw_p21, List.forall_mem_cons.mpr ⟨lw_p22, List.forall_mem_cons.mpr ⟨lw_p23, List.forall_mem_cons.mpr ⟨lw_p24, fun _ h => absurd h List.not_mem_nil⟩⟩⟩⟩⟩⟩⟩⟩⟩
def lw_privs : List (MethodName × Nat) := lw_privs_1 ++ (lw_privs_2)
def lw_tbl : List Cond := k2_sels lw_privs ++ tables_1
theorem lw_privs_ok : ∀ q ∈ lw_privs, lw_okq q := by
  show ∀ q ∈ lw_privs_1 ++ (lw_privs_2), lw_okq q
  exact List.forall_mem_append.mpr ⟨lw_r1, lw_r2⟩
end
section
/-! ===== BEGIN words of one list among another's, by their places ===== -/
theorem goodIn_r {big : List Cond} (ws : List Cond) (ps : List Nat) (hp : ws = ps.filterMap (fun i => big[i]?)) (h : ws.all goodWord = true) : GoodIn big ws := by
  intro w hw
  have h1 := List.all_eq_true.mp h w hw
  rw [hp] at hw
  obtain ⟨i, -, hi⟩ := List.mem_filterMap.mp hw
  have hm : w ∈ big := by first | exact List.mem_of_getElem? hi | exact List.getElem?_mem hi
  exact ⟨hm, good_of_word h1⟩
theorem goodIn_app {big a b : List Cond} (ha : GoodIn big a) (hb : GoodIn big b) : GoodIn big (a ++ b) := fun w h => (List.mem_append.mp h).elim (ha w) (hb w)
theorem goodIn_ca {big a b : List Cond} {c : Cond} (ha : GoodIn big (c :: a)) (hb : GoodIn big b) : GoodIn big (c :: (a ++ b)) := fun w h => (List.mem_cons.mp h).elim (fun e => ha w (List.mem_cons.mpr (Or.inl e))) (fun h => (List.mem_append.mp h).elim (fun h => ha w (List.mem_cons.mpr (Or.inr h))) (hb w))
theorem goodIn_sub {big ws : List Cond} (hm : ∀ w ∈ ws, w ∈ big) (h : ws.all goodWord = true) : GoodIn big ws := fun w hw => ⟨hm w hw, good_of_word (List.all_eq_true.mp h w hw)⟩
/-! ===== END ===== -/

/-! ===== BEGIN printed: names, fields, word lists, decode rows ===== -/
def RX0 : String := "BreakLines$Piece"
def TX0 : u_T := fun k => match k with
  | 0 => ("BreakLines$Piece", "bars", "I", false)
  | 1 => ("BreakLines$Piece", "width", "I", false)
  | 2 => ("BreakLines$Piece", "perPage", "I", false)
  | 3 => ("BreakLines$Piece", "count", "I", false)
  | 4 => ("BreakLines$Piece", "costs", "[I", true)
  | 5 => ("BreakLines$Piece", "marked", "[I", true)
  | 6 => ("BreakLines$Piece", "leastAhead", "[I", true)
  | _ => ("BreakLines$Piece", "wishedAhead", "[I", true)
def tyX0 : Nat → FieldType := fun k => match k with
  | 0 => .int
  | 1 => .int
  | 2 => .int
  | 3 => .int
  | 4 => .array .int
  | 5 => .array .int
  | 6 => .array .int
  | _ => .array .int
abbrev wsX00 : List Cond := u_ws RX0 TX0 8
theorem nmX0 : ∀ a, a < 8 → ∀ b, b < 8 → a ≠ b → (TX0 a).2.1 ≠ (TX0 b).2.1 := by decide +kernel
theorem tyX0_ok : ∀ k, k < 8 → parseFieldDescriptor (TX0 k).2.2.1 = some (tyX0 k) := by decide +kernel
abbrev cX0_init : ByteArray := prog_2_method_1_code
def yX0_init : MethodName := ⟨RX0, "<init>", "(II)V"⟩
abbrev cX0_hasBar : ByteArray := prog_2_method_2_code
def yX0_hasBar : MethodName := ⟨RX0, "hasBar", "(I)Z"⟩
abbrev cX0_addBar : ByteArray := prog_2_method_3_code
def yX0_addBar : MethodName := ⟨RX0, "addBar", "(II)I"⟩
abbrev cX0_putWidths : ByteArray := prog_2_method_4_code
def yX0_putWidths : MethodName := ⟨RX0, "putWidths", "(III)V"⟩
abbrev cX0_isMarked : ByteArray := prog_2_method_5_code
def yX0_isMarked : MethodName := ⟨RX0, "isMarked", "(II)Z"⟩
abbrev cX0_putMark : ByteArray := prog_2_method_6_code
def yX0_putMark : MethodName := ⟨RX0, "putMark", "(IIZ)V"⟩
abbrev cX0_leastOf : ByteArray := prog_2_method_7_code
def yX0_leastOf : MethodName := ⟨RX0, "leastOf", "(II)I"⟩
abbrev cX0_wishedOf : ByteArray := prog_2_method_8_code
def yX0_wishedOf : MethodName := ⟨RX0, "wishedOf", "(II)I"⟩
abbrev cX0_spare : ByteArray := prog_2_method_9_code
def yX0_spare : MethodName := ⟨RX0, "spare", "(II)I"⟩
abbrev cX0_isOver : ByteArray := prog_2_method_10_code
def yX0_isOver : MethodName := ⟨RX0, "isOver", "(II)Z"⟩
abbrev cX0_mayBe : ByteArray := prog_2_method_11_code
def yX0_mayBe : MethodName := ⟨RX0, "mayBe", "(II)Z"⟩
abbrev cX0_linePrice : ByteArray := prog_2_method_12_code
def yX0_linePrice : MethodName := ⟨RX0, "linePrice", "(II)J"⟩
abbrev cX0_turnPrice : ByteArray := prog_2_method_13_code
def yX0_turnPrice : MethodName := ⟨RX0, "turnPrice", "(I)I"⟩
abbrev cX0_setAhead : ByteArray := prog_2_method_14_code
def yX0_setAhead : MethodName := ⟨RX0, "setAhead", "(III)I"⟩
abbrev cX0_share : ByteArray := prog_2_method_15_code
def yX0_share : MethodName := ⟨RX0, "share", "(III)I"⟩
def RX1 : String := "BreakLines$Search"
def TX1 : u_T := fun k => match k with
  | 0 => ("BreakLines$Search", "piece", "LBreakLines$Piece;", true)
  | 1 => ("BreakLines$Search", "linePrices", "[J", true)
  | 2 => ("BreakLines$Search", "turnPrices", "[J", true)
  | 3 => ("BreakLines$Search", "ranks", "[J", true)
  | 4 => ("BreakLines$Search", "orders", "[J", true)
  | 5 => ("BreakLines$Search", "foundRank", "J", false)
  | _ => ("BreakLines$Search", "foundOrder", "J", false)
def tyX1 : Nat → FieldType := fun k => match k with
  | 0 => .object "BreakLines$Piece"
  | 1 => .array .long
  | 2 => .array .long
  | 3 => .array .long
  | 4 => .array .long
  | 5 => .long
  | _ => .long
abbrev wsX10 : List Cond := u_ws RX1 TX1 7
theorem nmX1 : ∀ a, a < 7 → ∀ b, b < 7 → a ≠ b → (TX1 a).2.1 ≠ (TX1 b).2.1 := by decide +kernel
theorem tyX1_ok : ∀ k, k < 7 → parseFieldDescriptor (TX1 k).2.2.1 = some (tyX1 k) := by decide +kernel
abbrev cX1_init : ByteArray := prog_3_method_1_code
def yX1_init : MethodName := ⟨RX1, "<init>", "(LBreakLines$Piece;)V"⟩
abbrev cX1_run : ByteArray := prog_3_method_2_code
def yX1_run : MethodName := ⟨RX1, "run", "()V"⟩
abbrev cX1_hasFound : ByteArray := prog_3_method_3_code
def yX1_hasFound : MethodName := ⟨RX1, "hasFound", "()Z"⟩
abbrev cX1_foundTotal : ByteArray := prog_3_method_4_code
def yX1_foundTotal : MethodName := ⟨RX1, "foundTotal", "()J"⟩
abbrev cX1_lineEndsAt : ByteArray := prog_3_method_5_code
def yX1_lineEndsAt : MethodName := ⟨RX1, "lineEndsAt", "(I)Z"⟩
abbrev cX1_pageEndsAt : ByteArray := prog_3_method_6_code
def yX1_pageEndsAt : MethodName := ⟨RX1, "pageEndsAt", "(I)Z"⟩
abbrev cX1_priceLinesAndTurns : ByteArray := prog_3_method_7_code
def yX1_priceLinesAndTurns : MethodName := ⟨RX1, "priceLinesAndTurns", "()V"⟩
abbrev cX1_fillForAnyCount : ByteArray := prog_3_method_8_code
def yX1_fillForAnyCount : MethodName := ⟨RX1, "fillForAnyCount", "()V"⟩
abbrev cX1_fillForCount : ByteArray := prog_3_method_9_code
def yX1_fillForCount : MethodName := ⟨RX1, "fillForCount", "(I)V"⟩
abbrev cX1_fillCell : ByteArray := prog_3_method_10_code
def yX1_fillCell : MethodName := ⟨RX1, "fillCell", "(IIII)V"⟩
abbrev cX1_offerGoingOn : ByteArray := prog_3_method_11_code
def yX1_offerGoingOn : MethodName := ⟨RX1, "offerGoingOn", "(IJII)V"⟩
abbrev cX1_offer : ByteArray := prog_3_method_12_code
def yX1_offer : MethodName := ⟨RX1, "offer", "(IJJ)V"⟩
abbrev cX1_lineEnd : ByteArray := prog_3_method_13_code
def yX1_lineEnd : MethodName := ⟨RX1, "lineEnd", "(I)J"⟩
abbrev cX1_pageEnd : ByteArray := prog_3_method_14_code
def yX1_pageEnd : MethodName := ⟨RX1, "pageEnd", "(I)J"⟩
def RX2 : String := "BreakLines$Setting"
def TX2 : u_T := fun k => match k with
  | 0 => ("BreakLines$Setting", "exists", "Z", false)
  | 1 => ("BreakLines$Setting", "total", "J", false)
  | 2 => ("BreakLines$Setting", "lines", "I", false)
  | 3 => ("BreakLines$Setting", "pages", "I", false)
  | 4 => ("BreakLines$Setting", "firstBar", "[I", true)
  | 5 => ("BreakLines$Setting", "firstLine", "[I", true)
  | 6 => ("BreakLines$Setting", "pageOfLine", "[I", true)
  | _ => ("BreakLines$Setting", "lineOfBar", "[I", true)
def tyX2 : Nat → FieldType := fun k => match k with
  | 0 => .boolean
  | 1 => .long
  | 2 => .int
  | 3 => .int
  | 4 => .array .int
  | 5 => .array .int
  | 6 => .array .int
  | _ => .array .int
abbrev wsX20 : List Cond := u_ws RX2 TX2 8
theorem nmX2 : ∀ a, a < 8 → ∀ b, b < 8 → a ≠ b → (TX2 a).2.1 ≠ (TX2 b).2.1 := by decide +kernel
theorem tyX2_ok : ∀ k, k < 8 → parseFieldDescriptor (TX2 k).2.2.1 = some (tyX2 k) := by decide +kernel
abbrev cX2_init : ByteArray := prog_4_method_1_code
def yX2_init : MethodName := ⟨RX2, "<init>", "()V"⟩
abbrev cX2_take : ByteArray := prog_4_method_2_code
def yX2_take : MethodName := ⟨RX2, "take", "(LBreakLines$Search;I)V"⟩
abbrev cX2_lastBar : ByteArray := prog_4_method_3_code
def yX2_lastBar : MethodName := ⟨RX2, "lastBar", "(I)I"⟩
abbrev cX2_linesOnPage : ByteArray := prog_4_method_4_code
def yX2_linesOnPage : MethodName := ⟨RX2, "linesOnPage", "(I)I"⟩
def RX3 : String := "BreakLines"
def TX3 : u_T := fun k => match k with
  | 0 => ("BreakLines", "piece", "LBreakLines$Piece;", true)
  | 1 => ("BreakLines", "search", "LBreakLines$Search;", true)
  | 2 => ("BreakLines", "best", "LBreakLines$Setting;", true)
  | _ => ("BreakLines", "bestIsKnown", "Z", false)
def tyX3 : Nat → FieldType := fun k => match k with
  | 0 => .object "BreakLines$Piece"
  | 1 => .object "BreakLines$Search"
  | 2 => .object "BreakLines$Setting"
  | _ => .boolean
abbrev wsX30 : List Cond := u_ws RX3 TX3 4
theorem nmX3 : ∀ a, a < 4 → ∀ b, b < 4 → a ≠ b → (TX3 a).2.1 ≠ (TX3 b).2.1 := by decide +kernel
theorem tyX3_ok : ∀ k, k < 4 → parseFieldDescriptor (TX3 k).2.2.1 = some (tyX3 k) := by decide +kernel
abbrev cX3_init : ByteArray := prog_1_method_1_code
def yX3_init : MethodName := ⟨RX3, "<init>", "(II)V"⟩
abbrev cX3_bar : ByteArray := prog_1_method_2_code
def yX3_bar : MethodName := ⟨RX3, "bar", "(II)I"⟩
abbrev cX3_change : ByteArray := prog_1_method_3_code
def yX3_change : MethodName := ⟨RX3, "change", "(III)I"⟩
abbrev cX3_mark : ByteArray := prog_1_method_4_code
def yX3_mark : MethodName := ⟨RX3, "mark", "(IIZ)I"⟩
abbrev cX3_cost : ByteArray := prog_1_method_5_code
def yX3_cost : MethodName := ⟨RX3, "cost", "(II)I"⟩
abbrev cX3_count : ByteArray := prog_1_method_6_code
def yX3_count : MethodName := ⟨RX3, "count", "(I)I"⟩
abbrev cX3_size : ByteArray := prog_1_method_7_code
def yX3_size : MethodName := ⟨RX3, "size", "(II)I"⟩
abbrev cX3_bars : ByteArray := prog_1_method_8_code
def yX3_bars : MethodName := ⟨RX3, "bars", "()I"⟩
abbrev cX3_lines : ByteArray := prog_1_method_9_code
def yX3_lines : MethodName := ⟨RX3, "lines", "()I"⟩
abbrev cX3_pages : ByteArray := prog_1_method_10_code
def yX3_pages : MethodName := ⟨RX3, "pages", "()I"⟩
abbrev cX3_sum : ByteArray := prog_1_method_11_code
def yX3_sum : MethodName := ⟨RX3, "sum", "()J"⟩
abbrev cX3_line : ByteArray := prog_1_method_12_code
def yX3_line : MethodName := ⟨RX3, "line", "(II)I"⟩
abbrev cX3_page : ByteArray := prog_1_method_13_code
def yX3_page : MethodName := ⟨RX3, "page", "(II)I"⟩
abbrev cX3_set : ByteArray := prog_1_method_14_code
def yX3_set : MethodName := ⟨RX3, "set", "(II)I"⟩
abbrev cX3_ends : ByteArray := prog_1_method_15_code
def yX3_ends : MethodName := ⟨RX3, "ends", "(I)Z"⟩
abbrev cX3_badness : ByteArray := prog_1_method_16_code
def yX3_badness : MethodName := ⟨RX3, "badness", "(II)J"⟩
abbrev cX3_would : ByteArray := prog_1_method_17_code
def yX3_would : MethodName := ⟨RX3, "would", "(II)J"⟩
abbrev cX3_findBest : ByteArray := prog_1_method_18_code
def yX3_findBest : MethodName := ⟨RX3, "findBest", "()V"⟩
abbrev cX3_pagePrice : ByteArray := prog_1_method_19_code
def yX3_pagePrice : MethodName := ⟨RX3, "pagePrice", "(I)I"⟩
abbrev cX3_areWidths : ByteArray := prog_1_method_20_code
def yX3_areWidths : MethodName := ⟨RX3, "areWidths", "(II)Z"⟩
abbrev cX3_isWithin : ByteArray := prog_1_method_21_code
def yX3_isWithin : MethodName := ⟨RX3, "isWithin", "(III)Z"⟩
abbrev cX3_nearest : ByteArray := prog_1_method_22_code
def yX3_nearest : MethodName := ⟨RX3, "nearest", "(III)I"⟩
def RX4 : String := "BreakLinesModel"
def TX4 : u_T := fun k => match k with
  | 0 => ("BreakLinesModel", "width", "I", false)
  | 1 => ("BreakLinesModel", "perPage", "I", false)
  | 2 => ("BreakLinesModel", "bars", "I", false)
  | 3 => ("BreakLinesModel", "leasts", "[I", true)
  | 4 => ("BreakLinesModel", "wishes", "[I", true)
  | 5 => ("BreakLinesModel", "marks", "[Z", true)
  | 6 => ("BreakLinesModel", "costs", "[J", true)
  | 7 => ("BreakLinesModel", "due", "I", false)
  | 8 => ("BreakLinesModel", "rest", "[J", true)
  | 9 => ("BreakLinesModel", "known", "Z", false)
  | 10 => ("BreakLinesModel", "best", "J", false)
  | 11 => ("BreakLinesModel", "lineMany", "I", false)
  | 12 => ("BreakLinesModel", "lineFrom", "[I", true)
  | 13 => ("BreakLinesModel", "pageMany", "I", false)
  | 14 => ("BreakLinesModel", "pageFrom", "[I", true)
  | 15 => ("BreakLinesModel", "now", "[J", true)
  | 16 => ("BreakLinesModel", "then", "[J", true)
  | _ => ("BreakLinesModel", "pages", "[J", true)
def tyX4 : Nat → FieldType := fun k => match k with
  | 0 => .int
  | 1 => .int
  | 2 => .int
  | 3 => .array .int
  | 4 => .array .int
  | 5 => .array .boolean
  | 6 => .array .long
  | 7 => .int
  | 8 => .array .long
  | 9 => .boolean
  | 10 => .long
  | 11 => .int
  | 12 => .array .int
  | 13 => .int
  | 14 => .array .int
  | 15 => .array .long
  | 16 => .array .long
  | _ => .array .long
abbrev wsX40 : List Cond := u_ws RX4 TX4 18
theorem nmX4 : ∀ a, a < 18 → ∀ b, b < 18 → a ≠ b → (TX4 a).2.1 ≠ (TX4 b).2.1 := by decide +kernel
theorem tyX4_ok : ∀ k, k < 18 → parseFieldDescriptor (TX4 k).2.2.1 = some (tyX4 k) := by decide +kernel
abbrev cX4_init : ByteArray := prog_6_method_1_code
def yX4_init : MethodName := ⟨RX4, "<init>", "(II)V"⟩
abbrev cX4_in : ByteArray := prog_6_method_3_code
def yX4_in : MethodName := ⟨RX4, "in", "(III)Z"⟩
abbrev cX4_isBar : ByteArray := prog_6_method_4_code
def yX4_isBar : MethodName := ⟨RX4, "isBar", "(I)Z"⟩
abbrev cX4_areWidths : ByteArray := prog_6_method_5_code
def yX4_areWidths : MethodName := ⟨RX4, "areWidths", "(II)Z"⟩
abbrev cX4_bar : ByteArray := prog_6_method_6_code
def yX4_bar : MethodName := ⟨RX4, "bar", "(II)I"⟩
abbrev cX4_change : ByteArray := prog_6_method_7_code
def yX4_change : MethodName := ⟨RX4, "change", "(III)I"⟩
abbrev cX4_mark : ByteArray := prog_6_method_8_code
def yX4_mark : MethodName := ⟨RX4, "mark", "(IIZ)I"⟩
abbrev cX4_cost : ByteArray := prog_6_method_9_code
def yX4_cost : MethodName := ⟨RX4, "cost", "(II)I"⟩
abbrev cX4_count : ByteArray := prog_6_method_10_code
def yX4_count : MethodName := ⟨RX4, "count", "(I)I"⟩
abbrev cX4_size : ByteArray := prog_6_method_11_code
def yX4_size : MethodName := ⟨RX4, "size", "(II)I"⟩
abbrev cX4_bars : ByteArray := prog_6_method_12_code
def yX4_bars : MethodName := ⟨RX4, "bars", "()I"⟩
abbrev cX4_total : ByteArray := prog_6_method_13_code
def yX4_total : MethodName := ⟨RX4, "total", "([III)I"⟩
abbrev cX4_mayBe : ByteArray := prog_6_method_14_code
def yX4_mayBe : MethodName := ⟨RX4, "mayBe", "(II)Z"⟩
abbrev cX4_off : ByteArray := prog_6_method_15_code
def yX4_off : MethodName := ⟨RX4, "off", "(II)I"⟩
abbrev cX4_isOver : ByteArray := prog_6_method_16_code
def yX4_isOver : MethodName := ⟨RX4, "isOver", "(II)Z"⟩
abbrev cX4_costOf : ByteArray := prog_6_method_17_code
def yX4_costOf : MethodName := ⟨RX4, "costOf", "(II)J"⟩
abbrev cX4_place : ByteArray := prog_6_method_18_code
def yX4_place : MethodName := ⟨RX4, "place", "(IIIZ)I"⟩
abbrev cX4_turnAt : ByteArray := prog_6_method_19_code
def yX4_turnAt : MethodName := ⟨RX4, "turnAt", "(I)J"⟩
abbrev cX4_restOf : ByteArray := prog_6_method_20_code
def yX4_restOf : MethodName := ⟨RX4, "restOf", "(IIIZ)J"⟩
abbrev cX4_find : ByteArray := prog_6_method_21_code
def yX4_find : MethodName := ⟨RX4, "find", "()V"⟩
abbrev cX4_reaches : ByteArray := prog_6_method_22_code
def yX4_reaches : MethodName := ⟨RX4, "reaches", "(III)Z"⟩
abbrev cX4_pickLines : ByteArray := prog_6_method_23_code
def yX4_pickLines : MethodName := ⟨RX4, "pickLines", "()V"⟩
abbrev cX4_pageCost : ByteArray := prog_6_method_24_code
def yX4_pageCost : MethodName := ⟨RX4, "pageCost", "(II)J"⟩
abbrev cX4_pickPages : ByteArray := prog_6_method_25_code
def yX4_pickPages : MethodName := ⟨RX4, "pickPages", "()V"⟩
abbrev cX4_isThere : ByteArray := prog_6_method_26_code
def yX4_isThere : MethodName := ⟨RX4, "isThere", "()Z"⟩
abbrev cX4_lines : ByteArray := prog_6_method_27_code
def yX4_lines : MethodName := ⟨RX4, "lines", "()I"⟩
abbrev cX4_pages : ByteArray := prog_6_method_28_code
def yX4_pages : MethodName := ⟨RX4, "pages", "()I"⟩
abbrev cX4_sum : ByteArray := prog_6_method_29_code
def yX4_sum : MethodName := ⟨RX4, "sum", "()J"⟩
abbrev cX4_pageOf : ByteArray := prog_6_method_30_code
def yX4_pageOf : MethodName := ⟨RX4, "pageOf", "(I)I"⟩
abbrev cX4_lineOf : ByteArray := prog_6_method_31_code
def yX4_lineOf : MethodName := ⟨RX4, "lineOf", "(I)I"⟩
abbrev cX4_line : ByteArray := prog_6_method_32_code
def yX4_line : MethodName := ⟨RX4, "line", "(II)I"⟩
abbrev cX4_page : ByteArray := prog_6_method_33_code
def yX4_page : MethodName := ⟨RX4, "page", "(II)I"⟩
abbrev cX4_wide : ByteArray := prog_6_method_34_code
def yX4_wide : MethodName := ⟨RX4, "wide", "(III)I"⟩
abbrev cX4_set : ByteArray := prog_6_method_35_code
def yX4_set : MethodName := ⟨RX4, "set", "(II)I"⟩
abbrev cX4_ends : ByteArray := prog_6_method_36_code
def yX4_ends : MethodName := ⟨RX4, "ends", "(I)Z"⟩
abbrev cX4_badness : ByteArray := prog_6_method_37_code
def yX4_badness : MethodName := ⟨RX4, "badness", "(II)J"⟩
abbrev cX4_would : ByteArray := prog_6_method_38_code
def yX4_would : MethodName := ⟨RX4, "would", "(II)J"⟩
def RJ9 : String := "java/lang/Math"
def TJ9 : u_T := fun k => match k with
  | _ => ("", "", "", false)
def tyJ9 : Nat → FieldType := fun k => match k with
  | _ => .int
abbrev wsJ90 : List Cond := u_ws RJ9 TJ9 0
theorem nmJ9 : ∀ a, a < 0 → ∀ b, b < 0 → a ≠ b → (TJ9 a).2.1 ≠ (TJ9 b).2.1 := by decide +kernel
theorem tyJ9_ok : ∀ k, k < 0 → parseFieldDescriptor (TJ9 k).2.2.1 = some (tyJ9 k) := by decide +kernel
abbrev cJ9_max_7cf53 : ByteArray := prog_7_method_65_code
def yJ9_max_7cf53 : MethodName := ⟨RJ9, "max", "(II)I"⟩
abbrev cJ9_min_7cf53 : ByteArray := prog_7_method_69_code
def yJ9_min_7cf53 : MethodName := ⟨RJ9, "min", "(II)I"⟩
def RL : String := "BreakLinesLaw"
abbrev cL_cell : ByteArray := method_2_code
def yL_cell : MethodName := ⟨RL, "cell", "([II)I"⟩
abbrev cL_law : ByteArray := code
def yL_law : MethodName := ⟨RL, "law", "([I)Z"⟩
def wsX0_init : List Cond := .code yX0_init cX0_init 3 none :: ([.methodLink RX0 3 objectInit, .instanceMethod objectInit, .code objectInit ⟨#[0xb1]⟩ 1 none, .fieldLink RX0 9 "BreakLines$Piece" "bars" "I", .fieldLink RX0 15 "BreakLines$Piece" "width" "I", .fieldLink RX0 18 "BreakLines$Piece" "perPage" "I", .fieldLink RX0 21 "BreakLines$Piece" "count" "I", .arrayClass .int, .fieldLink RX0 24 "BreakLines$Piece" "costs" "[I", .constant RX0 28 (100000), .fieldLink RX0 29 "BreakLines$Piece" "marked" "[I", .fieldLink RX0 32 "BreakLines$Piece" "leastAhead" "[I", .fieldLink RX0 35 "BreakLines$Piece" "wishedAhead" "[I"] ++ wsX00)
def wsX0_hasBar : List Cond := .code yX0_hasBar cX0_hasBar 2 (some .boolean) :: ([.fieldLink RX0 9 "BreakLines$Piece" "bars" "I"] ++ wsX00)
def wsX0_addBar : List Cond := .code yX0_addBar cX0_addBar 4 (some .int) :: ([.fieldLink RX0 9 "BreakLines$Piece" "bars" "I", .fieldLink RX0 32 "BreakLines$Piece" "leastAhead" "[I", .fieldLink RX0 35 "BreakLines$Piece" "wishedAhead" "[I"] ++ wsX00)
def wsX0_leastOf : List Cond := .code yX0_leastOf cX0_leastOf 3 (some .int) :: ([.fieldLink RX0 32 "BreakLines$Piece" "leastAhead" "[I"] ++ wsX00)
def wsX0_wishedOf : List Cond := .code yX0_wishedOf cX0_wishedOf 3 (some .int) :: ([.fieldLink RX0 35 "BreakLines$Piece" "wishedAhead" "[I"] ++ wsX00)
def wsX0_putWidths : List Cond := .code yX0_putWidths cX0_putWidths 7 none :: ([.fieldLink RX0 9 "BreakLines$Piece" "bars" "I", .fieldLink RX0 32 "BreakLines$Piece" "leastAhead" "[I", .fieldLink RX0 35 "BreakLines$Piece" "wishedAhead" "[I", .methodLink RX0 38 yX0_leastOf, .instanceMethod yX0_leastOf, .selects RX0 yX0_leastOf yX0_leastOf, .initialized RX0, .code yX0_leastOf cX0_leastOf 3 (some .int), .methodLink RX0 42 yX0_wishedOf, .instanceMethod yX0_wishedOf, .selects RX0 yX0_wishedOf yX0_wishedOf, .code yX0_wishedOf cX0_wishedOf 3 (some .int)] ++ wsX00)
def wsX0_isMarked : List Cond := .code yX0_isMarked cX0_isMarked 3 (some .boolean) :: ([.fieldLink RX0 29 "BreakLines$Piece" "marked" "[I"] ++ wsX00)
def wsX0_putMark : List Cond := .code yX0_putMark cX0_putMark 5 none :: ([.fieldLink RX0 29 "BreakLines$Piece" "marked" "[I"] ++ wsX00)
def wsX0_spare : List Cond := .code yX0_spare cX0_spare 3 (some .int) :: ([.fieldLink RX0 15 "BreakLines$Piece" "width" "I", .methodLink RX0 42 yX0_wishedOf, .instanceMethod yX0_wishedOf, .selects RX0 yX0_wishedOf yX0_wishedOf, .initialized RX0, .code yX0_wishedOf cX0_wishedOf 3 (some .int), .fieldLink RX0 35 "BreakLines$Piece" "wishedAhead" "[I"] ++ wsX00)
def wsX0_isOver : List Cond := .code yX0_isOver cX0_isOver 3 (some .boolean) :: ([.fieldLink RX0 32 "BreakLines$Piece" "leastAhead" "[I", .fieldLink RX0 15 "BreakLines$Piece" "width" "I"] ++ wsX00)
def wsX0_mayBe : List Cond := .code yX0_mayBe cX0_mayBe 4 (some .boolean) :: ([.fieldLink RX0 29 "BreakLines$Piece" "marked" "[I", .fieldLink RX0 9 "BreakLines$Piece" "bars" "I", .methodLink RX0 45 yX0_isMarked, .instanceMethod yX0_isMarked, .selects RX0 yX0_isMarked yX0_isMarked, .initialized RX0, .code yX0_isMarked cX0_isMarked 3 (some .boolean), .methodLink RX0 49 yX0_isOver, .instanceMethod yX0_isOver, .selects RX0 yX0_isOver yX0_isOver, .code yX0_isOver cX0_isOver 3 (some .boolean), .fieldLink RX0 32 "BreakLines$Piece" "leastAhead" "[I", .fieldLink RX0 15 "BreakLines$Piece" "width" "I"] ++ wsX00)
def wsX0_linePrice_r1 : List Cond := [Cond.constantLong RX0 55 (-1), Cond.fieldLink RX0 24 "BreakLines$Piece" "costs" "[I", Cond.fieldLink RX0 9 "BreakLines$Piece" "bars" "I", Cond.methodLink RX0 52 yX0_mayBe, Cond.instanceMethod yX0_mayBe, Cond.selects RX0 yX0_mayBe yX0_mayBe, Cond.initialized RX0, Cond.code yX0_mayBe cX0_mayBe 4 (some .boolean), Cond.fieldLink RX0 29 "BreakLines$Piece" "marked" "[I", Cond.methodLink RX0 45 yX0_isMarked, Cond.instanceMethod yX0_isMarked, Cond.selects RX0 yX0_isMarked yX0_isMarked, Cond.code yX0_isMarked cX0_isMarked 3 (some .boolean), Cond.methodLink RX0 49 yX0_isOver, Cond.instanceMethod yX0_isOver, Cond.selects RX0 yX0_isOver yX0_isOver, Cond.code yX0_isOver cX0_isOver 3 (some .boolean), Cond.fieldLink RX0 32 "BreakLines$Piece" "leastAhead" "[I", Cond.fieldLink RX0 15 "BreakLines$Piece" "width" "I", Cond.methodLink RX0 57 yX0_spare, Cond.instanceMethod yX0_spare, Cond.selects RX0 yX0_spare yX0_spare, Cond.code yX0_spare cX0_spare 3 (some .int), Cond.methodLink RX0 42 yX0_wishedOf]
def wsX0_linePrice_r2 : List Cond := [Cond.instanceMethod yX0_wishedOf, Cond.selects RX0 yX0_wishedOf yX0_wishedOf, Cond.code yX0_wishedOf cX0_wishedOf 3 (some .int), Cond.fieldLink RX0 35 "BreakLines$Piece" "wishedAhead" "[I"]
def wsX0_linePrice : List Cond := .code yX0_linePrice cX0_linePrice 5 (some .long) :: ((wsX0_linePrice_r1 ++ wsX0_linePrice_r2) ++ wsX00)
def wsX0_turnPrice : List Cond := .code yX0_turnPrice cX0_turnPrice 2 (some .int) :: ([.fieldLink RX0 24 "BreakLines$Piece" "costs" "[I", .methodLink RX0 45 yX0_isMarked, .instanceMethod yX0_isMarked, .selects RX0 yX0_isMarked yX0_isMarked, .initialized RX0, .code yX0_isMarked cX0_isMarked 3 (some .boolean), .fieldLink RX0 29 "BreakLines$Piece" "marked" "[I"] ++ wsX00)
def wsX0_share : List Cond := .code yX0_share cX0_share 3 (some .int) :: ([])
def wsX0_setAhead : List Cond := .code yX0_setAhead cX0_setAhead 7 (some .int) :: ([.fieldLink RX0 32 "BreakLines$Piece" "leastAhead" "[I", .fieldLink RX0 35 "BreakLines$Piece" "wishedAhead" "[I", .methodLink RX0 49 yX0_isOver, .instanceMethod yX0_isOver, .selects RX0 yX0_isOver yX0_isOver, .initialized RX0, .code yX0_isOver cX0_isOver 3 (some .boolean), .fieldLink RX0 15 "BreakLines$Piece" "width" "I", .methodLink RX0 57 yX0_spare, .instanceMethod yX0_spare, .selects RX0 yX0_spare yX0_spare, .code yX0_spare cX0_spare 3 (some .int), .methodLink RX0 42 yX0_wishedOf, .instanceMethod yX0_wishedOf, .selects RX0 yX0_wishedOf yX0_wishedOf, .code yX0_wishedOf cX0_wishedOf 3 (some .int), .methodLink RX0 60 yX0_share, .static yX0_share, .code yX0_share cX0_share 3 (some .int), .methodLink RX0 38 yX0_leastOf, .instanceMethod yX0_leastOf, .selects RX0 yX0_leastOf yX0_leastOf, .code yX0_leastOf cX0_leastOf 3 (some .int)] ++ wsX00)
def wsX1_init : List Cond := .code yX1_init cX1_init 2 none :: ([.methodLink RX1 5 objectInit, .instanceMethod objectInit, .code objectInit ⟨#[0xb1]⟩ 1 none, .fieldLink RX1 11 "BreakLines$Search" "piece" "LBreakLines$Piece;", .arrayClass .long, .fieldLink RX1 17 "BreakLines$Search" "linePrices" "[J", .fieldLink RX1 21 "BreakLines$Search" "turnPrices" "[J", .fieldLink RX1 24 "BreakLines$Search" "ranks" "[J", .fieldLink RX1 27 "BreakLines$Search" "orders" "[J", .constantLong RX1 30 (9223372036854775807), .fieldLink RX1 32 "BreakLines$Search" "foundRank" "J", .fieldLink RX1 36 "BreakLines$Search" "foundOrder" "J"] ++ wsX10)
def wsX1_priceLinesAndTurns_r1 : List Cond := [Cond.fieldLink RX1 11 "BreakLines$Search" "piece" "LBreakLines$Piece;", Cond.fieldLink RX1 39 "BreakLines$Piece" "bars" "I", Cond.fieldLink RX1 21 "BreakLines$Search" "turnPrices" "[J", Cond.fieldLink RX1 17 "BreakLines$Search" "linePrices" "[J", Cond.methodLink RX1 73 yX0_turnPrice, Cond.instanceMethod yX0_turnPrice, Cond.selects RX0 yX0_turnPrice yX0_turnPrice, Cond.initialized RX0, Cond.code yX0_turnPrice cX0_turnPrice 2 (some .int), Cond.fieldLink RX0 24 "BreakLines$Piece" "costs" "[I", Cond.methodLink RX0 45 yX0_isMarked, Cond.instanceMethod yX0_isMarked, Cond.selects RX0 yX0_isMarked yX0_isMarked, Cond.code yX0_isMarked cX0_isMarked 3 (some .boolean), Cond.fieldLink RX0 29 "BreakLines$Piece" "marked" "[I", Cond.methodLink RX1 77 yX0_linePrice, Cond.instanceMethod yX0_linePrice, Cond.selects RX0 yX0_linePrice yX0_linePrice, Cond.code yX0_linePrice cX0_linePrice 5 (some .long), Cond.constantLong RX0 55 (-1), Cond.fieldLink RX0 9 "BreakLines$Piece" "bars" "I", Cond.methodLink RX0 52 yX0_mayBe, Cond.instanceMethod yX0_mayBe, Cond.selects RX0 yX0_mayBe yX0_mayBe]
def wsX1_priceLinesAndTurns_r2 : List Cond := [Cond.code yX0_mayBe cX0_mayBe 4 (some .boolean), Cond.methodLink RX0 49 yX0_isOver, Cond.instanceMethod yX0_isOver, Cond.selects RX0 yX0_isOver yX0_isOver, Cond.code yX0_isOver cX0_isOver 3 (some .boolean), Cond.fieldLink RX0 32 "BreakLines$Piece" "leastAhead" "[I", Cond.fieldLink RX0 15 "BreakLines$Piece" "width" "I", Cond.methodLink RX0 57 yX0_spare, Cond.instanceMethod yX0_spare, Cond.selects RX0 yX0_spare yX0_spare, Cond.code yX0_spare cX0_spare 3 (some .int), Cond.methodLink RX0 42 yX0_wishedOf, Cond.instanceMethod yX0_wishedOf, Cond.selects RX0 yX0_wishedOf yX0_wishedOf, Cond.code yX0_wishedOf cX0_wishedOf 3 (some .int), Cond.fieldLink RX0 35 "BreakLines$Piece" "wishedAhead" "[I"]
def wsX1_priceLinesAndTurns : List Cond := .code yX1_priceLinesAndTurns cX1_priceLinesAndTurns 3 none :: ((wsX1_priceLinesAndTurns_r1 ++ wsX1_priceLinesAndTurns_r2) ++ wsX10 ++ wsX00)
def wsX1_lineEnd : List Cond := .code yX1_lineEnd cX1_lineEnd 1 (some .long) :: ([])
def wsX1_pageEnd : List Cond := .code yX1_pageEnd cX1_pageEnd 1 (some .long) :: ([])
def wsX1_offer : List Cond := .code yX1_offer cX1_offer 6 none :: ([.fieldLink RX1 24 "BreakLines$Search" "ranks" "[J", .fieldLink RX1 27 "BreakLines$Search" "orders" "[J"] ++ wsX10)
def wsX1_offerGoingOn : List Cond := .code yX1_offerGoingOn cX1_offerGoingOn 9 none :: ([.fieldLink RX1 24 "BreakLines$Search" "ranks" "[J", .constantLong RX1 30 (9223372036854775807), .fieldLink RX1 21 "BreakLines$Search" "turnPrices" "[J", .constantLong RX1 62 (1024), .constantLong RX1 98 (32), .fieldLink RX1 27 "BreakLines$Search" "orders" "[J", .fieldLink RX1 11 "BreakLines$Search" "piece" "LBreakLines$Piece;", .fieldLink RX1 81 "BreakLines$Piece" "perPage" "I", .methodLink RX1 66 yX1_lineEnd, .static yX1_lineEnd, .initialized RX1, .code yX1_lineEnd cX1_lineEnd 1 (some .long), .methodLink RX1 70 yX1_pageEnd, .static yX1_pageEnd, .code yX1_pageEnd cX1_pageEnd 1 (some .long), .methodLink RX1 100 yX1_offer, .instanceMethod yX1_offer, .selects RX1 yX1_offer yX1_offer, .code yX1_offer cX1_offer 6 none] ++ wsX10 ++ wsX00)
def wsX1_fillCell_r1 : List Cond := [Cond.fieldLink RX1 24 "BreakLines$Search" "ranks" "[J", Cond.constantLong RX1 30 (9223372036854775807), Cond.fieldLink RX1 27 "BreakLines$Search" "orders" "[J", Cond.fieldLink RX1 17 "BreakLines$Search" "linePrices" "[J", Cond.constantLong RX1 64 (-1), Cond.constantLong RX1 62 (1024), Cond.fieldLink RX1 11 "BreakLines$Search" "piece" "LBreakLines$Piece;", Cond.fieldLink RX1 39 "BreakLines$Piece" "bars" "I", Cond.fieldLink RX1 94 "BreakLines$Piece" "costs" "[I", Cond.constantLong RX1 98 (32), Cond.methodLink RX1 66 yX1_lineEnd, Cond.static yX1_lineEnd, Cond.initialized RX1, Cond.code yX1_lineEnd cX1_lineEnd 1 (some .long), Cond.methodLink RX1 70 yX1_pageEnd, Cond.static yX1_pageEnd, Cond.code yX1_pageEnd cX1_pageEnd 1 (some .long), Cond.methodLink RX1 100 yX1_offer, Cond.instanceMethod yX1_offer, Cond.selects RX1 yX1_offer yX1_offer, Cond.code yX1_offer cX1_offer 6 none, Cond.methodLink RX1 104 yX1_offerGoingOn, Cond.instanceMethod yX1_offerGoingOn, Cond.selects RX1 yX1_offerGoingOn yX1_offerGoingOn]
def wsX1_fillCell_r2 : List Cond := [Cond.code yX1_offerGoingOn cX1_offerGoingOn 9 none, Cond.fieldLink RX1 21 "BreakLines$Search" "turnPrices" "[J", Cond.fieldLink RX1 81 "BreakLines$Piece" "perPage" "I"]
def wsX1_fillCell : List Cond := .code yX1_fillCell cX1_fillCell 14 none :: ((wsX1_fillCell_r1 ++ wsX1_fillCell_r2) ++ wsX10 ++ wsX00)
def wsX1_fillForAnyCount_r1 : List Cond := [Cond.fieldLink RX1 11 "BreakLines$Search" "piece" "LBreakLines$Piece;", Cond.fieldLink RX1 39 "BreakLines$Piece" "bars" "I", Cond.fieldLink RX1 81 "BreakLines$Piece" "perPage" "I", Cond.methodLink RX1 84 Lib.Math.min.name, Cond.static Lib.Math.min.name, Cond.initialized "java/lang/Math", Cond.code Lib.Math.min.name Lib.Math.min.code 2 (some .int), Cond.methodLink RX1 90 yX1_fillCell, Cond.instanceMethod yX1_fillCell, Cond.selects RX1 yX1_fillCell yX1_fillCell, Cond.initialized RX1, Cond.code yX1_fillCell cX1_fillCell 14 none, Cond.fieldLink RX1 24 "BreakLines$Search" "ranks" "[J", Cond.constantLong RX1 30 (9223372036854775807), Cond.fieldLink RX1 27 "BreakLines$Search" "orders" "[J", Cond.fieldLink RX1 17 "BreakLines$Search" "linePrices" "[J", Cond.constantLong RX1 64 (-1), Cond.constantLong RX1 62 (1024), Cond.fieldLink RX1 94 "BreakLines$Piece" "costs" "[I", Cond.constantLong RX1 98 (32), Cond.methodLink RX1 66 yX1_lineEnd, Cond.static yX1_lineEnd, Cond.code yX1_lineEnd cX1_lineEnd 1 (some .long), Cond.methodLink RX1 70 yX1_pageEnd]
def wsX1_fillForAnyCount_r2 : List Cond := [Cond.static yX1_pageEnd, Cond.code yX1_pageEnd cX1_pageEnd 1 (some .long), Cond.methodLink RX1 100 yX1_offer, Cond.instanceMethod yX1_offer, Cond.selects RX1 yX1_offer yX1_offer, Cond.code yX1_offer cX1_offer 6 none, Cond.methodLink RX1 104 yX1_offerGoingOn, Cond.instanceMethod yX1_offerGoingOn, Cond.selects RX1 yX1_offerGoingOn yX1_offerGoingOn, Cond.code yX1_offerGoingOn cX1_offerGoingOn 9 none, Cond.fieldLink RX1 21 "BreakLines$Search" "turnPrices" "[J"]
def wsX1_fillForAnyCount : List Cond := .code yX1_fillForAnyCount cX1_fillForAnyCount 4 none :: ((wsX1_fillForAnyCount_r1 ++ wsX1_fillForAnyCount_r2) ++ wsX10 ++ wsX00)
def wsX1_fillForCount_r1 : List Cond := [Cond.fieldLink RX1 11 "BreakLines$Search" "piece" "LBreakLines$Piece;", Cond.fieldLink RX1 39 "BreakLines$Piece" "bars" "I", Cond.fieldLink RX1 81 "BreakLines$Piece" "perPage" "I", Cond.methodLink RX1 84 Lib.Math.min.name, Cond.static Lib.Math.min.name, Cond.initialized "java/lang/Math", Cond.code Lib.Math.min.name Lib.Math.min.code 2 (some .int), Cond.methodLink RX1 90 yX1_fillCell, Cond.instanceMethod yX1_fillCell, Cond.selects RX1 yX1_fillCell yX1_fillCell, Cond.initialized RX1, Cond.code yX1_fillCell cX1_fillCell 14 none, Cond.fieldLink RX1 24 "BreakLines$Search" "ranks" "[J", Cond.constantLong RX1 30 (9223372036854775807), Cond.fieldLink RX1 27 "BreakLines$Search" "orders" "[J", Cond.fieldLink RX1 17 "BreakLines$Search" "linePrices" "[J", Cond.constantLong RX1 64 (-1), Cond.constantLong RX1 62 (1024), Cond.fieldLink RX1 94 "BreakLines$Piece" "costs" "[I", Cond.constantLong RX1 98 (32), Cond.methodLink RX1 66 yX1_lineEnd, Cond.static yX1_lineEnd, Cond.code yX1_lineEnd cX1_lineEnd 1 (some .long), Cond.methodLink RX1 70 yX1_pageEnd]
def wsX1_fillForCount_r2 : List Cond := [Cond.static yX1_pageEnd, Cond.code yX1_pageEnd cX1_pageEnd 1 (some .long), Cond.methodLink RX1 100 yX1_offer, Cond.instanceMethod yX1_offer, Cond.selects RX1 yX1_offer yX1_offer, Cond.code yX1_offer cX1_offer 6 none, Cond.methodLink RX1 104 yX1_offerGoingOn, Cond.instanceMethod yX1_offerGoingOn, Cond.selects RX1 yX1_offerGoingOn yX1_offerGoingOn, Cond.code yX1_offerGoingOn cX1_offerGoingOn 9 none, Cond.fieldLink RX1 21 "BreakLines$Search" "turnPrices" "[J"]
def wsX1_fillForCount : List Cond := .code yX1_fillForCount cX1_fillForCount 10 none :: ((wsX1_fillForCount_r1 ++ wsX1_fillForCount_r2) ++ wsX10 ++ wsX00)
def wsX1_run_r1 : List Cond := [Cond.fieldLink RX1 36 "BreakLines$Search" "foundOrder" "J", Cond.fieldLink RX1 11 "BreakLines$Search" "piece" "LBreakLines$Piece;", Cond.fieldLink RX1 39 "BreakLines$Piece" "bars" "I", Cond.fieldLink RX1 45 "BreakLines$Piece" "count" "I", Cond.constantLong RX1 30 (9223372036854775807), Cond.fieldLink RX1 32 "BreakLines$Search" "foundRank" "J", Cond.fieldLink RX1 24 "BreakLines$Search" "ranks" "[J", Cond.fieldLink RX1 27 "BreakLines$Search" "orders" "[J", Cond.methodLink RX1 48 yX1_priceLinesAndTurns, Cond.instanceMethod yX1_priceLinesAndTurns, Cond.selects RX1 yX1_priceLinesAndTurns yX1_priceLinesAndTurns, Cond.initialized RX1, Cond.code yX1_priceLinesAndTurns cX1_priceLinesAndTurns 3 none, Cond.fieldLink RX1 21 "BreakLines$Search" "turnPrices" "[J", Cond.fieldLink RX1 17 "BreakLines$Search" "linePrices" "[J", Cond.methodLink RX1 73 yX0_turnPrice, Cond.instanceMethod yX0_turnPrice, Cond.selects RX0 yX0_turnPrice yX0_turnPrice, Cond.initialized RX0, Cond.code yX0_turnPrice cX0_turnPrice 2 (some .int), Cond.fieldLink RX0 24 "BreakLines$Piece" "costs" "[I", Cond.methodLink RX0 45 yX0_isMarked, Cond.instanceMethod yX0_isMarked, Cond.selects RX0 yX0_isMarked yX0_isMarked]
def wsX1_run_r2 : List Cond := [Cond.code yX0_isMarked cX0_isMarked 3 (some .boolean), Cond.fieldLink RX0 29 "BreakLines$Piece" "marked" "[I", Cond.methodLink RX1 77 yX0_linePrice, Cond.instanceMethod yX0_linePrice, Cond.selects RX0 yX0_linePrice yX0_linePrice, Cond.code yX0_linePrice cX0_linePrice 5 (some .long), Cond.constantLong RX0 55 (-1), Cond.fieldLink RX0 9 "BreakLines$Piece" "bars" "I", Cond.methodLink RX0 52 yX0_mayBe, Cond.instanceMethod yX0_mayBe, Cond.selects RX0 yX0_mayBe yX0_mayBe, Cond.code yX0_mayBe cX0_mayBe 4 (some .boolean), Cond.methodLink RX0 49 yX0_isOver, Cond.instanceMethod yX0_isOver, Cond.selects RX0 yX0_isOver yX0_isOver, Cond.code yX0_isOver cX0_isOver 3 (some .boolean), Cond.fieldLink RX0 32 "BreakLines$Piece" "leastAhead" "[I", Cond.fieldLink RX0 15 "BreakLines$Piece" "width" "I", Cond.methodLink RX0 57 yX0_spare, Cond.instanceMethod yX0_spare, Cond.selects RX0 yX0_spare yX0_spare, Cond.code yX0_spare cX0_spare 3 (some .int), Cond.methodLink RX0 42 yX0_wishedOf, Cond.instanceMethod yX0_wishedOf]
def wsX1_run_r3 : List Cond := [Cond.selects RX0 yX0_wishedOf yX0_wishedOf, Cond.code yX0_wishedOf cX0_wishedOf 3 (some .int), Cond.fieldLink RX0 35 "BreakLines$Piece" "wishedAhead" "[I", Cond.methodLink RX1 51 yX1_fillForAnyCount, Cond.instanceMethod yX1_fillForAnyCount, Cond.selects RX1 yX1_fillForAnyCount yX1_fillForAnyCount, Cond.code yX1_fillForAnyCount cX1_fillForAnyCount 4 none, Cond.fieldLink RX1 81 "BreakLines$Piece" "perPage" "I", Cond.methodLink RX1 84 Lib.Math.min.name, Cond.static Lib.Math.min.name, Cond.initialized "java/lang/Math", Cond.code Lib.Math.min.name Lib.Math.min.code 2 (some .int), Cond.methodLink RX1 90 yX1_fillCell, Cond.instanceMethod yX1_fillCell, Cond.selects RX1 yX1_fillCell yX1_fillCell, Cond.code yX1_fillCell cX1_fillCell 14 none, Cond.constantLong RX1 64 (-1), Cond.constantLong RX1 62 (1024), Cond.fieldLink RX1 94 "BreakLines$Piece" "costs" "[I", Cond.constantLong RX1 98 (32), Cond.methodLink RX1 66 yX1_lineEnd, Cond.static yX1_lineEnd, Cond.code yX1_lineEnd cX1_lineEnd 1 (some .long), Cond.methodLink RX1 70 yX1_pageEnd]
def wsX1_run_r4 : List Cond := [Cond.static yX1_pageEnd, Cond.code yX1_pageEnd cX1_pageEnd 1 (some .long), Cond.methodLink RX1 100 yX1_offer, Cond.instanceMethod yX1_offer, Cond.selects RX1 yX1_offer yX1_offer, Cond.code yX1_offer cX1_offer 6 none, Cond.methodLink RX1 104 yX1_offerGoingOn, Cond.instanceMethod yX1_offerGoingOn, Cond.selects RX1 yX1_offerGoingOn yX1_offerGoingOn, Cond.code yX1_offerGoingOn cX1_offerGoingOn 9 none, Cond.methodLink RX1 54 yX1_fillForCount, Cond.instanceMethod yX1_fillForCount, Cond.selects RX1 yX1_fillForCount yX1_fillForCount, Cond.code yX1_fillForCount cX1_fillForCount 10 none]
def wsX1_run : List Cond := .code yX1_run cX1_run 1 none :: ((wsX1_run_r1 ++ (wsX1_run_r2 ++ (wsX1_run_r3 ++ wsX1_run_r4))) ++ wsX10 ++ wsX00)
def wsX1_hasFound : List Cond := .code yX1_hasFound cX1_hasFound 1 (some .boolean) :: ([.fieldLink RX1 32 "BreakLines$Search" "foundRank" "J", .constantLong RX1 30 (9223372036854775807)] ++ wsX10)
def wsX1_foundTotal : List Cond := .code yX1_foundTotal cX1_foundTotal 1 (some .long) :: ([.fieldLink RX1 32 "BreakLines$Search" "foundRank" "J", .constantLong RX1 62 (1024), .constantLong RX1 64 (-1), .methodLink RX1 58 yX1_hasFound, .instanceMethod yX1_hasFound, .selects RX1 yX1_hasFound yX1_hasFound, .initialized RX1, .code yX1_hasFound cX1_hasFound 1 (some .boolean), .constantLong RX1 30 (9223372036854775807)] ++ wsX10)
def wsX1_lineEndsAt : List Cond := .code yX1_lineEndsAt cX1_lineEndsAt 2 (some .boolean) :: ([.fieldLink RX1 36 "BreakLines$Search" "foundOrder" "J", .methodLink RX1 66 yX1_lineEnd, .static yX1_lineEnd, .initialized RX1, .code yX1_lineEnd cX1_lineEnd 1 (some .long)] ++ wsX10)
def wsX1_pageEndsAt : List Cond := .code yX1_pageEndsAt cX1_pageEndsAt 2 (some .boolean) :: ([.fieldLink RX1 36 "BreakLines$Search" "foundOrder" "J", .methodLink RX1 70 yX1_pageEnd, .static yX1_pageEnd, .initialized RX1, .code yX1_pageEnd cX1_pageEnd 1 (some .long)] ++ wsX10)
def wsX2_init : List Cond := .code yX2_init cX2_init 1 none :: ([.methodLink RX2 3 objectInit, .instanceMethod objectInit, .code objectInit ⟨#[0xb1]⟩ 1 none, .fieldLink RX2 9 "BreakLines$Setting" "exists" "Z", .fieldLink RX2 15 "BreakLines$Setting" "total" "J", .fieldLink RX2 19 "BreakLines$Setting" "lines" "I", .fieldLink RX2 23 "BreakLines$Setting" "pages" "I", .arrayClass .int, .fieldLink RX2 26 "BreakLines$Setting" "firstBar" "[I", .fieldLink RX2 30 "BreakLines$Setting" "firstLine" "[I", .fieldLink RX2 33 "BreakLines$Setting" "pageOfLine" "[I", .fieldLink RX2 36 "BreakLines$Setting" "lineOfBar" "[I"] ++ wsX20)
def wsX2_take_r1 : List Cond := [Cond.fieldLink RX2 9 "BreakLines$Setting" "exists" "Z", Cond.fieldLink RX2 15 "BreakLines$Setting" "total" "J", Cond.fieldLink RX2 19 "BreakLines$Setting" "lines" "I", Cond.fieldLink RX2 23 "BreakLines$Setting" "pages" "I", Cond.fieldLink RX2 36 "BreakLines$Setting" "lineOfBar" "[I", Cond.fieldLink RX2 33 "BreakLines$Setting" "pageOfLine" "[I", Cond.fieldLink RX2 26 "BreakLines$Setting" "firstBar" "[I", Cond.fieldLink RX2 30 "BreakLines$Setting" "firstLine" "[I", Cond.methodLink RX2 39 yX1_hasFound, Cond.instanceMethod yX1_hasFound, Cond.selects RX1 yX1_hasFound yX1_hasFound, Cond.initialized RX1, Cond.code yX1_hasFound cX1_hasFound 1 (some .boolean), Cond.fieldLink RX1 32 "BreakLines$Search" "foundRank" "J", Cond.constantLong RX1 30 (9223372036854775807), Cond.methodLink RX2 45 yX1_foundTotal, Cond.instanceMethod yX1_foundTotal, Cond.selects RX1 yX1_foundTotal yX1_foundTotal, Cond.code yX1_foundTotal cX1_foundTotal 1 (some .long), Cond.constantLong RX1 62 (1024), Cond.constantLong RX1 64 (-1), Cond.methodLink RX1 58 yX1_hasFound, Cond.methodLink RX2 49 yX1_lineEndsAt, Cond.instanceMethod yX1_lineEndsAt]
def wsX2_take_r2 : List Cond := [Cond.selects RX1 yX1_lineEndsAt yX1_lineEndsAt, Cond.code yX1_lineEndsAt cX1_lineEndsAt 2 (some .boolean), Cond.fieldLink RX1 36 "BreakLines$Search" "foundOrder" "J", Cond.methodLink RX1 66 yX1_lineEnd, Cond.static yX1_lineEnd, Cond.code yX1_lineEnd cX1_lineEnd 1 (some .long), Cond.methodLink RX2 53 yX1_pageEndsAt, Cond.instanceMethod yX1_pageEndsAt, Cond.selects RX1 yX1_pageEndsAt yX1_pageEndsAt, Cond.code yX1_pageEndsAt cX1_pageEndsAt 2 (some .boolean), Cond.methodLink RX1 70 yX1_pageEnd, Cond.static yX1_pageEnd, Cond.code yX1_pageEnd cX1_pageEnd 1 (some .long)]
def wsX2_take : List Cond := .code yX2_take cX2_take 4 none :: ((wsX2_take_r1 ++ wsX2_take_r2) ++ wsX20 ++ wsX10)
def wsX2_lastBar : List Cond := .code yX2_lastBar cX2_lastBar 2 (some .int) :: ([.fieldLink RX2 26 "BreakLines$Setting" "firstBar" "[I"] ++ wsX20)
def wsX2_linesOnPage : List Cond := .code yX2_linesOnPage cX2_linesOnPage 2 (some .int) :: ([.fieldLink RX2 30 "BreakLines$Setting" "firstLine" "[I"] ++ wsX20)
def wsX3_nearest : List Cond := .code yX3_nearest cX3_nearest 3 (some .int) :: ([.methodLink RX3 151 Lib.Math.min.name, .static Lib.Math.min.name, .initialized "java/lang/Math", .code Lib.Math.min.name Lib.Math.min.code 2 (some .int), .methodLink RX3 156 Lib.Math.max.name, .static Lib.Math.max.name, .code Lib.Math.max.name Lib.Math.max.code 2 (some .int)])
def wsX3_init_r1 : List Cond := [Cond.methodLink RX3 1 objectInit, Cond.instanceMethod objectInit, Cond.code objectInit ⟨#[0xb1]⟩ 1 none, Cond.classLink RX3 7 RX0, Cond.instantiable RX0 8, Cond.initialized RX0, Cond.fieldLink RX3 18 "BreakLines" "piece" "LBreakLines$Piece;", Cond.classLink RX3 22 RX1, Cond.instantiable RX1 7, Cond.initialized RX1, Cond.fieldLink RX3 27 "BreakLines" "search" "LBreakLines$Search;", Cond.classLink RX3 31 RX2, Cond.instantiable RX2 8, Cond.initialized RX2, Cond.fieldLink RX3 34 "BreakLines" "best" "LBreakLines$Setting;", Cond.fieldLink RX3 38 "BreakLines" "bestIsKnown" "Z", Cond.methodLink RX3 11 yX3_nearest, Cond.static yX3_nearest, Cond.initialized RX3, Cond.code yX3_nearest cX3_nearest 3 (some .int), Cond.methodLink RX3 151 Lib.Math.min.name, Cond.static Lib.Math.min.name, Cond.initialized "java/lang/Math", Cond.code Lib.Math.min.name Lib.Math.min.code 2 (some .int)]
def wsX3_init_r2 : List Cond := [Cond.methodLink RX3 156 Lib.Math.max.name, Cond.static Lib.Math.max.name, Cond.code Lib.Math.max.name Lib.Math.max.code 2 (some .int), Cond.methodLink RX3 15 yX0_init, Cond.instanceMethod yX0_init, Cond.code yX0_init cX0_init 3 none, Cond.methodLink RX0 3 objectInit, Cond.fieldLink RX0 9 "BreakLines$Piece" "bars" "I", Cond.fieldLink RX0 15 "BreakLines$Piece" "width" "I", Cond.fieldLink RX0 18 "BreakLines$Piece" "perPage" "I", Cond.fieldLink RX0 21 "BreakLines$Piece" "count" "I", Cond.arrayClass .int, Cond.fieldLink RX0 24 "BreakLines$Piece" "costs" "[I", Cond.constant RX0 28 (100000), Cond.fieldLink RX0 29 "BreakLines$Piece" "marked" "[I", Cond.fieldLink RX0 32 "BreakLines$Piece" "leastAhead" "[I", Cond.fieldLink RX0 35 "BreakLines$Piece" "wishedAhead" "[I", Cond.methodLink RX3 24 yX1_init, Cond.instanceMethod yX1_init, Cond.code yX1_init cX1_init 2 none, Cond.methodLink RX1 5 objectInit, Cond.fieldLink RX1 11 "BreakLines$Search" "piece" "LBreakLines$Piece;", Cond.arrayClass .long, Cond.fieldLink RX1 17 "BreakLines$Search" "linePrices" "[J"]
def wsX3_init_r3 : List Cond := [Cond.fieldLink RX1 21 "BreakLines$Search" "turnPrices" "[J", Cond.fieldLink RX1 24 "BreakLines$Search" "ranks" "[J", Cond.fieldLink RX1 27 "BreakLines$Search" "orders" "[J", Cond.constantLong RX1 30 (9223372036854775807), Cond.fieldLink RX1 32 "BreakLines$Search" "foundRank" "J", Cond.fieldLink RX1 36 "BreakLines$Search" "foundOrder" "J", Cond.methodLink RX3 33 yX2_init, Cond.instanceMethod yX2_init, Cond.code yX2_init cX2_init 1 none, Cond.methodLink RX2 3 objectInit, Cond.fieldLink RX2 9 "BreakLines$Setting" "exists" "Z", Cond.fieldLink RX2 15 "BreakLines$Setting" "total" "J", Cond.fieldLink RX2 19 "BreakLines$Setting" "lines" "I", Cond.fieldLink RX2 23 "BreakLines$Setting" "pages" "I", Cond.fieldLink RX2 26 "BreakLines$Setting" "firstBar" "[I", Cond.fieldLink RX2 30 "BreakLines$Setting" "firstLine" "[I", Cond.fieldLink RX2 33 "BreakLines$Setting" "pageOfLine" "[I", Cond.fieldLink RX2 36 "BreakLines$Setting" "lineOfBar" "[I"]
def wsX3_init : List Cond := .code yX3_init cX3_init 3 none :: ((wsX3_init_r1 ++ (wsX3_init_r2 ++ wsX3_init_r3)) ++ wsX00 ++ wsX30 ++ wsX10 ++ wsX20)
def wsX3_isWithin : List Cond := .code yX3_isWithin cX3_isWithin 3 (some .boolean) :: ([])
def wsX3_areWidths : List Cond := .code yX3_areWidths cX3_areWidths 2 (some .boolean) :: ([.methodLink RX3 62 yX3_isWithin, .static yX3_isWithin, .initialized RX3, .code yX3_isWithin cX3_isWithin 3 (some .boolean)])
def wsX3_bar : List Cond := .code yX3_bar cX3_bar 3 (some .int) :: ([.fieldLink RX3 18 "BreakLines" "piece" "LBreakLines$Piece;", .fieldLink RX3 46 "BreakLines$Piece" "bars" "I", .fieldLink RX3 38 "BreakLines" "bestIsKnown" "Z", .methodLink RX3 42 yX3_areWidths, .static yX3_areWidths, .initialized RX3, .code yX3_areWidths cX3_areWidths 2 (some .boolean), .methodLink RX3 62 yX3_isWithin, .static yX3_isWithin, .code yX3_isWithin cX3_isWithin 3 (some .boolean), .methodLink RX3 50 yX0_addBar, .instanceMethod yX0_addBar, .selects RX0 yX0_addBar yX0_addBar, .initialized RX0, .code yX0_addBar cX0_addBar 4 (some .int), .fieldLink RX0 9 "BreakLines$Piece" "bars" "I", .fieldLink RX0 32 "BreakLines$Piece" "leastAhead" "[I", .fieldLink RX0 35 "BreakLines$Piece" "wishedAhead" "[I"] ++ wsX30 ++ wsX00)
def wsX3_change_r1 : List Cond := [Cond.fieldLink RX3 18 "BreakLines" "piece" "LBreakLines$Piece;", Cond.fieldLink RX3 38 "BreakLines" "bestIsKnown" "Z", Cond.methodLink RX3 54 yX0_hasBar, Cond.instanceMethod yX0_hasBar, Cond.selects RX0 yX0_hasBar yX0_hasBar, Cond.initialized RX0, Cond.code yX0_hasBar cX0_hasBar 2 (some .boolean), Cond.fieldLink RX0 9 "BreakLines$Piece" "bars" "I", Cond.methodLink RX3 42 yX3_areWidths, Cond.static yX3_areWidths, Cond.initialized RX3, Cond.code yX3_areWidths cX3_areWidths 2 (some .boolean), Cond.methodLink RX3 62 yX3_isWithin, Cond.static yX3_isWithin, Cond.code yX3_isWithin cX3_isWithin 3 (some .boolean), Cond.methodLink RX3 58 yX0_putWidths, Cond.instanceMethod yX0_putWidths, Cond.selects RX0 yX0_putWidths yX0_putWidths, Cond.code yX0_putWidths cX0_putWidths 7 none, Cond.fieldLink RX0 32 "BreakLines$Piece" "leastAhead" "[I", Cond.fieldLink RX0 35 "BreakLines$Piece" "wishedAhead" "[I", Cond.methodLink RX0 38 yX0_leastOf, Cond.instanceMethod yX0_leastOf, Cond.selects RX0 yX0_leastOf yX0_leastOf]
def wsX3_change_r2 : List Cond := [Cond.code yX0_leastOf cX0_leastOf 3 (some .int), Cond.methodLink RX0 42 yX0_wishedOf, Cond.instanceMethod yX0_wishedOf, Cond.selects RX0 yX0_wishedOf yX0_wishedOf, Cond.code yX0_wishedOf cX0_wishedOf 3 (some .int)]
def wsX3_change : List Cond := .code yX3_change cX3_change 4 (some .int) :: ((wsX3_change_r1 ++ wsX3_change_r2) ++ wsX30 ++ wsX00)
def wsX3_mark : List Cond := .code yX3_mark cX3_mark 5 (some .int) :: ([.fieldLink RX3 18 "BreakLines" "piece" "LBreakLines$Piece;", .fieldLink RX3 38 "BreakLines" "bestIsKnown" "Z", .methodLink RX3 54 yX0_hasBar, .instanceMethod yX0_hasBar, .selects RX0 yX0_hasBar yX0_hasBar, .initialized RX0, .code yX0_hasBar cX0_hasBar 2 (some .boolean), .fieldLink RX0 9 "BreakLines$Piece" "bars" "I", .methodLink RX3 62 yX3_isWithin, .static yX3_isWithin, .initialized RX3, .code yX3_isWithin cX3_isWithin 3 (some .boolean), .methodLink RX3 66 yX0_isMarked, .instanceMethod yX0_isMarked, .selects RX0 yX0_isMarked yX0_isMarked, .code yX0_isMarked cX0_isMarked 3 (some .boolean), .fieldLink RX0 29 "BreakLines$Piece" "marked" "[I", .methodLink RX3 69 yX0_putMark, .instanceMethod yX0_putMark, .selects RX0 yX0_putMark yX0_putMark, .code yX0_putMark cX0_putMark 5 none] ++ wsX30 ++ wsX00)
def wsX3_cost : List Cond := .code yX3_cost cX3_cost 4 (some .int) :: ([.constant RX3 73 (1000000), .fieldLink RX3 38 "BreakLines" "bestIsKnown" "Z", .fieldLink RX3 18 "BreakLines" "piece" "LBreakLines$Piece;", .fieldLink RX3 74 "BreakLines$Piece" "costs" "[I", .methodLink RX3 62 yX3_isWithin, .static yX3_isWithin, .initialized RX3, .code yX3_isWithin cX3_isWithin 3 (some .boolean)] ++ wsX30 ++ wsX00)
def wsX3_count : List Cond := .code yX3_count cX3_count 3 (some .int) :: ([.fieldLink RX3 38 "BreakLines" "bestIsKnown" "Z", .fieldLink RX3 18 "BreakLines" "piece" "LBreakLines$Piece;", .fieldLink RX3 78 "BreakLines$Piece" "count" "I", .methodLink RX3 62 yX3_isWithin, .static yX3_isWithin, .initialized RX3, .code yX3_isWithin cX3_isWithin 3 (some .boolean)] ++ wsX30 ++ wsX00)
def wsX3_size : List Cond := .code yX3_size cX3_size 4 (some .int) :: ([.fieldLink RX3 38 "BreakLines" "bestIsKnown" "Z", .fieldLink RX3 18 "BreakLines" "piece" "LBreakLines$Piece;", .fieldLink RX3 81 "BreakLines$Piece" "width" "I", .fieldLink RX3 84 "BreakLines$Piece" "perPage" "I", .methodLink RX3 62 yX3_isWithin, .static yX3_isWithin, .initialized RX3, .code yX3_isWithin cX3_isWithin 3 (some .boolean)] ++ wsX30 ++ wsX00)
def wsX3_bars : List Cond := .code yX3_bars cX3_bars 1 (some .int) :: ([.fieldLink RX3 18 "BreakLines" "piece" "LBreakLines$Piece;", .fieldLink RX3 46 "BreakLines$Piece" "bars" "I"] ++ wsX30 ++ wsX00)
def wsX3_findBest_r1 : List Cond := [Cond.fieldLink RX3 38 "BreakLines" "bestIsKnown" "Z", Cond.fieldLink RX3 27 "BreakLines" "search" "LBreakLines$Search;", Cond.fieldLink RX3 34 "BreakLines" "best" "LBreakLines$Setting;", Cond.fieldLink RX3 18 "BreakLines" "piece" "LBreakLines$Piece;", Cond.fieldLink RX3 46 "BreakLines$Piece" "bars" "I", Cond.methodLink RX3 137 yX1_run, Cond.instanceMethod yX1_run, Cond.selects RX1 yX1_run yX1_run, Cond.initialized RX1, Cond.code yX1_run cX1_run 1 none, Cond.fieldLink RX1 36 "BreakLines$Search" "foundOrder" "J", Cond.fieldLink RX1 11 "BreakLines$Search" "piece" "LBreakLines$Piece;", Cond.fieldLink RX1 39 "BreakLines$Piece" "bars" "I", Cond.fieldLink RX1 45 "BreakLines$Piece" "count" "I", Cond.constantLong RX1 30 (9223372036854775807), Cond.fieldLink RX1 32 "BreakLines$Search" "foundRank" "J", Cond.fieldLink RX1 24 "BreakLines$Search" "ranks" "[J", Cond.fieldLink RX1 27 "BreakLines$Search" "orders" "[J", Cond.methodLink RX1 48 yX1_priceLinesAndTurns, Cond.instanceMethod yX1_priceLinesAndTurns, Cond.selects RX1 yX1_priceLinesAndTurns yX1_priceLinesAndTurns, Cond.code yX1_priceLinesAndTurns cX1_priceLinesAndTurns 3 none, Cond.fieldLink RX1 21 "BreakLines$Search" "turnPrices" "[J", Cond.fieldLink RX1 17 "BreakLines$Search" "linePrices" "[J"]
def wsX3_findBest_r2 : List Cond := [Cond.methodLink RX1 73 yX0_turnPrice, Cond.instanceMethod yX0_turnPrice, Cond.selects RX0 yX0_turnPrice yX0_turnPrice, Cond.initialized RX0, Cond.code yX0_turnPrice cX0_turnPrice 2 (some .int), Cond.fieldLink RX0 24 "BreakLines$Piece" "costs" "[I", Cond.methodLink RX0 45 yX0_isMarked, Cond.instanceMethod yX0_isMarked, Cond.selects RX0 yX0_isMarked yX0_isMarked, Cond.code yX0_isMarked cX0_isMarked 3 (some .boolean), Cond.fieldLink RX0 29 "BreakLines$Piece" "marked" "[I", Cond.methodLink RX1 77 yX0_linePrice, Cond.instanceMethod yX0_linePrice, Cond.selects RX0 yX0_linePrice yX0_linePrice, Cond.code yX0_linePrice cX0_linePrice 5 (some .long), Cond.constantLong RX0 55 (-1), Cond.fieldLink RX0 9 "BreakLines$Piece" "bars" "I", Cond.methodLink RX0 52 yX0_mayBe, Cond.instanceMethod yX0_mayBe, Cond.selects RX0 yX0_mayBe yX0_mayBe, Cond.code yX0_mayBe cX0_mayBe 4 (some .boolean), Cond.methodLink RX0 49 yX0_isOver, Cond.instanceMethod yX0_isOver, Cond.selects RX0 yX0_isOver yX0_isOver]
def wsX3_findBest_r3 : List Cond := [Cond.code yX0_isOver cX0_isOver 3 (some .boolean), Cond.fieldLink RX0 32 "BreakLines$Piece" "leastAhead" "[I", Cond.fieldLink RX0 15 "BreakLines$Piece" "width" "I", Cond.methodLink RX0 57 yX0_spare, Cond.instanceMethod yX0_spare, Cond.selects RX0 yX0_spare yX0_spare, Cond.code yX0_spare cX0_spare 3 (some .int), Cond.methodLink RX0 42 yX0_wishedOf, Cond.instanceMethod yX0_wishedOf, Cond.selects RX0 yX0_wishedOf yX0_wishedOf, Cond.code yX0_wishedOf cX0_wishedOf 3 (some .int), Cond.fieldLink RX0 35 "BreakLines$Piece" "wishedAhead" "[I", Cond.methodLink RX1 51 yX1_fillForAnyCount, Cond.instanceMethod yX1_fillForAnyCount, Cond.selects RX1 yX1_fillForAnyCount yX1_fillForAnyCount, Cond.code yX1_fillForAnyCount cX1_fillForAnyCount 4 none, Cond.fieldLink RX1 81 "BreakLines$Piece" "perPage" "I", Cond.methodLink RX1 84 Lib.Math.min.name, Cond.static Lib.Math.min.name, Cond.initialized "java/lang/Math", Cond.code Lib.Math.min.name Lib.Math.min.code 2 (some .int), Cond.methodLink RX1 90 yX1_fillCell, Cond.instanceMethod yX1_fillCell, Cond.selects RX1 yX1_fillCell yX1_fillCell]
def wsX3_findBest_r4 : List Cond := [Cond.code yX1_fillCell cX1_fillCell 14 none, Cond.constantLong RX1 64 (-1), Cond.constantLong RX1 62 (1024), Cond.fieldLink RX1 94 "BreakLines$Piece" "costs" "[I", Cond.constantLong RX1 98 (32), Cond.methodLink RX1 66 yX1_lineEnd, Cond.static yX1_lineEnd, Cond.code yX1_lineEnd cX1_lineEnd 1 (some .long), Cond.methodLink RX1 70 yX1_pageEnd, Cond.static yX1_pageEnd, Cond.code yX1_pageEnd cX1_pageEnd 1 (some .long), Cond.methodLink RX1 100 yX1_offer, Cond.instanceMethod yX1_offer, Cond.selects RX1 yX1_offer yX1_offer, Cond.code yX1_offer cX1_offer 6 none, Cond.methodLink RX1 104 yX1_offerGoingOn, Cond.instanceMethod yX1_offerGoingOn, Cond.selects RX1 yX1_offerGoingOn yX1_offerGoingOn, Cond.code yX1_offerGoingOn cX1_offerGoingOn 9 none, Cond.methodLink RX1 54 yX1_fillForCount, Cond.instanceMethod yX1_fillForCount, Cond.selects RX1 yX1_fillForCount yX1_fillForCount, Cond.code yX1_fillForCount cX1_fillForCount 10 none, Cond.methodLink RX3 144 yX2_take]
def wsX3_findBest_r5 : List Cond := [Cond.instanceMethod yX2_take, Cond.selects RX2 yX2_take yX2_take, Cond.initialized RX2, Cond.code yX2_take cX2_take 4 none, Cond.fieldLink RX2 9 "BreakLines$Setting" "exists" "Z", Cond.fieldLink RX2 15 "BreakLines$Setting" "total" "J", Cond.fieldLink RX2 19 "BreakLines$Setting" "lines" "I", Cond.fieldLink RX2 23 "BreakLines$Setting" "pages" "I", Cond.fieldLink RX2 36 "BreakLines$Setting" "lineOfBar" "[I", Cond.fieldLink RX2 33 "BreakLines$Setting" "pageOfLine" "[I", Cond.fieldLink RX2 26 "BreakLines$Setting" "firstBar" "[I", Cond.fieldLink RX2 30 "BreakLines$Setting" "firstLine" "[I", Cond.methodLink RX2 39 yX1_hasFound, Cond.instanceMethod yX1_hasFound, Cond.selects RX1 yX1_hasFound yX1_hasFound, Cond.code yX1_hasFound cX1_hasFound 1 (some .boolean), Cond.methodLink RX2 45 yX1_foundTotal, Cond.instanceMethod yX1_foundTotal, Cond.selects RX1 yX1_foundTotal yX1_foundTotal, Cond.code yX1_foundTotal cX1_foundTotal 1 (some .long), Cond.methodLink RX1 58 yX1_hasFound, Cond.methodLink RX2 49 yX1_lineEndsAt, Cond.instanceMethod yX1_lineEndsAt, Cond.selects RX1 yX1_lineEndsAt yX1_lineEndsAt]
def wsX3_findBest_r6 : List Cond := [Cond.code yX1_lineEndsAt cX1_lineEndsAt 2 (some .boolean), Cond.methodLink RX2 53 yX1_pageEndsAt, Cond.instanceMethod yX1_pageEndsAt, Cond.selects RX1 yX1_pageEndsAt yX1_pageEndsAt, Cond.code yX1_pageEndsAt cX1_pageEndsAt 2 (some .boolean)]
def wsX3_findBest : List Cond := .code yX3_findBest cX3_findBest 1 none :: ((wsX3_findBest_r1 ++ (wsX3_findBest_r2 ++ (wsX3_findBest_r3 ++ (wsX3_findBest_r4 ++ (wsX3_findBest_r5 ++ wsX3_findBest_r6))))) ++ wsX30 ++ wsX00 ++ wsX10 ++ wsX20)
def wsX3_lines_r1 : List Cond := [Cond.fieldLink RX3 34 "BreakLines" "best" "LBreakLines$Setting;", Cond.fieldLink RX3 90 "BreakLines$Setting" "exists" "Z", Cond.fieldLink RX3 93 "BreakLines$Setting" "lines" "I", Cond.methodLink RX3 87 yX3_findBest, Cond.instanceMethod yX3_findBest, Cond.selects RX3 yX3_findBest yX3_findBest, Cond.initialized RX3, Cond.code yX3_findBest cX3_findBest 1 none, Cond.fieldLink RX3 38 "BreakLines" "bestIsKnown" "Z", Cond.fieldLink RX3 27 "BreakLines" "search" "LBreakLines$Search;", Cond.fieldLink RX3 18 "BreakLines" "piece" "LBreakLines$Piece;", Cond.fieldLink RX3 46 "BreakLines$Piece" "bars" "I", Cond.methodLink RX3 137 yX1_run, Cond.instanceMethod yX1_run, Cond.selects RX1 yX1_run yX1_run, Cond.initialized RX1, Cond.code yX1_run cX1_run 1 none, Cond.fieldLink RX1 36 "BreakLines$Search" "foundOrder" "J", Cond.fieldLink RX1 11 "BreakLines$Search" "piece" "LBreakLines$Piece;", Cond.fieldLink RX1 39 "BreakLines$Piece" "bars" "I", Cond.fieldLink RX1 45 "BreakLines$Piece" "count" "I", Cond.constantLong RX1 30 (9223372036854775807), Cond.fieldLink RX1 32 "BreakLines$Search" "foundRank" "J", Cond.fieldLink RX1 24 "BreakLines$Search" "ranks" "[J"]
def wsX3_lines_r2 : List Cond := [Cond.fieldLink RX1 27 "BreakLines$Search" "orders" "[J", Cond.methodLink RX1 48 yX1_priceLinesAndTurns, Cond.instanceMethod yX1_priceLinesAndTurns, Cond.selects RX1 yX1_priceLinesAndTurns yX1_priceLinesAndTurns, Cond.code yX1_priceLinesAndTurns cX1_priceLinesAndTurns 3 none, Cond.fieldLink RX1 21 "BreakLines$Search" "turnPrices" "[J", Cond.fieldLink RX1 17 "BreakLines$Search" "linePrices" "[J", Cond.methodLink RX1 73 yX0_turnPrice, Cond.instanceMethod yX0_turnPrice, Cond.selects RX0 yX0_turnPrice yX0_turnPrice, Cond.initialized RX0, Cond.code yX0_turnPrice cX0_turnPrice 2 (some .int), Cond.fieldLink RX0 24 "BreakLines$Piece" "costs" "[I", Cond.methodLink RX0 45 yX0_isMarked, Cond.instanceMethod yX0_isMarked, Cond.selects RX0 yX0_isMarked yX0_isMarked, Cond.code yX0_isMarked cX0_isMarked 3 (some .boolean), Cond.fieldLink RX0 29 "BreakLines$Piece" "marked" "[I", Cond.methodLink RX1 77 yX0_linePrice, Cond.instanceMethod yX0_linePrice, Cond.selects RX0 yX0_linePrice yX0_linePrice, Cond.code yX0_linePrice cX0_linePrice 5 (some .long), Cond.constantLong RX0 55 (-1), Cond.fieldLink RX0 9 "BreakLines$Piece" "bars" "I"]
def wsX3_lines_r3 : List Cond := [Cond.methodLink RX0 52 yX0_mayBe, Cond.instanceMethod yX0_mayBe, Cond.selects RX0 yX0_mayBe yX0_mayBe, Cond.code yX0_mayBe cX0_mayBe 4 (some .boolean), Cond.methodLink RX0 49 yX0_isOver, Cond.instanceMethod yX0_isOver, Cond.selects RX0 yX0_isOver yX0_isOver, Cond.code yX0_isOver cX0_isOver 3 (some .boolean), Cond.fieldLink RX0 32 "BreakLines$Piece" "leastAhead" "[I", Cond.fieldLink RX0 15 "BreakLines$Piece" "width" "I", Cond.methodLink RX0 57 yX0_spare, Cond.instanceMethod yX0_spare, Cond.selects RX0 yX0_spare yX0_spare, Cond.code yX0_spare cX0_spare 3 (some .int), Cond.methodLink RX0 42 yX0_wishedOf, Cond.instanceMethod yX0_wishedOf, Cond.selects RX0 yX0_wishedOf yX0_wishedOf, Cond.code yX0_wishedOf cX0_wishedOf 3 (some .int), Cond.fieldLink RX0 35 "BreakLines$Piece" "wishedAhead" "[I", Cond.methodLink RX1 51 yX1_fillForAnyCount, Cond.instanceMethod yX1_fillForAnyCount, Cond.selects RX1 yX1_fillForAnyCount yX1_fillForAnyCount, Cond.code yX1_fillForAnyCount cX1_fillForAnyCount 4 none, Cond.fieldLink RX1 81 "BreakLines$Piece" "perPage" "I"]
def wsX3_lines_r4 : List Cond := [Cond.methodLink RX1 84 Lib.Math.min.name, Cond.static Lib.Math.min.name, Cond.initialized "java/lang/Math", Cond.code Lib.Math.min.name Lib.Math.min.code 2 (some .int), Cond.methodLink RX1 90 yX1_fillCell, Cond.instanceMethod yX1_fillCell, Cond.selects RX1 yX1_fillCell yX1_fillCell, Cond.code yX1_fillCell cX1_fillCell 14 none, Cond.constantLong RX1 64 (-1), Cond.constantLong RX1 62 (1024), Cond.fieldLink RX1 94 "BreakLines$Piece" "costs" "[I", Cond.constantLong RX1 98 (32), Cond.methodLink RX1 66 yX1_lineEnd, Cond.static yX1_lineEnd, Cond.code yX1_lineEnd cX1_lineEnd 1 (some .long), Cond.methodLink RX1 70 yX1_pageEnd, Cond.static yX1_pageEnd, Cond.code yX1_pageEnd cX1_pageEnd 1 (some .long), Cond.methodLink RX1 100 yX1_offer, Cond.instanceMethod yX1_offer, Cond.selects RX1 yX1_offer yX1_offer, Cond.code yX1_offer cX1_offer 6 none, Cond.methodLink RX1 104 yX1_offerGoingOn, Cond.instanceMethod yX1_offerGoingOn]
def wsX3_lines_r5 : List Cond := [Cond.selects RX1 yX1_offerGoingOn yX1_offerGoingOn, Cond.code yX1_offerGoingOn cX1_offerGoingOn 9 none, Cond.methodLink RX1 54 yX1_fillForCount, Cond.instanceMethod yX1_fillForCount, Cond.selects RX1 yX1_fillForCount yX1_fillForCount, Cond.code yX1_fillForCount cX1_fillForCount 10 none, Cond.methodLink RX3 144 yX2_take, Cond.instanceMethod yX2_take, Cond.selects RX2 yX2_take yX2_take, Cond.initialized RX2, Cond.code yX2_take cX2_take 4 none, Cond.fieldLink RX2 9 "BreakLines$Setting" "exists" "Z", Cond.fieldLink RX2 15 "BreakLines$Setting" "total" "J", Cond.fieldLink RX2 19 "BreakLines$Setting" "lines" "I", Cond.fieldLink RX2 23 "BreakLines$Setting" "pages" "I", Cond.fieldLink RX2 36 "BreakLines$Setting" "lineOfBar" "[I", Cond.fieldLink RX2 33 "BreakLines$Setting" "pageOfLine" "[I", Cond.fieldLink RX2 26 "BreakLines$Setting" "firstBar" "[I", Cond.fieldLink RX2 30 "BreakLines$Setting" "firstLine" "[I", Cond.methodLink RX2 39 yX1_hasFound, Cond.instanceMethod yX1_hasFound, Cond.selects RX1 yX1_hasFound yX1_hasFound, Cond.code yX1_hasFound cX1_hasFound 1 (some .boolean), Cond.methodLink RX2 45 yX1_foundTotal]
def wsX3_lines_r6 : List Cond := [Cond.instanceMethod yX1_foundTotal, Cond.selects RX1 yX1_foundTotal yX1_foundTotal, Cond.code yX1_foundTotal cX1_foundTotal 1 (some .long), Cond.methodLink RX1 58 yX1_hasFound, Cond.methodLink RX2 49 yX1_lineEndsAt, Cond.instanceMethod yX1_lineEndsAt, Cond.selects RX1 yX1_lineEndsAt yX1_lineEndsAt, Cond.code yX1_lineEndsAt cX1_lineEndsAt 2 (some .boolean), Cond.methodLink RX2 53 yX1_pageEndsAt, Cond.instanceMethod yX1_pageEndsAt, Cond.selects RX1 yX1_pageEndsAt yX1_pageEndsAt, Cond.code yX1_pageEndsAt cX1_pageEndsAt 2 (some .boolean)]
def wsX3_lines : List Cond := .code yX3_lines cX3_lines 1 (some .int) :: ((wsX3_lines_r1 ++ (wsX3_lines_r2 ++ (wsX3_lines_r3 ++ (wsX3_lines_r4 ++ (wsX3_lines_r5 ++ wsX3_lines_r6))))) ++ wsX30 ++ wsX20 ++ wsX00 ++ wsX10)
def wsX3_pages_r1 : List Cond := [Cond.fieldLink RX3 34 "BreakLines" "best" "LBreakLines$Setting;", Cond.fieldLink RX3 90 "BreakLines$Setting" "exists" "Z", Cond.fieldLink RX3 96 "BreakLines$Setting" "pages" "I", Cond.methodLink RX3 87 yX3_findBest, Cond.instanceMethod yX3_findBest, Cond.selects RX3 yX3_findBest yX3_findBest, Cond.initialized RX3, Cond.code yX3_findBest cX3_findBest 1 none, Cond.fieldLink RX3 38 "BreakLines" "bestIsKnown" "Z", Cond.fieldLink RX3 27 "BreakLines" "search" "LBreakLines$Search;", Cond.fieldLink RX3 18 "BreakLines" "piece" "LBreakLines$Piece;", Cond.fieldLink RX3 46 "BreakLines$Piece" "bars" "I", Cond.methodLink RX3 137 yX1_run, Cond.instanceMethod yX1_run, Cond.selects RX1 yX1_run yX1_run, Cond.initialized RX1, Cond.code yX1_run cX1_run 1 none, Cond.fieldLink RX1 36 "BreakLines$Search" "foundOrder" "J", Cond.fieldLink RX1 11 "BreakLines$Search" "piece" "LBreakLines$Piece;", Cond.fieldLink RX1 39 "BreakLines$Piece" "bars" "I", Cond.fieldLink RX1 45 "BreakLines$Piece" "count" "I", Cond.constantLong RX1 30 (9223372036854775807), Cond.fieldLink RX1 32 "BreakLines$Search" "foundRank" "J", Cond.fieldLink RX1 24 "BreakLines$Search" "ranks" "[J"]
def wsX3_pages_r2 : List Cond := [Cond.fieldLink RX1 27 "BreakLines$Search" "orders" "[J", Cond.methodLink RX1 48 yX1_priceLinesAndTurns, Cond.instanceMethod yX1_priceLinesAndTurns, Cond.selects RX1 yX1_priceLinesAndTurns yX1_priceLinesAndTurns, Cond.code yX1_priceLinesAndTurns cX1_priceLinesAndTurns 3 none, Cond.fieldLink RX1 21 "BreakLines$Search" "turnPrices" "[J", Cond.fieldLink RX1 17 "BreakLines$Search" "linePrices" "[J", Cond.methodLink RX1 73 yX0_turnPrice, Cond.instanceMethod yX0_turnPrice, Cond.selects RX0 yX0_turnPrice yX0_turnPrice, Cond.initialized RX0, Cond.code yX0_turnPrice cX0_turnPrice 2 (some .int), Cond.fieldLink RX0 24 "BreakLines$Piece" "costs" "[I", Cond.methodLink RX0 45 yX0_isMarked, Cond.instanceMethod yX0_isMarked, Cond.selects RX0 yX0_isMarked yX0_isMarked, Cond.code yX0_isMarked cX0_isMarked 3 (some .boolean), Cond.fieldLink RX0 29 "BreakLines$Piece" "marked" "[I", Cond.methodLink RX1 77 yX0_linePrice, Cond.instanceMethod yX0_linePrice, Cond.selects RX0 yX0_linePrice yX0_linePrice, Cond.code yX0_linePrice cX0_linePrice 5 (some .long), Cond.constantLong RX0 55 (-1), Cond.fieldLink RX0 9 "BreakLines$Piece" "bars" "I"]
def wsX3_pages_r3 : List Cond := [Cond.methodLink RX0 52 yX0_mayBe, Cond.instanceMethod yX0_mayBe, Cond.selects RX0 yX0_mayBe yX0_mayBe, Cond.code yX0_mayBe cX0_mayBe 4 (some .boolean), Cond.methodLink RX0 49 yX0_isOver, Cond.instanceMethod yX0_isOver, Cond.selects RX0 yX0_isOver yX0_isOver, Cond.code yX0_isOver cX0_isOver 3 (some .boolean), Cond.fieldLink RX0 32 "BreakLines$Piece" "leastAhead" "[I", Cond.fieldLink RX0 15 "BreakLines$Piece" "width" "I", Cond.methodLink RX0 57 yX0_spare, Cond.instanceMethod yX0_spare, Cond.selects RX0 yX0_spare yX0_spare, Cond.code yX0_spare cX0_spare 3 (some .int), Cond.methodLink RX0 42 yX0_wishedOf, Cond.instanceMethod yX0_wishedOf, Cond.selects RX0 yX0_wishedOf yX0_wishedOf, Cond.code yX0_wishedOf cX0_wishedOf 3 (some .int), Cond.fieldLink RX0 35 "BreakLines$Piece" "wishedAhead" "[I", Cond.methodLink RX1 51 yX1_fillForAnyCount, Cond.instanceMethod yX1_fillForAnyCount, Cond.selects RX1 yX1_fillForAnyCount yX1_fillForAnyCount, Cond.code yX1_fillForAnyCount cX1_fillForAnyCount 4 none, Cond.fieldLink RX1 81 "BreakLines$Piece" "perPage" "I"]
def wsX3_pages_r4 : List Cond := [Cond.methodLink RX1 84 Lib.Math.min.name, Cond.static Lib.Math.min.name, Cond.initialized "java/lang/Math", Cond.code Lib.Math.min.name Lib.Math.min.code 2 (some .int), Cond.methodLink RX1 90 yX1_fillCell, Cond.instanceMethod yX1_fillCell, Cond.selects RX1 yX1_fillCell yX1_fillCell, Cond.code yX1_fillCell cX1_fillCell 14 none, Cond.constantLong RX1 64 (-1), Cond.constantLong RX1 62 (1024), Cond.fieldLink RX1 94 "BreakLines$Piece" "costs" "[I", Cond.constantLong RX1 98 (32), Cond.methodLink RX1 66 yX1_lineEnd, Cond.static yX1_lineEnd, Cond.code yX1_lineEnd cX1_lineEnd 1 (some .long), Cond.methodLink RX1 70 yX1_pageEnd, Cond.static yX1_pageEnd, Cond.code yX1_pageEnd cX1_pageEnd 1 (some .long), Cond.methodLink RX1 100 yX1_offer, Cond.instanceMethod yX1_offer, Cond.selects RX1 yX1_offer yX1_offer, Cond.code yX1_offer cX1_offer 6 none, Cond.methodLink RX1 104 yX1_offerGoingOn, Cond.instanceMethod yX1_offerGoingOn]
def wsX3_pages_r5 : List Cond := [Cond.selects RX1 yX1_offerGoingOn yX1_offerGoingOn, Cond.code yX1_offerGoingOn cX1_offerGoingOn 9 none, Cond.methodLink RX1 54 yX1_fillForCount, Cond.instanceMethod yX1_fillForCount, Cond.selects RX1 yX1_fillForCount yX1_fillForCount, Cond.code yX1_fillForCount cX1_fillForCount 10 none, Cond.methodLink RX3 144 yX2_take, Cond.instanceMethod yX2_take, Cond.selects RX2 yX2_take yX2_take, Cond.initialized RX2, Cond.code yX2_take cX2_take 4 none, Cond.fieldLink RX2 9 "BreakLines$Setting" "exists" "Z", Cond.fieldLink RX2 15 "BreakLines$Setting" "total" "J", Cond.fieldLink RX2 19 "BreakLines$Setting" "lines" "I", Cond.fieldLink RX2 23 "BreakLines$Setting" "pages" "I", Cond.fieldLink RX2 36 "BreakLines$Setting" "lineOfBar" "[I", Cond.fieldLink RX2 33 "BreakLines$Setting" "pageOfLine" "[I", Cond.fieldLink RX2 26 "BreakLines$Setting" "firstBar" "[I", Cond.fieldLink RX2 30 "BreakLines$Setting" "firstLine" "[I", Cond.methodLink RX2 39 yX1_hasFound, Cond.instanceMethod yX1_hasFound, Cond.selects RX1 yX1_hasFound yX1_hasFound, Cond.code yX1_hasFound cX1_hasFound 1 (some .boolean), Cond.methodLink RX2 45 yX1_foundTotal]
def wsX3_pages_r6 : List Cond := [Cond.instanceMethod yX1_foundTotal, Cond.selects RX1 yX1_foundTotal yX1_foundTotal, Cond.code yX1_foundTotal cX1_foundTotal 1 (some .long), Cond.methodLink RX1 58 yX1_hasFound, Cond.methodLink RX2 49 yX1_lineEndsAt, Cond.instanceMethod yX1_lineEndsAt, Cond.selects RX1 yX1_lineEndsAt yX1_lineEndsAt, Cond.code yX1_lineEndsAt cX1_lineEndsAt 2 (some .boolean), Cond.methodLink RX2 53 yX1_pageEndsAt, Cond.instanceMethod yX1_pageEndsAt, Cond.selects RX1 yX1_pageEndsAt yX1_pageEndsAt, Cond.code yX1_pageEndsAt cX1_pageEndsAt 2 (some .boolean)]
def wsX3_pages : List Cond := .code yX3_pages cX3_pages 1 (some .int) :: ((wsX3_pages_r1 ++ (wsX3_pages_r2 ++ (wsX3_pages_r3 ++ (wsX3_pages_r4 ++ (wsX3_pages_r5 ++ wsX3_pages_r6))))) ++ wsX30 ++ wsX20 ++ wsX00 ++ wsX10)
def wsX3_sum_r1 : List Cond := [Cond.fieldLink RX3 34 "BreakLines" "best" "LBreakLines$Setting;", Cond.fieldLink RX3 90 "BreakLines$Setting" "exists" "Z", Cond.fieldLink RX3 99 "BreakLines$Setting" "total" "J", Cond.constantLong RX3 103 (-1), Cond.methodLink RX3 87 yX3_findBest, Cond.instanceMethod yX3_findBest, Cond.selects RX3 yX3_findBest yX3_findBest, Cond.initialized RX3, Cond.code yX3_findBest cX3_findBest 1 none, Cond.fieldLink RX3 38 "BreakLines" "bestIsKnown" "Z", Cond.fieldLink RX3 27 "BreakLines" "search" "LBreakLines$Search;", Cond.fieldLink RX3 18 "BreakLines" "piece" "LBreakLines$Piece;", Cond.fieldLink RX3 46 "BreakLines$Piece" "bars" "I", Cond.methodLink RX3 137 yX1_run, Cond.instanceMethod yX1_run, Cond.selects RX1 yX1_run yX1_run, Cond.initialized RX1, Cond.code yX1_run cX1_run 1 none, Cond.fieldLink RX1 36 "BreakLines$Search" "foundOrder" "J", Cond.fieldLink RX1 11 "BreakLines$Search" "piece" "LBreakLines$Piece;", Cond.fieldLink RX1 39 "BreakLines$Piece" "bars" "I", Cond.fieldLink RX1 45 "BreakLines$Piece" "count" "I", Cond.constantLong RX1 30 (9223372036854775807), Cond.fieldLink RX1 32 "BreakLines$Search" "foundRank" "J"]
def wsX3_sum_r2 : List Cond := [Cond.fieldLink RX1 24 "BreakLines$Search" "ranks" "[J", Cond.fieldLink RX1 27 "BreakLines$Search" "orders" "[J", Cond.methodLink RX1 48 yX1_priceLinesAndTurns, Cond.instanceMethod yX1_priceLinesAndTurns, Cond.selects RX1 yX1_priceLinesAndTurns yX1_priceLinesAndTurns, Cond.code yX1_priceLinesAndTurns cX1_priceLinesAndTurns 3 none, Cond.fieldLink RX1 21 "BreakLines$Search" "turnPrices" "[J", Cond.fieldLink RX1 17 "BreakLines$Search" "linePrices" "[J", Cond.methodLink RX1 73 yX0_turnPrice, Cond.instanceMethod yX0_turnPrice, Cond.selects RX0 yX0_turnPrice yX0_turnPrice, Cond.initialized RX0, Cond.code yX0_turnPrice cX0_turnPrice 2 (some .int), Cond.fieldLink RX0 24 "BreakLines$Piece" "costs" "[I", Cond.methodLink RX0 45 yX0_isMarked, Cond.instanceMethod yX0_isMarked, Cond.selects RX0 yX0_isMarked yX0_isMarked, Cond.code yX0_isMarked cX0_isMarked 3 (some .boolean), Cond.fieldLink RX0 29 "BreakLines$Piece" "marked" "[I", Cond.methodLink RX1 77 yX0_linePrice, Cond.instanceMethod yX0_linePrice, Cond.selects RX0 yX0_linePrice yX0_linePrice, Cond.code yX0_linePrice cX0_linePrice 5 (some .long), Cond.constantLong RX0 55 (-1)]
def wsX3_sum_r3 : List Cond := [Cond.fieldLink RX0 9 "BreakLines$Piece" "bars" "I", Cond.methodLink RX0 52 yX0_mayBe, Cond.instanceMethod yX0_mayBe, Cond.selects RX0 yX0_mayBe yX0_mayBe, Cond.code yX0_mayBe cX0_mayBe 4 (some .boolean), Cond.methodLink RX0 49 yX0_isOver, Cond.instanceMethod yX0_isOver, Cond.selects RX0 yX0_isOver yX0_isOver, Cond.code yX0_isOver cX0_isOver 3 (some .boolean), Cond.fieldLink RX0 32 "BreakLines$Piece" "leastAhead" "[I", Cond.fieldLink RX0 15 "BreakLines$Piece" "width" "I", Cond.methodLink RX0 57 yX0_spare, Cond.instanceMethod yX0_spare, Cond.selects RX0 yX0_spare yX0_spare, Cond.code yX0_spare cX0_spare 3 (some .int), Cond.methodLink RX0 42 yX0_wishedOf, Cond.instanceMethod yX0_wishedOf, Cond.selects RX0 yX0_wishedOf yX0_wishedOf, Cond.code yX0_wishedOf cX0_wishedOf 3 (some .int), Cond.fieldLink RX0 35 "BreakLines$Piece" "wishedAhead" "[I", Cond.methodLink RX1 51 yX1_fillForAnyCount, Cond.instanceMethod yX1_fillForAnyCount, Cond.selects RX1 yX1_fillForAnyCount yX1_fillForAnyCount, Cond.code yX1_fillForAnyCount cX1_fillForAnyCount 4 none]
def wsX3_sum_r4 : List Cond := [Cond.fieldLink RX1 81 "BreakLines$Piece" "perPage" "I", Cond.methodLink RX1 84 Lib.Math.min.name, Cond.static Lib.Math.min.name, Cond.initialized "java/lang/Math", Cond.code Lib.Math.min.name Lib.Math.min.code 2 (some .int), Cond.methodLink RX1 90 yX1_fillCell, Cond.instanceMethod yX1_fillCell, Cond.selects RX1 yX1_fillCell yX1_fillCell, Cond.code yX1_fillCell cX1_fillCell 14 none, Cond.constantLong RX1 64 (-1), Cond.constantLong RX1 62 (1024), Cond.fieldLink RX1 94 "BreakLines$Piece" "costs" "[I", Cond.constantLong RX1 98 (32), Cond.methodLink RX1 66 yX1_lineEnd, Cond.static yX1_lineEnd, Cond.code yX1_lineEnd cX1_lineEnd 1 (some .long), Cond.methodLink RX1 70 yX1_pageEnd, Cond.static yX1_pageEnd, Cond.code yX1_pageEnd cX1_pageEnd 1 (some .long), Cond.methodLink RX1 100 yX1_offer, Cond.instanceMethod yX1_offer, Cond.selects RX1 yX1_offer yX1_offer, Cond.code yX1_offer cX1_offer 6 none, Cond.methodLink RX1 104 yX1_offerGoingOn]
def wsX3_sum_r5 : List Cond := [Cond.instanceMethod yX1_offerGoingOn, Cond.selects RX1 yX1_offerGoingOn yX1_offerGoingOn, Cond.code yX1_offerGoingOn cX1_offerGoingOn 9 none, Cond.methodLink RX1 54 yX1_fillForCount, Cond.instanceMethod yX1_fillForCount, Cond.selects RX1 yX1_fillForCount yX1_fillForCount, Cond.code yX1_fillForCount cX1_fillForCount 10 none, Cond.methodLink RX3 144 yX2_take, Cond.instanceMethod yX2_take, Cond.selects RX2 yX2_take yX2_take, Cond.initialized RX2, Cond.code yX2_take cX2_take 4 none, Cond.fieldLink RX2 9 "BreakLines$Setting" "exists" "Z", Cond.fieldLink RX2 15 "BreakLines$Setting" "total" "J", Cond.fieldLink RX2 19 "BreakLines$Setting" "lines" "I", Cond.fieldLink RX2 23 "BreakLines$Setting" "pages" "I", Cond.fieldLink RX2 36 "BreakLines$Setting" "lineOfBar" "[I", Cond.fieldLink RX2 33 "BreakLines$Setting" "pageOfLine" "[I", Cond.fieldLink RX2 26 "BreakLines$Setting" "firstBar" "[I", Cond.fieldLink RX2 30 "BreakLines$Setting" "firstLine" "[I", Cond.methodLink RX2 39 yX1_hasFound, Cond.instanceMethod yX1_hasFound, Cond.selects RX1 yX1_hasFound yX1_hasFound, Cond.code yX1_hasFound cX1_hasFound 1 (some .boolean)]
def wsX3_sum_r6 : List Cond := [Cond.methodLink RX2 45 yX1_foundTotal, Cond.instanceMethod yX1_foundTotal, Cond.selects RX1 yX1_foundTotal yX1_foundTotal, Cond.code yX1_foundTotal cX1_foundTotal 1 (some .long), Cond.methodLink RX1 58 yX1_hasFound, Cond.methodLink RX2 49 yX1_lineEndsAt, Cond.instanceMethod yX1_lineEndsAt, Cond.selects RX1 yX1_lineEndsAt yX1_lineEndsAt, Cond.code yX1_lineEndsAt cX1_lineEndsAt 2 (some .boolean), Cond.methodLink RX2 53 yX1_pageEndsAt, Cond.instanceMethod yX1_pageEndsAt, Cond.selects RX1 yX1_pageEndsAt yX1_pageEndsAt, Cond.code yX1_pageEndsAt cX1_pageEndsAt 2 (some .boolean)]
def wsX3_sum : List Cond := .code yX3_sum cX3_sum 1 (some .long) :: ((wsX3_sum_r1 ++ (wsX3_sum_r2 ++ (wsX3_sum_r3 ++ (wsX3_sum_r4 ++ (wsX3_sum_r5 ++ wsX3_sum_r6))))) ++ wsX30 ++ wsX20 ++ wsX00 ++ wsX10)
def wsX3_line_r1 : List Cond := [Cond.fieldLink RX3 34 "BreakLines" "best" "LBreakLines$Setting;", Cond.fieldLink RX3 90 "BreakLines$Setting" "exists" "Z", Cond.fieldLink RX3 93 "BreakLines$Setting" "lines" "I", Cond.fieldLink RX3 105 "BreakLines$Setting" "firstBar" "[I", Cond.fieldLink RX3 112 "BreakLines$Setting" "pageOfLine" "[I", Cond.constant RX3 73 (1000000), Cond.fieldLink RX3 18 "BreakLines" "piece" "LBreakLines$Piece;", Cond.methodLink RX3 87 yX3_findBest, Cond.instanceMethod yX3_findBest, Cond.selects RX3 yX3_findBest yX3_findBest, Cond.initialized RX3, Cond.code yX3_findBest cX3_findBest 1 none, Cond.fieldLink RX3 38 "BreakLines" "bestIsKnown" "Z", Cond.fieldLink RX3 27 "BreakLines" "search" "LBreakLines$Search;", Cond.fieldLink RX3 46 "BreakLines$Piece" "bars" "I", Cond.methodLink RX3 137 yX1_run, Cond.instanceMethod yX1_run, Cond.selects RX1 yX1_run yX1_run, Cond.initialized RX1, Cond.code yX1_run cX1_run 1 none, Cond.fieldLink RX1 36 "BreakLines$Search" "foundOrder" "J", Cond.fieldLink RX1 11 "BreakLines$Search" "piece" "LBreakLines$Piece;", Cond.fieldLink RX1 39 "BreakLines$Piece" "bars" "I", Cond.fieldLink RX1 45 "BreakLines$Piece" "count" "I"]
def wsX3_line_r2 : List Cond := [Cond.constantLong RX1 30 (9223372036854775807), Cond.fieldLink RX1 32 "BreakLines$Search" "foundRank" "J", Cond.fieldLink RX1 24 "BreakLines$Search" "ranks" "[J", Cond.fieldLink RX1 27 "BreakLines$Search" "orders" "[J", Cond.methodLink RX1 48 yX1_priceLinesAndTurns, Cond.instanceMethod yX1_priceLinesAndTurns, Cond.selects RX1 yX1_priceLinesAndTurns yX1_priceLinesAndTurns, Cond.code yX1_priceLinesAndTurns cX1_priceLinesAndTurns 3 none, Cond.fieldLink RX1 21 "BreakLines$Search" "turnPrices" "[J", Cond.fieldLink RX1 17 "BreakLines$Search" "linePrices" "[J", Cond.methodLink RX1 73 yX0_turnPrice, Cond.instanceMethod yX0_turnPrice, Cond.selects RX0 yX0_turnPrice yX0_turnPrice, Cond.initialized RX0, Cond.code yX0_turnPrice cX0_turnPrice 2 (some .int), Cond.fieldLink RX0 24 "BreakLines$Piece" "costs" "[I", Cond.methodLink RX0 45 yX0_isMarked, Cond.instanceMethod yX0_isMarked, Cond.selects RX0 yX0_isMarked yX0_isMarked, Cond.code yX0_isMarked cX0_isMarked 3 (some .boolean), Cond.fieldLink RX0 29 "BreakLines$Piece" "marked" "[I", Cond.methodLink RX1 77 yX0_linePrice, Cond.instanceMethod yX0_linePrice, Cond.selects RX0 yX0_linePrice yX0_linePrice]
def wsX3_line_r3 : List Cond := [Cond.code yX0_linePrice cX0_linePrice 5 (some .long), Cond.constantLong RX0 55 (-1), Cond.fieldLink RX0 9 "BreakLines$Piece" "bars" "I", Cond.methodLink RX0 52 yX0_mayBe, Cond.instanceMethod yX0_mayBe, Cond.selects RX0 yX0_mayBe yX0_mayBe, Cond.code yX0_mayBe cX0_mayBe 4 (some .boolean), Cond.methodLink RX0 49 yX0_isOver, Cond.instanceMethod yX0_isOver, Cond.selects RX0 yX0_isOver yX0_isOver, Cond.code yX0_isOver cX0_isOver 3 (some .boolean), Cond.fieldLink RX0 32 "BreakLines$Piece" "leastAhead" "[I", Cond.fieldLink RX0 15 "BreakLines$Piece" "width" "I", Cond.methodLink RX0 57 yX0_spare, Cond.instanceMethod yX0_spare, Cond.selects RX0 yX0_spare yX0_spare, Cond.code yX0_spare cX0_spare 3 (some .int), Cond.methodLink RX0 42 yX0_wishedOf, Cond.instanceMethod yX0_wishedOf, Cond.selects RX0 yX0_wishedOf yX0_wishedOf, Cond.code yX0_wishedOf cX0_wishedOf 3 (some .int), Cond.fieldLink RX0 35 "BreakLines$Piece" "wishedAhead" "[I", Cond.methodLink RX1 51 yX1_fillForAnyCount, Cond.instanceMethod yX1_fillForAnyCount]
def wsX3_line_r4 : List Cond := [Cond.selects RX1 yX1_fillForAnyCount yX1_fillForAnyCount, Cond.code yX1_fillForAnyCount cX1_fillForAnyCount 4 none, Cond.fieldLink RX1 81 "BreakLines$Piece" "perPage" "I", Cond.methodLink RX1 84 Lib.Math.min.name, Cond.static Lib.Math.min.name, Cond.initialized "java/lang/Math", Cond.code Lib.Math.min.name Lib.Math.min.code 2 (some .int), Cond.methodLink RX1 90 yX1_fillCell, Cond.instanceMethod yX1_fillCell, Cond.selects RX1 yX1_fillCell yX1_fillCell, Cond.code yX1_fillCell cX1_fillCell 14 none, Cond.constantLong RX1 64 (-1), Cond.constantLong RX1 62 (1024), Cond.fieldLink RX1 94 "BreakLines$Piece" "costs" "[I", Cond.constantLong RX1 98 (32), Cond.methodLink RX1 66 yX1_lineEnd, Cond.static yX1_lineEnd, Cond.code yX1_lineEnd cX1_lineEnd 1 (some .long), Cond.methodLink RX1 70 yX1_pageEnd, Cond.static yX1_pageEnd, Cond.code yX1_pageEnd cX1_pageEnd 1 (some .long), Cond.methodLink RX1 100 yX1_offer, Cond.instanceMethod yX1_offer, Cond.selects RX1 yX1_offer yX1_offer]
def wsX3_line_r5 : List Cond := [Cond.code yX1_offer cX1_offer 6 none, Cond.methodLink RX1 104 yX1_offerGoingOn, Cond.instanceMethod yX1_offerGoingOn, Cond.selects RX1 yX1_offerGoingOn yX1_offerGoingOn, Cond.code yX1_offerGoingOn cX1_offerGoingOn 9 none, Cond.methodLink RX1 54 yX1_fillForCount, Cond.instanceMethod yX1_fillForCount, Cond.selects RX1 yX1_fillForCount yX1_fillForCount, Cond.code yX1_fillForCount cX1_fillForCount 10 none, Cond.methodLink RX3 144 yX2_take, Cond.instanceMethod yX2_take, Cond.selects RX2 yX2_take yX2_take, Cond.initialized RX2, Cond.code yX2_take cX2_take 4 none, Cond.fieldLink RX2 9 "BreakLines$Setting" "exists" "Z", Cond.fieldLink RX2 15 "BreakLines$Setting" "total" "J", Cond.fieldLink RX2 19 "BreakLines$Setting" "lines" "I", Cond.fieldLink RX2 23 "BreakLines$Setting" "pages" "I", Cond.fieldLink RX2 36 "BreakLines$Setting" "lineOfBar" "[I", Cond.fieldLink RX2 33 "BreakLines$Setting" "pageOfLine" "[I", Cond.fieldLink RX2 26 "BreakLines$Setting" "firstBar" "[I", Cond.fieldLink RX2 30 "BreakLines$Setting" "firstLine" "[I", Cond.methodLink RX2 39 yX1_hasFound, Cond.instanceMethod yX1_hasFound]
def wsX3_line_r6 : List Cond := [Cond.selects RX1 yX1_hasFound yX1_hasFound, Cond.code yX1_hasFound cX1_hasFound 1 (some .boolean), Cond.methodLink RX2 45 yX1_foundTotal, Cond.instanceMethod yX1_foundTotal, Cond.selects RX1 yX1_foundTotal yX1_foundTotal, Cond.code yX1_foundTotal cX1_foundTotal 1 (some .long), Cond.methodLink RX1 58 yX1_hasFound, Cond.methodLink RX2 49 yX1_lineEndsAt, Cond.instanceMethod yX1_lineEndsAt, Cond.selects RX1 yX1_lineEndsAt yX1_lineEndsAt, Cond.code yX1_lineEndsAt cX1_lineEndsAt 2 (some .boolean), Cond.methodLink RX2 53 yX1_pageEndsAt, Cond.instanceMethod yX1_pageEndsAt, Cond.selects RX1 yX1_pageEndsAt yX1_pageEndsAt, Cond.code yX1_pageEndsAt cX1_pageEndsAt 2 (some .boolean), Cond.methodLink RX3 62 yX3_isWithin, Cond.static yX3_isWithin, Cond.code yX3_isWithin cX3_isWithin 3 (some .boolean), Cond.methodLink RX3 108 yX2_lastBar, Cond.instanceMethod yX2_lastBar, Cond.selects RX2 yX2_lastBar yX2_lastBar, Cond.code yX2_lastBar cX2_lastBar 2 (some .int), Cond.methodLink RX3 115 yX0_spare]
def wsX3_line : List Cond := .code yX3_line cX3_line 3 (some .int) :: ((wsX3_line_r1 ++ (wsX3_line_r2 ++ (wsX3_line_r3 ++ (wsX3_line_r4 ++ (wsX3_line_r5 ++ wsX3_line_r6))))) ++ wsX30 ++ wsX20 ++ wsX00 ++ wsX10)
def wsX3_pagePrice_r1 : List Cond := [Cond.fieldLink RX3 34 "BreakLines" "best" "LBreakLines$Setting;", Cond.fieldLink RX3 96 "BreakLines$Setting" "pages" "I", Cond.fieldLink RX3 18 "BreakLines" "piece" "LBreakLines$Piece;", Cond.fieldLink RX3 118 "BreakLines$Setting" "firstLine" "[I", Cond.fieldLink RX3 74 "BreakLines$Piece" "costs" "[I", Cond.methodLink RX3 108 yX2_lastBar, Cond.instanceMethod yX2_lastBar, Cond.selects RX2 yX2_lastBar yX2_lastBar, Cond.initialized RX2, Cond.code yX2_lastBar cX2_lastBar 2 (some .int), Cond.fieldLink RX2 26 "BreakLines$Setting" "firstBar" "[I", Cond.methodLink RX3 148 yX0_turnPrice, Cond.instanceMethod yX0_turnPrice, Cond.selects RX0 yX0_turnPrice yX0_turnPrice, Cond.initialized RX0, Cond.code yX0_turnPrice cX0_turnPrice 2 (some .int), Cond.fieldLink RX0 24 "BreakLines$Piece" "costs" "[I", Cond.methodLink RX0 45 yX0_isMarked, Cond.instanceMethod yX0_isMarked, Cond.selects RX0 yX0_isMarked yX0_isMarked, Cond.code yX0_isMarked cX0_isMarked 3 (some .boolean), Cond.fieldLink RX0 29 "BreakLines$Piece" "marked" "[I", Cond.methodLink RX3 121 yX2_linesOnPage, Cond.instanceMethod yX2_linesOnPage]
def wsX3_pagePrice_r2 : List Cond := [Cond.selects RX2 yX2_linesOnPage yX2_linesOnPage, Cond.code yX2_linesOnPage cX2_linesOnPage 2 (some .int), Cond.fieldLink RX2 30 "BreakLines$Setting" "firstLine" "[I"]
def wsX3_pagePrice : List Cond := .code yX3_pagePrice cX3_pagePrice 2 (some .int) :: ((wsX3_pagePrice_r1 ++ wsX3_pagePrice_r2) ++ wsX30 ++ wsX20 ++ wsX00)
def wsX3_page_r1 : List Cond := [Cond.fieldLink RX3 34 "BreakLines" "best" "LBreakLines$Setting;", Cond.fieldLink RX3 90 "BreakLines$Setting" "exists" "Z", Cond.fieldLink RX3 96 "BreakLines$Setting" "pages" "I", Cond.fieldLink RX3 118 "BreakLines$Setting" "firstLine" "[I", Cond.methodLink RX3 87 yX3_findBest, Cond.instanceMethod yX3_findBest, Cond.selects RX3 yX3_findBest yX3_findBest, Cond.initialized RX3, Cond.code yX3_findBest cX3_findBest 1 none, Cond.fieldLink RX3 38 "BreakLines" "bestIsKnown" "Z", Cond.fieldLink RX3 27 "BreakLines" "search" "LBreakLines$Search;", Cond.fieldLink RX3 18 "BreakLines" "piece" "LBreakLines$Piece;", Cond.fieldLink RX3 46 "BreakLines$Piece" "bars" "I", Cond.methodLink RX3 137 yX1_run, Cond.instanceMethod yX1_run, Cond.selects RX1 yX1_run yX1_run, Cond.initialized RX1, Cond.code yX1_run cX1_run 1 none, Cond.fieldLink RX1 36 "BreakLines$Search" "foundOrder" "J", Cond.fieldLink RX1 11 "BreakLines$Search" "piece" "LBreakLines$Piece;", Cond.fieldLink RX1 39 "BreakLines$Piece" "bars" "I", Cond.fieldLink RX1 45 "BreakLines$Piece" "count" "I", Cond.constantLong RX1 30 (9223372036854775807), Cond.fieldLink RX1 32 "BreakLines$Search" "foundRank" "J"]
def wsX3_page_r2 : List Cond := [Cond.fieldLink RX1 24 "BreakLines$Search" "ranks" "[J", Cond.fieldLink RX1 27 "BreakLines$Search" "orders" "[J", Cond.methodLink RX1 48 yX1_priceLinesAndTurns, Cond.instanceMethod yX1_priceLinesAndTurns, Cond.selects RX1 yX1_priceLinesAndTurns yX1_priceLinesAndTurns, Cond.code yX1_priceLinesAndTurns cX1_priceLinesAndTurns 3 none, Cond.fieldLink RX1 21 "BreakLines$Search" "turnPrices" "[J", Cond.fieldLink RX1 17 "BreakLines$Search" "linePrices" "[J", Cond.methodLink RX1 73 yX0_turnPrice, Cond.instanceMethod yX0_turnPrice, Cond.selects RX0 yX0_turnPrice yX0_turnPrice, Cond.initialized RX0, Cond.code yX0_turnPrice cX0_turnPrice 2 (some .int), Cond.fieldLink RX0 24 "BreakLines$Piece" "costs" "[I", Cond.methodLink RX0 45 yX0_isMarked, Cond.instanceMethod yX0_isMarked, Cond.selects RX0 yX0_isMarked yX0_isMarked, Cond.code yX0_isMarked cX0_isMarked 3 (some .boolean), Cond.fieldLink RX0 29 "BreakLines$Piece" "marked" "[I", Cond.methodLink RX1 77 yX0_linePrice, Cond.instanceMethod yX0_linePrice, Cond.selects RX0 yX0_linePrice yX0_linePrice, Cond.code yX0_linePrice cX0_linePrice 5 (some .long), Cond.constantLong RX0 55 (-1)]
def wsX3_page_r3 : List Cond := [Cond.fieldLink RX0 9 "BreakLines$Piece" "bars" "I", Cond.methodLink RX0 52 yX0_mayBe, Cond.instanceMethod yX0_mayBe, Cond.selects RX0 yX0_mayBe yX0_mayBe, Cond.code yX0_mayBe cX0_mayBe 4 (some .boolean), Cond.methodLink RX0 49 yX0_isOver, Cond.instanceMethod yX0_isOver, Cond.selects RX0 yX0_isOver yX0_isOver, Cond.code yX0_isOver cX0_isOver 3 (some .boolean), Cond.fieldLink RX0 32 "BreakLines$Piece" "leastAhead" "[I", Cond.fieldLink RX0 15 "BreakLines$Piece" "width" "I", Cond.methodLink RX0 57 yX0_spare, Cond.instanceMethod yX0_spare, Cond.selects RX0 yX0_spare yX0_spare, Cond.code yX0_spare cX0_spare 3 (some .int), Cond.methodLink RX0 42 yX0_wishedOf, Cond.instanceMethod yX0_wishedOf, Cond.selects RX0 yX0_wishedOf yX0_wishedOf, Cond.code yX0_wishedOf cX0_wishedOf 3 (some .int), Cond.fieldLink RX0 35 "BreakLines$Piece" "wishedAhead" "[I", Cond.methodLink RX1 51 yX1_fillForAnyCount, Cond.instanceMethod yX1_fillForAnyCount, Cond.selects RX1 yX1_fillForAnyCount yX1_fillForAnyCount, Cond.code yX1_fillForAnyCount cX1_fillForAnyCount 4 none]
def wsX3_page_r4 : List Cond := [Cond.fieldLink RX1 81 "BreakLines$Piece" "perPage" "I", Cond.methodLink RX1 84 Lib.Math.min.name, Cond.static Lib.Math.min.name, Cond.initialized "java/lang/Math", Cond.code Lib.Math.min.name Lib.Math.min.code 2 (some .int), Cond.methodLink RX1 90 yX1_fillCell, Cond.instanceMethod yX1_fillCell, Cond.selects RX1 yX1_fillCell yX1_fillCell, Cond.code yX1_fillCell cX1_fillCell 14 none, Cond.constantLong RX1 64 (-1), Cond.constantLong RX1 62 (1024), Cond.fieldLink RX1 94 "BreakLines$Piece" "costs" "[I", Cond.constantLong RX1 98 (32), Cond.methodLink RX1 66 yX1_lineEnd, Cond.static yX1_lineEnd, Cond.code yX1_lineEnd cX1_lineEnd 1 (some .long), Cond.methodLink RX1 70 yX1_pageEnd, Cond.static yX1_pageEnd, Cond.code yX1_pageEnd cX1_pageEnd 1 (some .long), Cond.methodLink RX1 100 yX1_offer, Cond.instanceMethod yX1_offer, Cond.selects RX1 yX1_offer yX1_offer, Cond.code yX1_offer cX1_offer 6 none, Cond.methodLink RX1 104 yX1_offerGoingOn]
def wsX3_page_r5 : List Cond := [Cond.instanceMethod yX1_offerGoingOn, Cond.selects RX1 yX1_offerGoingOn yX1_offerGoingOn, Cond.code yX1_offerGoingOn cX1_offerGoingOn 9 none, Cond.methodLink RX1 54 yX1_fillForCount, Cond.instanceMethod yX1_fillForCount, Cond.selects RX1 yX1_fillForCount yX1_fillForCount, Cond.code yX1_fillForCount cX1_fillForCount 10 none, Cond.methodLink RX3 144 yX2_take, Cond.instanceMethod yX2_take, Cond.selects RX2 yX2_take yX2_take, Cond.initialized RX2, Cond.code yX2_take cX2_take 4 none, Cond.fieldLink RX2 9 "BreakLines$Setting" "exists" "Z", Cond.fieldLink RX2 15 "BreakLines$Setting" "total" "J", Cond.fieldLink RX2 19 "BreakLines$Setting" "lines" "I", Cond.fieldLink RX2 23 "BreakLines$Setting" "pages" "I", Cond.fieldLink RX2 36 "BreakLines$Setting" "lineOfBar" "[I", Cond.fieldLink RX2 33 "BreakLines$Setting" "pageOfLine" "[I", Cond.fieldLink RX2 26 "BreakLines$Setting" "firstBar" "[I", Cond.fieldLink RX2 30 "BreakLines$Setting" "firstLine" "[I", Cond.methodLink RX2 39 yX1_hasFound, Cond.instanceMethod yX1_hasFound, Cond.selects RX1 yX1_hasFound yX1_hasFound, Cond.code yX1_hasFound cX1_hasFound 1 (some .boolean)]
def wsX3_page_r6 : List Cond := [Cond.methodLink RX2 45 yX1_foundTotal, Cond.instanceMethod yX1_foundTotal, Cond.selects RX1 yX1_foundTotal yX1_foundTotal, Cond.code yX1_foundTotal cX1_foundTotal 1 (some .long), Cond.methodLink RX1 58 yX1_hasFound, Cond.methodLink RX2 49 yX1_lineEndsAt, Cond.instanceMethod yX1_lineEndsAt, Cond.selects RX1 yX1_lineEndsAt yX1_lineEndsAt, Cond.code yX1_lineEndsAt cX1_lineEndsAt 2 (some .boolean), Cond.methodLink RX2 53 yX1_pageEndsAt, Cond.instanceMethod yX1_pageEndsAt, Cond.selects RX1 yX1_pageEndsAt yX1_pageEndsAt, Cond.code yX1_pageEndsAt cX1_pageEndsAt 2 (some .boolean), Cond.methodLink RX3 62 yX3_isWithin, Cond.static yX3_isWithin, Cond.code yX3_isWithin cX3_isWithin 3 (some .boolean), Cond.methodLink RX3 121 yX2_linesOnPage, Cond.instanceMethod yX2_linesOnPage, Cond.selects RX2 yX2_linesOnPage yX2_linesOnPage, Cond.code yX2_linesOnPage cX2_linesOnPage 2 (some .int), Cond.methodLink RX3 124 yX3_pagePrice, Cond.instanceMethod yX3_pagePrice, Cond.selects RX3 yX3_pagePrice yX3_pagePrice, Cond.code yX3_pagePrice cX3_pagePrice 2 (some .int)]
def wsX3_page_r7 : List Cond := [Cond.fieldLink RX3 74 "BreakLines$Piece" "costs" "[I", Cond.methodLink RX3 108 yX2_lastBar, Cond.instanceMethod yX2_lastBar, Cond.selects RX2 yX2_lastBar yX2_lastBar, Cond.code yX2_lastBar cX2_lastBar 2 (some .int), Cond.methodLink RX3 148 yX0_turnPrice]
def wsX3_page : List Cond := .code yX3_page cX3_page 3 (some .int) :: ((wsX3_page_r1 ++ (wsX3_page_r2 ++ (wsX3_page_r3 ++ (wsX3_page_r4 ++ (wsX3_page_r5 ++ (wsX3_page_r6 ++ wsX3_page_r7)))))) ++ wsX30 ++ wsX20 ++ wsX00 ++ wsX10)
def wsX3_set_r1 : List Cond := [Cond.fieldLink RX3 18 "BreakLines" "piece" "LBreakLines$Piece;", Cond.fieldLink RX3 34 "BreakLines" "best" "LBreakLines$Setting;", Cond.fieldLink RX3 90 "BreakLines$Setting" "exists" "Z", Cond.fieldLink RX3 127 "BreakLines$Setting" "lineOfBar" "[I", Cond.fieldLink RX3 105 "BreakLines$Setting" "firstBar" "[I", Cond.methodLink RX3 54 yX0_hasBar, Cond.instanceMethod yX0_hasBar, Cond.selects RX0 yX0_hasBar yX0_hasBar, Cond.initialized RX0, Cond.code yX0_hasBar cX0_hasBar 2 (some .boolean), Cond.fieldLink RX0 9 "BreakLines$Piece" "bars" "I", Cond.methodLink RX3 62 yX3_isWithin, Cond.static yX3_isWithin, Cond.initialized RX3, Cond.code yX3_isWithin cX3_isWithin 3 (some .boolean), Cond.methodLink RX3 87 yX3_findBest, Cond.instanceMethod yX3_findBest, Cond.selects RX3 yX3_findBest yX3_findBest, Cond.code yX3_findBest cX3_findBest 1 none, Cond.fieldLink RX3 38 "BreakLines" "bestIsKnown" "Z", Cond.fieldLink RX3 27 "BreakLines" "search" "LBreakLines$Search;", Cond.fieldLink RX3 46 "BreakLines$Piece" "bars" "I", Cond.methodLink RX3 137 yX1_run, Cond.instanceMethod yX1_run]
def wsX3_set_r2 : List Cond := [Cond.selects RX1 yX1_run yX1_run, Cond.initialized RX1, Cond.code yX1_run cX1_run 1 none, Cond.fieldLink RX1 36 "BreakLines$Search" "foundOrder" "J", Cond.fieldLink RX1 11 "BreakLines$Search" "piece" "LBreakLines$Piece;", Cond.fieldLink RX1 39 "BreakLines$Piece" "bars" "I", Cond.fieldLink RX1 45 "BreakLines$Piece" "count" "I", Cond.constantLong RX1 30 (9223372036854775807), Cond.fieldLink RX1 32 "BreakLines$Search" "foundRank" "J", Cond.fieldLink RX1 24 "BreakLines$Search" "ranks" "[J", Cond.fieldLink RX1 27 "BreakLines$Search" "orders" "[J", Cond.methodLink RX1 48 yX1_priceLinesAndTurns, Cond.instanceMethod yX1_priceLinesAndTurns, Cond.selects RX1 yX1_priceLinesAndTurns yX1_priceLinesAndTurns, Cond.code yX1_priceLinesAndTurns cX1_priceLinesAndTurns 3 none, Cond.fieldLink RX1 21 "BreakLines$Search" "turnPrices" "[J", Cond.fieldLink RX1 17 "BreakLines$Search" "linePrices" "[J", Cond.methodLink RX1 73 yX0_turnPrice, Cond.instanceMethod yX0_turnPrice, Cond.selects RX0 yX0_turnPrice yX0_turnPrice, Cond.code yX0_turnPrice cX0_turnPrice 2 (some .int), Cond.fieldLink RX0 24 "BreakLines$Piece" "costs" "[I", Cond.methodLink RX0 45 yX0_isMarked, Cond.instanceMethod yX0_isMarked]
def wsX3_set_r3 : List Cond := [Cond.selects RX0 yX0_isMarked yX0_isMarked, Cond.code yX0_isMarked cX0_isMarked 3 (some .boolean), Cond.fieldLink RX0 29 "BreakLines$Piece" "marked" "[I", Cond.methodLink RX1 77 yX0_linePrice, Cond.instanceMethod yX0_linePrice, Cond.selects RX0 yX0_linePrice yX0_linePrice, Cond.code yX0_linePrice cX0_linePrice 5 (some .long), Cond.constantLong RX0 55 (-1), Cond.methodLink RX0 52 yX0_mayBe, Cond.instanceMethod yX0_mayBe, Cond.selects RX0 yX0_mayBe yX0_mayBe, Cond.code yX0_mayBe cX0_mayBe 4 (some .boolean), Cond.methodLink RX0 49 yX0_isOver, Cond.instanceMethod yX0_isOver, Cond.selects RX0 yX0_isOver yX0_isOver, Cond.code yX0_isOver cX0_isOver 3 (some .boolean), Cond.fieldLink RX0 32 "BreakLines$Piece" "leastAhead" "[I", Cond.fieldLink RX0 15 "BreakLines$Piece" "width" "I", Cond.methodLink RX0 57 yX0_spare, Cond.instanceMethod yX0_spare, Cond.selects RX0 yX0_spare yX0_spare, Cond.code yX0_spare cX0_spare 3 (some .int), Cond.methodLink RX0 42 yX0_wishedOf, Cond.instanceMethod yX0_wishedOf]
def wsX3_set_r4 : List Cond := [Cond.selects RX0 yX0_wishedOf yX0_wishedOf, Cond.code yX0_wishedOf cX0_wishedOf 3 (some .int), Cond.fieldLink RX0 35 "BreakLines$Piece" "wishedAhead" "[I", Cond.methodLink RX1 51 yX1_fillForAnyCount, Cond.instanceMethod yX1_fillForAnyCount, Cond.selects RX1 yX1_fillForAnyCount yX1_fillForAnyCount, Cond.code yX1_fillForAnyCount cX1_fillForAnyCount 4 none, Cond.fieldLink RX1 81 "BreakLines$Piece" "perPage" "I", Cond.methodLink RX1 84 Lib.Math.min.name, Cond.static Lib.Math.min.name, Cond.initialized "java/lang/Math", Cond.code Lib.Math.min.name Lib.Math.min.code 2 (some .int), Cond.methodLink RX1 90 yX1_fillCell, Cond.instanceMethod yX1_fillCell, Cond.selects RX1 yX1_fillCell yX1_fillCell, Cond.code yX1_fillCell cX1_fillCell 14 none, Cond.constantLong RX1 64 (-1), Cond.constantLong RX1 62 (1024), Cond.fieldLink RX1 94 "BreakLines$Piece" "costs" "[I", Cond.constantLong RX1 98 (32), Cond.methodLink RX1 66 yX1_lineEnd, Cond.static yX1_lineEnd, Cond.code yX1_lineEnd cX1_lineEnd 1 (some .long), Cond.methodLink RX1 70 yX1_pageEnd]
def wsX3_set_r5 : List Cond := [Cond.static yX1_pageEnd, Cond.code yX1_pageEnd cX1_pageEnd 1 (some .long), Cond.methodLink RX1 100 yX1_offer, Cond.instanceMethod yX1_offer, Cond.selects RX1 yX1_offer yX1_offer, Cond.code yX1_offer cX1_offer 6 none, Cond.methodLink RX1 104 yX1_offerGoingOn, Cond.instanceMethod yX1_offerGoingOn, Cond.selects RX1 yX1_offerGoingOn yX1_offerGoingOn, Cond.code yX1_offerGoingOn cX1_offerGoingOn 9 none, Cond.methodLink RX1 54 yX1_fillForCount, Cond.instanceMethod yX1_fillForCount, Cond.selects RX1 yX1_fillForCount yX1_fillForCount, Cond.code yX1_fillForCount cX1_fillForCount 10 none, Cond.methodLink RX3 144 yX2_take, Cond.instanceMethod yX2_take, Cond.selects RX2 yX2_take yX2_take, Cond.initialized RX2, Cond.code yX2_take cX2_take 4 none, Cond.fieldLink RX2 9 "BreakLines$Setting" "exists" "Z", Cond.fieldLink RX2 15 "BreakLines$Setting" "total" "J", Cond.fieldLink RX2 19 "BreakLines$Setting" "lines" "I", Cond.fieldLink RX2 23 "BreakLines$Setting" "pages" "I", Cond.fieldLink RX2 36 "BreakLines$Setting" "lineOfBar" "[I"]
def wsX3_set_r6 : List Cond := [Cond.fieldLink RX2 33 "BreakLines$Setting" "pageOfLine" "[I", Cond.fieldLink RX2 26 "BreakLines$Setting" "firstBar" "[I", Cond.fieldLink RX2 30 "BreakLines$Setting" "firstLine" "[I", Cond.methodLink RX2 39 yX1_hasFound, Cond.instanceMethod yX1_hasFound, Cond.selects RX1 yX1_hasFound yX1_hasFound, Cond.code yX1_hasFound cX1_hasFound 1 (some .boolean), Cond.methodLink RX2 45 yX1_foundTotal, Cond.instanceMethod yX1_foundTotal, Cond.selects RX1 yX1_foundTotal yX1_foundTotal, Cond.code yX1_foundTotal cX1_foundTotal 1 (some .long), Cond.methodLink RX1 58 yX1_hasFound, Cond.methodLink RX2 49 yX1_lineEndsAt, Cond.instanceMethod yX1_lineEndsAt, Cond.selects RX1 yX1_lineEndsAt yX1_lineEndsAt, Cond.code yX1_lineEndsAt cX1_lineEndsAt 2 (some .boolean), Cond.methodLink RX2 53 yX1_pageEndsAt, Cond.instanceMethod yX1_pageEndsAt, Cond.selects RX1 yX1_pageEndsAt yX1_pageEndsAt, Cond.code yX1_pageEndsAt cX1_pageEndsAt 2 (some .boolean), Cond.methodLink RX3 108 yX2_lastBar, Cond.instanceMethod yX2_lastBar, Cond.selects RX2 yX2_lastBar yX2_lastBar, Cond.code yX2_lastBar cX2_lastBar 2 (some .int)]
def wsX3_set_r7 : List Cond := [Cond.methodLink RX3 130 yX0_setAhead, Cond.instanceMethod yX0_setAhead, Cond.selects RX0 yX0_setAhead yX0_setAhead, Cond.code yX0_setAhead cX0_setAhead 7 (some .int), Cond.methodLink RX0 60 yX0_share, Cond.static yX0_share, Cond.code yX0_share cX0_share 3 (some .int), Cond.methodLink RX0 38 yX0_leastOf, Cond.instanceMethod yX0_leastOf, Cond.selects RX0 yX0_leastOf yX0_leastOf, Cond.code yX0_leastOf cX0_leastOf 3 (some .int)]
def wsX3_set : List Cond := .code yX3_set cX3_set 7 (some .int) :: ((wsX3_set_r1 ++ (wsX3_set_r2 ++ (wsX3_set_r3 ++ (wsX3_set_r4 ++ (wsX3_set_r5 ++ (wsX3_set_r6 ++ wsX3_set_r7)))))) ++ wsX30 ++ wsX20 ++ wsX00 ++ wsX10)
def wsX3_ends_r1 : List Cond := [Cond.fieldLink RX3 18 "BreakLines" "piece" "LBreakLines$Piece;", Cond.fieldLink RX3 34 "BreakLines" "best" "LBreakLines$Setting;", Cond.fieldLink RX3 90 "BreakLines$Setting" "exists" "Z", Cond.fieldLink RX3 127 "BreakLines$Setting" "lineOfBar" "[I", Cond.methodLink RX3 54 yX0_hasBar, Cond.instanceMethod yX0_hasBar, Cond.selects RX0 yX0_hasBar yX0_hasBar, Cond.initialized RX0, Cond.code yX0_hasBar cX0_hasBar 2 (some .boolean), Cond.fieldLink RX0 9 "BreakLines$Piece" "bars" "I", Cond.methodLink RX3 87 yX3_findBest, Cond.instanceMethod yX3_findBest, Cond.selects RX3 yX3_findBest yX3_findBest, Cond.initialized RX3, Cond.code yX3_findBest cX3_findBest 1 none, Cond.fieldLink RX3 38 "BreakLines" "bestIsKnown" "Z", Cond.fieldLink RX3 27 "BreakLines" "search" "LBreakLines$Search;", Cond.fieldLink RX3 46 "BreakLines$Piece" "bars" "I", Cond.methodLink RX3 137 yX1_run, Cond.instanceMethod yX1_run, Cond.selects RX1 yX1_run yX1_run, Cond.initialized RX1, Cond.code yX1_run cX1_run 1 none, Cond.fieldLink RX1 36 "BreakLines$Search" "foundOrder" "J"]
def wsX3_ends_r2 : List Cond := [Cond.fieldLink RX1 11 "BreakLines$Search" "piece" "LBreakLines$Piece;", Cond.fieldLink RX1 39 "BreakLines$Piece" "bars" "I", Cond.fieldLink RX1 45 "BreakLines$Piece" "count" "I", Cond.constantLong RX1 30 (9223372036854775807), Cond.fieldLink RX1 32 "BreakLines$Search" "foundRank" "J", Cond.fieldLink RX1 24 "BreakLines$Search" "ranks" "[J", Cond.fieldLink RX1 27 "BreakLines$Search" "orders" "[J", Cond.methodLink RX1 48 yX1_priceLinesAndTurns, Cond.instanceMethod yX1_priceLinesAndTurns, Cond.selects RX1 yX1_priceLinesAndTurns yX1_priceLinesAndTurns, Cond.code yX1_priceLinesAndTurns cX1_priceLinesAndTurns 3 none, Cond.fieldLink RX1 21 "BreakLines$Search" "turnPrices" "[J", Cond.fieldLink RX1 17 "BreakLines$Search" "linePrices" "[J", Cond.methodLink RX1 73 yX0_turnPrice, Cond.instanceMethod yX0_turnPrice, Cond.selects RX0 yX0_turnPrice yX0_turnPrice, Cond.code yX0_turnPrice cX0_turnPrice 2 (some .int), Cond.fieldLink RX0 24 "BreakLines$Piece" "costs" "[I", Cond.methodLink RX0 45 yX0_isMarked, Cond.instanceMethod yX0_isMarked, Cond.selects RX0 yX0_isMarked yX0_isMarked, Cond.code yX0_isMarked cX0_isMarked 3 (some .boolean), Cond.fieldLink RX0 29 "BreakLines$Piece" "marked" "[I", Cond.methodLink RX1 77 yX0_linePrice]
def wsX3_ends_r3 : List Cond := [Cond.instanceMethod yX0_linePrice, Cond.selects RX0 yX0_linePrice yX0_linePrice, Cond.code yX0_linePrice cX0_linePrice 5 (some .long), Cond.constantLong RX0 55 (-1), Cond.methodLink RX0 52 yX0_mayBe, Cond.instanceMethod yX0_mayBe, Cond.selects RX0 yX0_mayBe yX0_mayBe, Cond.code yX0_mayBe cX0_mayBe 4 (some .boolean), Cond.methodLink RX0 49 yX0_isOver, Cond.instanceMethod yX0_isOver, Cond.selects RX0 yX0_isOver yX0_isOver, Cond.code yX0_isOver cX0_isOver 3 (some .boolean), Cond.fieldLink RX0 32 "BreakLines$Piece" "leastAhead" "[I", Cond.fieldLink RX0 15 "BreakLines$Piece" "width" "I", Cond.methodLink RX0 57 yX0_spare, Cond.instanceMethod yX0_spare, Cond.selects RX0 yX0_spare yX0_spare, Cond.code yX0_spare cX0_spare 3 (some .int), Cond.methodLink RX0 42 yX0_wishedOf, Cond.instanceMethod yX0_wishedOf, Cond.selects RX0 yX0_wishedOf yX0_wishedOf, Cond.code yX0_wishedOf cX0_wishedOf 3 (some .int), Cond.fieldLink RX0 35 "BreakLines$Piece" "wishedAhead" "[I", Cond.methodLink RX1 51 yX1_fillForAnyCount]
def wsX3_ends_r4 : List Cond := [Cond.instanceMethod yX1_fillForAnyCount, Cond.selects RX1 yX1_fillForAnyCount yX1_fillForAnyCount, Cond.code yX1_fillForAnyCount cX1_fillForAnyCount 4 none, Cond.fieldLink RX1 81 "BreakLines$Piece" "perPage" "I", Cond.methodLink RX1 84 Lib.Math.min.name, Cond.static Lib.Math.min.name, Cond.initialized "java/lang/Math", Cond.code Lib.Math.min.name Lib.Math.min.code 2 (some .int), Cond.methodLink RX1 90 yX1_fillCell, Cond.instanceMethod yX1_fillCell, Cond.selects RX1 yX1_fillCell yX1_fillCell, Cond.code yX1_fillCell cX1_fillCell 14 none, Cond.constantLong RX1 64 (-1), Cond.constantLong RX1 62 (1024), Cond.fieldLink RX1 94 "BreakLines$Piece" "costs" "[I", Cond.constantLong RX1 98 (32), Cond.methodLink RX1 66 yX1_lineEnd, Cond.static yX1_lineEnd, Cond.code yX1_lineEnd cX1_lineEnd 1 (some .long), Cond.methodLink RX1 70 yX1_pageEnd, Cond.static yX1_pageEnd, Cond.code yX1_pageEnd cX1_pageEnd 1 (some .long), Cond.methodLink RX1 100 yX1_offer, Cond.instanceMethod yX1_offer]
def wsX3_ends_r5 : List Cond := [Cond.selects RX1 yX1_offer yX1_offer, Cond.code yX1_offer cX1_offer 6 none, Cond.methodLink RX1 104 yX1_offerGoingOn, Cond.instanceMethod yX1_offerGoingOn, Cond.selects RX1 yX1_offerGoingOn yX1_offerGoingOn, Cond.code yX1_offerGoingOn cX1_offerGoingOn 9 none, Cond.methodLink RX1 54 yX1_fillForCount, Cond.instanceMethod yX1_fillForCount, Cond.selects RX1 yX1_fillForCount yX1_fillForCount, Cond.code yX1_fillForCount cX1_fillForCount 10 none, Cond.methodLink RX3 144 yX2_take, Cond.instanceMethod yX2_take, Cond.selects RX2 yX2_take yX2_take, Cond.initialized RX2, Cond.code yX2_take cX2_take 4 none, Cond.fieldLink RX2 9 "BreakLines$Setting" "exists" "Z", Cond.fieldLink RX2 15 "BreakLines$Setting" "total" "J", Cond.fieldLink RX2 19 "BreakLines$Setting" "lines" "I", Cond.fieldLink RX2 23 "BreakLines$Setting" "pages" "I", Cond.fieldLink RX2 36 "BreakLines$Setting" "lineOfBar" "[I", Cond.fieldLink RX2 33 "BreakLines$Setting" "pageOfLine" "[I", Cond.fieldLink RX2 26 "BreakLines$Setting" "firstBar" "[I", Cond.fieldLink RX2 30 "BreakLines$Setting" "firstLine" "[I", Cond.methodLink RX2 39 yX1_hasFound]
def wsX3_ends_r6 : List Cond := [Cond.instanceMethod yX1_hasFound, Cond.selects RX1 yX1_hasFound yX1_hasFound, Cond.code yX1_hasFound cX1_hasFound 1 (some .boolean), Cond.methodLink RX2 45 yX1_foundTotal, Cond.instanceMethod yX1_foundTotal, Cond.selects RX1 yX1_foundTotal yX1_foundTotal, Cond.code yX1_foundTotal cX1_foundTotal 1 (some .long), Cond.methodLink RX1 58 yX1_hasFound, Cond.methodLink RX2 49 yX1_lineEndsAt, Cond.instanceMethod yX1_lineEndsAt, Cond.selects RX1 yX1_lineEndsAt yX1_lineEndsAt, Cond.code yX1_lineEndsAt cX1_lineEndsAt 2 (some .boolean), Cond.methodLink RX2 53 yX1_pageEndsAt, Cond.instanceMethod yX1_pageEndsAt, Cond.selects RX1 yX1_pageEndsAt yX1_pageEndsAt, Cond.code yX1_pageEndsAt cX1_pageEndsAt 2 (some .boolean), Cond.methodLink RX3 108 yX2_lastBar, Cond.instanceMethod yX2_lastBar, Cond.selects RX2 yX2_lastBar yX2_lastBar, Cond.code yX2_lastBar cX2_lastBar 2 (some .int)]
def wsX3_ends : List Cond := .code yX3_ends cX3_ends 2 (some .boolean) :: ((wsX3_ends_r1 ++ (wsX3_ends_r2 ++ (wsX3_ends_r3 ++ (wsX3_ends_r4 ++ (wsX3_ends_r5 ++ wsX3_ends_r6))))) ++ wsX30 ++ wsX20 ++ wsX00 ++ wsX10)
def wsX3_badness_r1 : List Cond := [Cond.fieldLink RX3 18 "BreakLines" "piece" "LBreakLines$Piece;", Cond.constantLong RX3 103 (-1), Cond.methodLink RX3 54 yX0_hasBar, Cond.instanceMethod yX0_hasBar, Cond.selects RX0 yX0_hasBar yX0_hasBar, Cond.initialized RX0, Cond.code yX0_hasBar cX0_hasBar 2 (some .boolean), Cond.fieldLink RX0 9 "BreakLines$Piece" "bars" "I", Cond.methodLink RX3 133 yX0_linePrice, Cond.instanceMethod yX0_linePrice, Cond.selects RX0 yX0_linePrice yX0_linePrice, Cond.code yX0_linePrice cX0_linePrice 5 (some .long), Cond.constantLong RX0 55 (-1), Cond.fieldLink RX0 24 "BreakLines$Piece" "costs" "[I", Cond.methodLink RX0 52 yX0_mayBe, Cond.instanceMethod yX0_mayBe, Cond.selects RX0 yX0_mayBe yX0_mayBe, Cond.code yX0_mayBe cX0_mayBe 4 (some .boolean), Cond.fieldLink RX0 29 "BreakLines$Piece" "marked" "[I", Cond.methodLink RX0 45 yX0_isMarked, Cond.instanceMethod yX0_isMarked, Cond.selects RX0 yX0_isMarked yX0_isMarked, Cond.code yX0_isMarked cX0_isMarked 3 (some .boolean), Cond.methodLink RX0 49 yX0_isOver]
def wsX3_badness_r2 : List Cond := [Cond.instanceMethod yX0_isOver, Cond.selects RX0 yX0_isOver yX0_isOver, Cond.code yX0_isOver cX0_isOver 3 (some .boolean), Cond.fieldLink RX0 32 "BreakLines$Piece" "leastAhead" "[I", Cond.fieldLink RX0 15 "BreakLines$Piece" "width" "I", Cond.methodLink RX0 57 yX0_spare, Cond.instanceMethod yX0_spare, Cond.selects RX0 yX0_spare yX0_spare, Cond.code yX0_spare cX0_spare 3 (some .int), Cond.methodLink RX0 42 yX0_wishedOf, Cond.instanceMethod yX0_wishedOf, Cond.selects RX0 yX0_wishedOf yX0_wishedOf, Cond.code yX0_wishedOf cX0_wishedOf 3 (some .int), Cond.fieldLink RX0 35 "BreakLines$Piece" "wishedAhead" "[I"]
def wsX3_badness : List Cond := .code yX3_badness cX3_badness 3 (some .long) :: ((wsX3_badness_r1 ++ wsX3_badness_r2) ++ wsX30 ++ wsX00)
def wsX3_would_r1 : List Cond := [Cond.fieldLink RX3 18 "BreakLines" "piece" "LBreakLines$Piece;", Cond.constantLong RX3 103 (-1), Cond.fieldLink RX3 27 "BreakLines" "search" "LBreakLines$Search;", Cond.methodLink RX3 54 yX0_hasBar, Cond.instanceMethod yX0_hasBar, Cond.selects RX0 yX0_hasBar yX0_hasBar, Cond.initialized RX0, Cond.code yX0_hasBar cX0_hasBar 2 (some .boolean), Cond.fieldLink RX0 9 "BreakLines$Piece" "bars" "I", Cond.methodLink RX3 62 yX3_isWithin, Cond.static yX3_isWithin, Cond.initialized RX3, Cond.code yX3_isWithin cX3_isWithin 3 (some .boolean), Cond.methodLink RX3 66 yX0_isMarked, Cond.instanceMethod yX0_isMarked, Cond.selects RX0 yX0_isMarked yX0_isMarked, Cond.code yX0_isMarked cX0_isMarked 3 (some .boolean), Cond.fieldLink RX0 29 "BreakLines$Piece" "marked" "[I", Cond.methodLink RX3 69 yX0_putMark, Cond.instanceMethod yX0_putMark, Cond.selects RX0 yX0_putMark yX0_putMark, Cond.code yX0_putMark cX0_putMark 5 none, Cond.methodLink RX3 137 yX1_run, Cond.instanceMethod yX1_run]
def wsX3_would_r2 : List Cond := [Cond.selects RX1 yX1_run yX1_run, Cond.initialized RX1, Cond.code yX1_run cX1_run 1 none, Cond.fieldLink RX1 36 "BreakLines$Search" "foundOrder" "J", Cond.fieldLink RX1 11 "BreakLines$Search" "piece" "LBreakLines$Piece;", Cond.fieldLink RX1 39 "BreakLines$Piece" "bars" "I", Cond.fieldLink RX1 45 "BreakLines$Piece" "count" "I", Cond.constantLong RX1 30 (9223372036854775807), Cond.fieldLink RX1 32 "BreakLines$Search" "foundRank" "J", Cond.fieldLink RX1 24 "BreakLines$Search" "ranks" "[J", Cond.fieldLink RX1 27 "BreakLines$Search" "orders" "[J", Cond.methodLink RX1 48 yX1_priceLinesAndTurns, Cond.instanceMethod yX1_priceLinesAndTurns, Cond.selects RX1 yX1_priceLinesAndTurns yX1_priceLinesAndTurns, Cond.code yX1_priceLinesAndTurns cX1_priceLinesAndTurns 3 none, Cond.fieldLink RX1 21 "BreakLines$Search" "turnPrices" "[J", Cond.fieldLink RX1 17 "BreakLines$Search" "linePrices" "[J", Cond.methodLink RX1 73 yX0_turnPrice, Cond.instanceMethod yX0_turnPrice, Cond.selects RX0 yX0_turnPrice yX0_turnPrice, Cond.code yX0_turnPrice cX0_turnPrice 2 (some .int), Cond.fieldLink RX0 24 "BreakLines$Piece" "costs" "[I", Cond.methodLink RX0 45 yX0_isMarked, Cond.methodLink RX1 77 yX0_linePrice]
def wsX3_would_r3 : List Cond := [Cond.instanceMethod yX0_linePrice, Cond.selects RX0 yX0_linePrice yX0_linePrice, Cond.code yX0_linePrice cX0_linePrice 5 (some .long), Cond.constantLong RX0 55 (-1), Cond.methodLink RX0 52 yX0_mayBe, Cond.instanceMethod yX0_mayBe, Cond.selects RX0 yX0_mayBe yX0_mayBe, Cond.code yX0_mayBe cX0_mayBe 4 (some .boolean), Cond.methodLink RX0 49 yX0_isOver, Cond.instanceMethod yX0_isOver, Cond.selects RX0 yX0_isOver yX0_isOver, Cond.code yX0_isOver cX0_isOver 3 (some .boolean), Cond.fieldLink RX0 32 "BreakLines$Piece" "leastAhead" "[I", Cond.fieldLink RX0 15 "BreakLines$Piece" "width" "I", Cond.methodLink RX0 57 yX0_spare, Cond.instanceMethod yX0_spare, Cond.selects RX0 yX0_spare yX0_spare, Cond.code yX0_spare cX0_spare 3 (some .int), Cond.methodLink RX0 42 yX0_wishedOf, Cond.instanceMethod yX0_wishedOf, Cond.selects RX0 yX0_wishedOf yX0_wishedOf, Cond.code yX0_wishedOf cX0_wishedOf 3 (some .int), Cond.fieldLink RX0 35 "BreakLines$Piece" "wishedAhead" "[I", Cond.methodLink RX1 51 yX1_fillForAnyCount]
def wsX3_would_r4 : List Cond := [Cond.instanceMethod yX1_fillForAnyCount, Cond.selects RX1 yX1_fillForAnyCount yX1_fillForAnyCount, Cond.code yX1_fillForAnyCount cX1_fillForAnyCount 4 none, Cond.fieldLink RX1 81 "BreakLines$Piece" "perPage" "I", Cond.methodLink RX1 84 Lib.Math.min.name, Cond.static Lib.Math.min.name, Cond.initialized "java/lang/Math", Cond.code Lib.Math.min.name Lib.Math.min.code 2 (some .int), Cond.methodLink RX1 90 yX1_fillCell, Cond.instanceMethod yX1_fillCell, Cond.selects RX1 yX1_fillCell yX1_fillCell, Cond.code yX1_fillCell cX1_fillCell 14 none, Cond.constantLong RX1 64 (-1), Cond.constantLong RX1 62 (1024), Cond.fieldLink RX1 94 "BreakLines$Piece" "costs" "[I", Cond.constantLong RX1 98 (32), Cond.methodLink RX1 66 yX1_lineEnd, Cond.static yX1_lineEnd, Cond.code yX1_lineEnd cX1_lineEnd 1 (some .long), Cond.methodLink RX1 70 yX1_pageEnd, Cond.static yX1_pageEnd, Cond.code yX1_pageEnd cX1_pageEnd 1 (some .long), Cond.methodLink RX1 100 yX1_offer, Cond.instanceMethod yX1_offer]
def wsX3_would_r5 : List Cond := [Cond.selects RX1 yX1_offer yX1_offer, Cond.code yX1_offer cX1_offer 6 none, Cond.methodLink RX1 104 yX1_offerGoingOn, Cond.instanceMethod yX1_offerGoingOn, Cond.selects RX1 yX1_offerGoingOn yX1_offerGoingOn, Cond.code yX1_offerGoingOn cX1_offerGoingOn 9 none, Cond.methodLink RX1 54 yX1_fillForCount, Cond.instanceMethod yX1_fillForCount, Cond.selects RX1 yX1_fillForCount yX1_fillForCount, Cond.code yX1_fillForCount cX1_fillForCount 10 none, Cond.methodLink RX3 140 yX1_foundTotal, Cond.instanceMethod yX1_foundTotal, Cond.selects RX1 yX1_foundTotal yX1_foundTotal, Cond.code yX1_foundTotal cX1_foundTotal 1 (some .long), Cond.methodLink RX1 58 yX1_hasFound, Cond.instanceMethod yX1_hasFound, Cond.selects RX1 yX1_hasFound yX1_hasFound, Cond.code yX1_hasFound cX1_hasFound 1 (some .boolean)]
def wsX3_would : List Cond := .code yX3_would cX3_would 4 (some .long) :: ((wsX3_would_r1 ++ (wsX3_would_r2 ++ (wsX3_would_r3 ++ (wsX3_would_r4 ++ wsX3_would_r5)))) ++ wsX30 ++ wsX00 ++ wsX10)
def wsX4_init : List Cond := .code yX4_init cX4_init 3 none :: ([.methodLink RX4 1 objectInit, .instanceMethod objectInit, .code objectInit ⟨#[0xb1]⟩ 1 none, .arrayClass .int, .fieldLink RX4 7 "BreakLinesModel" "leasts" "[I", .fieldLink RX4 13 "BreakLinesModel" "wishes" "[I", .arrayClass .boolean, .fieldLink RX4 16 "BreakLinesModel" "marks" "[Z", .arrayClass .long, .fieldLink RX4 20 "BreakLinesModel" "costs" "[J", .fieldLink RX4 24 "BreakLinesModel" "rest" "[J", .fieldLink RX4 27 "BreakLinesModel" "lineFrom" "[I", .fieldLink RX4 30 "BreakLinesModel" "pageFrom" "[I", .fieldLink RX4 33 "BreakLinesModel" "now" "[J", .fieldLink RX4 36 "BreakLinesModel" "then" "[J", .fieldLink RX4 39 "BreakLinesModel" "pages" "[J", .fieldLink RX4 42 "BreakLinesModel" "width" "I", .fieldLink RX4 46 "BreakLinesModel" "perPage" "I", .constantLong RX4 49 (4), .constantLong RX4 51 (1000), .constantLong RX4 53 (500), .constantLong RX4 55 (100000)] ++ wsX40)
def wsX4_in : List Cond := .code yX4_in cX4_in 3 (some .boolean) :: ([])
def wsX4_isBar : List Cond := .code yX4_isBar cX4_isBar 2 (some .boolean) :: ([.fieldLink RX4 57 "BreakLinesModel" "bars" "I", .methodLink RX4 60 yX4_in, .static yX4_in, .initialized RX4, .code yX4_in cX4_in 3 (some .boolean)] ++ wsX40)
def wsX4_areWidths : List Cond := .code yX4_areWidths cX4_areWidths 2 (some .boolean) :: ([.methodLink RX4 60 yX4_in, .static yX4_in, .initialized RX4, .code yX4_in cX4_in 3 (some .boolean)])
def wsX4_bar : List Cond := .code yX4_bar cX4_bar 3 (some .int) :: ([.fieldLink RX4 57 "BreakLinesModel" "bars" "I", .fieldLink RX4 7 "BreakLinesModel" "leasts" "[I", .fieldLink RX4 13 "BreakLinesModel" "wishes" "[I", .fieldLink RX4 68 "BreakLinesModel" "known" "Z", .methodLink RX4 64 yX4_areWidths, .static yX4_areWidths, .initialized RX4, .code yX4_areWidths cX4_areWidths 2 (some .boolean), .methodLink RX4 60 yX4_in, .static yX4_in, .code yX4_in cX4_in 3 (some .boolean)] ++ wsX40)
def wsX4_change : List Cond := .code yX4_change cX4_change 4 (some .int) :: ([.fieldLink RX4 7 "BreakLinesModel" "leasts" "[I", .fieldLink RX4 13 "BreakLinesModel" "wishes" "[I", .fieldLink RX4 68 "BreakLinesModel" "known" "Z", .methodLink RX4 72 yX4_isBar, .instanceMethod yX4_isBar, .selects RX4 yX4_isBar yX4_isBar, .initialized RX4, .code yX4_isBar cX4_isBar 2 (some .boolean), .fieldLink RX4 57 "BreakLinesModel" "bars" "I", .methodLink RX4 60 yX4_in, .static yX4_in, .code yX4_in cX4_in 3 (some .boolean), .methodLink RX4 64 yX4_areWidths, .static yX4_areWidths, .code yX4_areWidths cX4_areWidths 2 (some .boolean)] ++ wsX40)
def wsX4_mark : List Cond := .code yX4_mark cX4_mark 5 (some .int) :: ([.fieldLink RX4 16 "BreakLinesModel" "marks" "[Z", .fieldLink RX4 68 "BreakLinesModel" "known" "Z", .methodLink RX4 72 yX4_isBar, .instanceMethod yX4_isBar, .selects RX4 yX4_isBar yX4_isBar, .initialized RX4, .code yX4_isBar cX4_isBar 2 (some .boolean), .fieldLink RX4 57 "BreakLinesModel" "bars" "I", .methodLink RX4 60 yX4_in, .static yX4_in, .code yX4_in cX4_in 3 (some .boolean)] ++ wsX40)
def wsX4_cost : List Cond := .code yX4_cost cX4_cost 4 (some .int) :: ([.constant RX4 76 (1000000), .fieldLink RX4 20 "BreakLinesModel" "costs" "[J", .fieldLink RX4 68 "BreakLinesModel" "known" "Z", .methodLink RX4 60 yX4_in, .static yX4_in, .initialized RX4, .code yX4_in cX4_in 3 (some .boolean)] ++ wsX40)
def wsX4_count : List Cond := .code yX4_count cX4_count 3 (some .int) :: ([.fieldLink RX4 77 "BreakLinesModel" "due" "I", .fieldLink RX4 68 "BreakLinesModel" "known" "Z", .methodLink RX4 60 yX4_in, .static yX4_in, .initialized RX4, .code yX4_in cX4_in 3 (some .boolean)] ++ wsX40)
def wsX4_size : List Cond := .code yX4_size cX4_size 5 (some .int) :: ([.fieldLink RX4 42 "BreakLinesModel" "width" "I", .fieldLink RX4 46 "BreakLinesModel" "perPage" "I", .fieldLink RX4 68 "BreakLinesModel" "known" "Z", .methodLink RX4 60 yX4_in, .static yX4_in, .initialized RX4, .code yX4_in cX4_in 3 (some .boolean)] ++ wsX40)
def wsX4_bars : List Cond := .code yX4_bars cX4_bars 1 (some .int) :: ([.fieldLink RX4 57 "BreakLinesModel" "bars" "I"] ++ wsX40)
def wsX4_total : List Cond := .code yX4_total cX4_total 6 (some .int) :: ([])
def wsX4_mayBe : List Cond := .code yX4_mayBe cX4_mayBe 4 (some .boolean) :: ([.fieldLink RX4 16 "BreakLinesModel" "marks" "[Z", .fieldLink RX4 57 "BreakLinesModel" "bars" "I", .fieldLink RX4 7 "BreakLinesModel" "leasts" "[I", .fieldLink RX4 42 "BreakLinesModel" "width" "I", .methodLink RX4 80 yX4_total, .instanceMethod yX4_total, .selects RX4 yX4_total yX4_total, .initialized RX4, .code yX4_total cX4_total 6 (some .int)] ++ wsX40)
def wsX4_off : List Cond := .code yX4_off cX4_off 3 (some .int) :: ([.fieldLink RX4 42 "BreakLinesModel" "width" "I", .fieldLink RX4 13 "BreakLinesModel" "wishes" "[I", .methodLink RX4 80 yX4_total, .instanceMethod yX4_total, .selects RX4 yX4_total yX4_total, .initialized RX4, .code yX4_total cX4_total 6 (some .int)] ++ wsX40)
def wsX4_isOver : List Cond := .code yX4_isOver cX4_isOver 3 (some .boolean) :: ([.fieldLink RX4 7 "BreakLinesModel" "leasts" "[I", .fieldLink RX4 42 "BreakLinesModel" "width" "I", .methodLink RX4 80 yX4_total, .instanceMethod yX4_total, .selects RX4 yX4_total yX4_total, .initialized RX4, .code yX4_total cX4_total 6 (some .int)] ++ wsX40)
def wsX4_costOf : List Cond := .code yX4_costOf cX4_costOf 5 (some .long) :: ([.fieldLink RX4 20 "BreakLinesModel" "costs" "[J", .fieldLink RX4 57 "BreakLinesModel" "bars" "I", .methodLink RX4 84 yX4_off, .instanceMethod yX4_off, .selects RX4 yX4_off yX4_off, .initialized RX4, .code yX4_off cX4_off 3 (some .int), .fieldLink RX4 42 "BreakLinesModel" "width" "I", .fieldLink RX4 13 "BreakLinesModel" "wishes" "[I", .methodLink RX4 80 yX4_total, .instanceMethod yX4_total, .selects RX4 yX4_total yX4_total, .code yX4_total cX4_total 6 (some .int), .methodLink RX4 88 yX4_isOver, .instanceMethod yX4_isOver, .selects RX4 yX4_isOver yX4_isOver, .code yX4_isOver cX4_isOver 3 (some .boolean), .fieldLink RX4 7 "BreakLinesModel" "leasts" "[I"] ++ wsX40)
def wsX4_place : List Cond := .code yX4_place cX4_place 4 (some .int) :: ([])
def wsX4_turnAt : List Cond := .code yX4_turnAt cX4_turnAt 2 (some .long) :: ([.fieldLink RX4 16 "BreakLinesModel" "marks" "[Z", .fieldLink RX4 20 "BreakLinesModel" "costs" "[J"] ++ wsX40)
def wsX4_restOf_r1 : List Cond := [Cond.fieldLink RX4 57 "BreakLinesModel" "bars" "I", Cond.fieldLink RX4 77 "BreakLinesModel" "due" "I", Cond.constantLong RX4 91 (4611686018427387904), Cond.constantLong RX4 93 (1024), Cond.fieldLink RX4 20 "BreakLinesModel" "costs" "[J", Cond.fieldLink RX4 46 "BreakLinesModel" "perPage" "I", Cond.fieldLink RX4 24 "BreakLinesModel" "rest" "[J", Cond.constantLong RX4 110 (32), Cond.methodLink RX4 95 yX4_mayBe, Cond.instanceMethod yX4_mayBe, Cond.selects RX4 yX4_mayBe yX4_mayBe, Cond.initialized RX4, Cond.code yX4_mayBe cX4_mayBe 4 (some .boolean), Cond.fieldLink RX4 16 "BreakLinesModel" "marks" "[Z", Cond.fieldLink RX4 7 "BreakLinesModel" "leasts" "[I", Cond.fieldLink RX4 42 "BreakLinesModel" "width" "I", Cond.methodLink RX4 80 yX4_total, Cond.instanceMethod yX4_total, Cond.selects RX4 yX4_total yX4_total, Cond.code yX4_total cX4_total 6 (some .int), Cond.methodLink RX4 98 yX4_costOf, Cond.instanceMethod yX4_costOf, Cond.selects RX4 yX4_costOf yX4_costOf, Cond.code yX4_costOf cX4_costOf 5 (some .long)]
def wsX4_restOf_r2 : List Cond := [Cond.methodLink RX4 84 yX4_off, Cond.instanceMethod yX4_off, Cond.selects RX4 yX4_off yX4_off, Cond.code yX4_off cX4_off 3 (some .int), Cond.fieldLink RX4 13 "BreakLinesModel" "wishes" "[I", Cond.methodLink RX4 88 yX4_isOver, Cond.instanceMethod yX4_isOver, Cond.selects RX4 yX4_isOver yX4_isOver, Cond.code yX4_isOver cX4_isOver 3 (some .boolean), Cond.methodLink RX4 102 yX4_place, Cond.static yX4_place, Cond.code yX4_place cX4_place 4 (some .int), Cond.methodLink RX4 106 yX4_turnAt, Cond.instanceMethod yX4_turnAt, Cond.selects RX4 yX4_turnAt yX4_turnAt, Cond.code yX4_turnAt cX4_turnAt 2 (some .long)]
def wsX4_restOf : List Cond := .code yX4_restOf cX4_restOf 17 (some .long) :: ((wsX4_restOf_r1 ++ wsX4_restOf_r2) ++ wsX40)
def wsX4_reaches_r1 : List Cond := [Cond.constantLong RX4 93 (1024), Cond.fieldLink RX4 36 "BreakLinesModel" "then" "[J", Cond.constantLong RX4 91 (4611686018427387904), Cond.constantLong RX4 110 (32), Cond.fieldLink RX4 33 "BreakLinesModel" "now" "[J", Cond.fieldLink RX4 46 "BreakLinesModel" "perPage" "I", Cond.fieldLink RX4 24 "BreakLinesModel" "rest" "[J", Cond.fieldLink RX4 77 "BreakLinesModel" "due" "I", Cond.fieldLink RX4 116 "BreakLinesModel" "best" "J", Cond.methodLink RX4 98 yX4_costOf, Cond.instanceMethod yX4_costOf, Cond.selects RX4 yX4_costOf yX4_costOf, Cond.initialized RX4, Cond.code yX4_costOf cX4_costOf 5 (some .long), Cond.fieldLink RX4 20 "BreakLinesModel" "costs" "[J", Cond.fieldLink RX4 57 "BreakLinesModel" "bars" "I", Cond.methodLink RX4 84 yX4_off, Cond.instanceMethod yX4_off, Cond.selects RX4 yX4_off yX4_off, Cond.code yX4_off cX4_off 3 (some .int), Cond.fieldLink RX4 42 "BreakLinesModel" "width" "I", Cond.fieldLink RX4 13 "BreakLinesModel" "wishes" "[I", Cond.methodLink RX4 80 yX4_total, Cond.instanceMethod yX4_total]
def wsX4_reaches_r2 : List Cond := [Cond.selects RX4 yX4_total yX4_total, Cond.code yX4_total cX4_total 6 (some .int), Cond.methodLink RX4 88 yX4_isOver, Cond.instanceMethod yX4_isOver, Cond.selects RX4 yX4_isOver yX4_isOver, Cond.code yX4_isOver cX4_isOver 3 (some .boolean), Cond.fieldLink RX4 7 "BreakLinesModel" "leasts" "[I", Cond.methodLink RX4 106 yX4_turnAt, Cond.instanceMethod yX4_turnAt, Cond.selects RX4 yX4_turnAt yX4_turnAt, Cond.code yX4_turnAt cX4_turnAt 2 (some .long), Cond.fieldLink RX4 16 "BreakLinesModel" "marks" "[Z", Cond.methodLink RX4 102 yX4_place, Cond.static yX4_place, Cond.code yX4_place cX4_place 4 (some .int)]
def wsX4_reaches : List Cond := .code yX4_reaches cX4_reaches 9 (some .boolean) :: ((wsX4_reaches_r1 ++ wsX4_reaches_r2) ++ wsX40)
def wsX4_pickLines_r1 : List Cond := [Cond.fieldLink RX4 57 "BreakLinesModel" "bars" "I", Cond.fieldLink RX4 122 "BreakLinesModel" "lineMany" "I", Cond.fieldLink RX4 27 "BreakLinesModel" "lineFrom" "[I", Cond.fieldLink RX4 33 "BreakLinesModel" "now" "[J", Cond.fieldLink RX4 36 "BreakLinesModel" "then" "[J", Cond.methodLink RX4 95 yX4_mayBe, Cond.instanceMethod yX4_mayBe, Cond.selects RX4 yX4_mayBe yX4_mayBe, Cond.initialized RX4, Cond.code yX4_mayBe cX4_mayBe 4 (some .boolean), Cond.fieldLink RX4 16 "BreakLinesModel" "marks" "[Z", Cond.fieldLink RX4 7 "BreakLinesModel" "leasts" "[I", Cond.fieldLink RX4 42 "BreakLinesModel" "width" "I", Cond.methodLink RX4 80 yX4_total, Cond.instanceMethod yX4_total, Cond.selects RX4 yX4_total yX4_total, Cond.code yX4_total cX4_total 6 (some .int), Cond.methodLink RX4 134 yX4_reaches, Cond.instanceMethod yX4_reaches, Cond.selects RX4 yX4_reaches yX4_reaches, Cond.code yX4_reaches cX4_reaches 9 (some .boolean), Cond.constantLong RX4 93 (1024), Cond.constantLong RX4 91 (4611686018427387904), Cond.constantLong RX4 110 (32)]
def wsX4_pickLines_r2 : List Cond := [Cond.fieldLink RX4 46 "BreakLinesModel" "perPage" "I", Cond.fieldLink RX4 24 "BreakLinesModel" "rest" "[J", Cond.fieldLink RX4 77 "BreakLinesModel" "due" "I", Cond.fieldLink RX4 116 "BreakLinesModel" "best" "J", Cond.methodLink RX4 98 yX4_costOf, Cond.instanceMethod yX4_costOf, Cond.selects RX4 yX4_costOf yX4_costOf, Cond.code yX4_costOf cX4_costOf 5 (some .long), Cond.fieldLink RX4 20 "BreakLinesModel" "costs" "[J", Cond.methodLink RX4 84 yX4_off, Cond.instanceMethod yX4_off, Cond.selects RX4 yX4_off yX4_off, Cond.code yX4_off cX4_off 3 (some .int), Cond.fieldLink RX4 13 "BreakLinesModel" "wishes" "[I", Cond.methodLink RX4 88 yX4_isOver, Cond.instanceMethod yX4_isOver, Cond.selects RX4 yX4_isOver yX4_isOver, Cond.code yX4_isOver cX4_isOver 3 (some .boolean), Cond.methodLink RX4 106 yX4_turnAt, Cond.instanceMethod yX4_turnAt, Cond.selects RX4 yX4_turnAt yX4_turnAt, Cond.code yX4_turnAt cX4_turnAt 2 (some .long), Cond.methodLink RX4 102 yX4_place, Cond.static yX4_place]
def wsX4_pickLines_r3 : List Cond := [Cond.code yX4_place cX4_place 4 (some .int)]
def wsX4_pickLines : List Cond := .code yX4_pickLines cX4_pickLines 4 none :: ((wsX4_pickLines_r1 ++ (wsX4_pickLines_r2 ++ wsX4_pickLines_r3)) ++ wsX40)
def wsX4_pageCost : List Cond := .code yX4_pageCost cX4_pageCost 3 (some .long) :: ([.fieldLink RX4 122 "BreakLinesModel" "lineMany" "I", .fieldLink RX4 20 "BreakLinesModel" "costs" "[J", .fieldLink RX4 27 "BreakLinesModel" "lineFrom" "[I", .methodLink RX4 106 yX4_turnAt, .instanceMethod yX4_turnAt, .selects RX4 yX4_turnAt yX4_turnAt, .initialized RX4, .code yX4_turnAt cX4_turnAt 2 (some .long), .fieldLink RX4 16 "BreakLinesModel" "marks" "[Z"] ++ wsX40)
def wsX4_pickPages : List Cond := .code yX4_pickPages cX4_pickPages 5 none :: ([.fieldLink RX4 39 "BreakLinesModel" "pages" "[J", .fieldLink RX4 122 "BreakLinesModel" "lineMany" "I", .constantLong RX4 91 (4611686018427387904), .fieldLink RX4 46 "BreakLinesModel" "perPage" "I", .constantLong RX4 93 (1024), .constantLong RX4 110 (32), .fieldLink RX4 30 "BreakLinesModel" "pageFrom" "[I", .fieldLink RX4 125 "BreakLinesModel" "pageMany" "I", .methodLink RX4 137 yX4_pageCost, .instanceMethod yX4_pageCost, .selects RX4 yX4_pageCost yX4_pageCost, .initialized RX4, .code yX4_pageCost cX4_pageCost 3 (some .long), .fieldLink RX4 20 "BreakLinesModel" "costs" "[J", .fieldLink RX4 27 "BreakLinesModel" "lineFrom" "[I", .methodLink RX4 106 yX4_turnAt, .instanceMethod yX4_turnAt, .selects RX4 yX4_turnAt yX4_turnAt, .code yX4_turnAt cX4_turnAt 2 (some .long), .fieldLink RX4 16 "BreakLinesModel" "marks" "[Z"] ++ wsX40)
def wsX4_find_r1 : List Cond := [Cond.fieldLink RX4 68 "BreakLinesModel" "known" "Z", Cond.fieldLink RX4 77 "BreakLinesModel" "due" "I", Cond.fieldLink RX4 57 "BreakLinesModel" "bars" "I", Cond.fieldLink RX4 46 "BreakLinesModel" "perPage" "I", Cond.fieldLink RX4 24 "BreakLinesModel" "rest" "[J", Cond.constantLong RX4 91 (4611686018427387904), Cond.fieldLink RX4 116 "BreakLinesModel" "best" "J", Cond.constantLong RX4 93 (1024), Cond.constantLong RX4 120 (33), Cond.fieldLink RX4 122 "BreakLinesModel" "lineMany" "I", Cond.fieldLink RX4 125 "BreakLinesModel" "pageMany" "I", Cond.methodLink RX4 102 yX4_place, Cond.static yX4_place, Cond.initialized RX4, Cond.code yX4_place cX4_place 4 (some .int), Cond.methodLink RX4 112 yX4_restOf, Cond.instanceMethod yX4_restOf, Cond.selects RX4 yX4_restOf yX4_restOf, Cond.code yX4_restOf cX4_restOf 17 (some .long), Cond.fieldLink RX4 20 "BreakLinesModel" "costs" "[J", Cond.constantLong RX4 110 (32), Cond.methodLink RX4 95 yX4_mayBe, Cond.instanceMethod yX4_mayBe, Cond.selects RX4 yX4_mayBe yX4_mayBe]
def wsX4_find_r2 : List Cond := [Cond.code yX4_mayBe cX4_mayBe 4 (some .boolean), Cond.fieldLink RX4 16 "BreakLinesModel" "marks" "[Z", Cond.fieldLink RX4 7 "BreakLinesModel" "leasts" "[I", Cond.fieldLink RX4 42 "BreakLinesModel" "width" "I", Cond.methodLink RX4 80 yX4_total, Cond.instanceMethod yX4_total, Cond.selects RX4 yX4_total yX4_total, Cond.code yX4_total cX4_total 6 (some .int), Cond.methodLink RX4 98 yX4_costOf, Cond.instanceMethod yX4_costOf, Cond.selects RX4 yX4_costOf yX4_costOf, Cond.code yX4_costOf cX4_costOf 5 (some .long), Cond.methodLink RX4 84 yX4_off, Cond.instanceMethod yX4_off, Cond.selects RX4 yX4_off yX4_off, Cond.code yX4_off cX4_off 3 (some .int), Cond.fieldLink RX4 13 "BreakLinesModel" "wishes" "[I", Cond.methodLink RX4 88 yX4_isOver, Cond.instanceMethod yX4_isOver, Cond.selects RX4 yX4_isOver yX4_isOver, Cond.code yX4_isOver cX4_isOver 3 (some .boolean), Cond.methodLink RX4 106 yX4_turnAt, Cond.instanceMethod yX4_turnAt, Cond.selects RX4 yX4_turnAt yX4_turnAt]
def wsX4_find_r3 : List Cond := [Cond.code yX4_turnAt cX4_turnAt 2 (some .long), Cond.methodLink RX4 128 yX4_pickLines, Cond.instanceMethod yX4_pickLines, Cond.selects RX4 yX4_pickLines yX4_pickLines, Cond.code yX4_pickLines cX4_pickLines 4 none, Cond.fieldLink RX4 27 "BreakLinesModel" "lineFrom" "[I", Cond.fieldLink RX4 33 "BreakLinesModel" "now" "[J", Cond.fieldLink RX4 36 "BreakLinesModel" "then" "[J", Cond.methodLink RX4 134 yX4_reaches, Cond.instanceMethod yX4_reaches, Cond.selects RX4 yX4_reaches yX4_reaches, Cond.code yX4_reaches cX4_reaches 9 (some .boolean), Cond.methodLink RX4 131 yX4_pickPages, Cond.instanceMethod yX4_pickPages, Cond.selects RX4 yX4_pickPages yX4_pickPages, Cond.code yX4_pickPages cX4_pickPages 5 none, Cond.fieldLink RX4 39 "BreakLinesModel" "pages" "[J", Cond.fieldLink RX4 30 "BreakLinesModel" "pageFrom" "[I", Cond.methodLink RX4 137 yX4_pageCost, Cond.instanceMethod yX4_pageCost, Cond.selects RX4 yX4_pageCost yX4_pageCost, Cond.code yX4_pageCost cX4_pageCost 3 (some .long)]
def wsX4_find : List Cond := .code yX4_find cX4_find 8 none :: ((wsX4_find_r1 ++ (wsX4_find_r2 ++ wsX4_find_r3)) ++ wsX40)
def wsX4_isThere_r1 : List Cond := [Cond.fieldLink RX4 116 "BreakLinesModel" "best" "J", Cond.constantLong RX4 91 (4611686018427387904), Cond.methodLink RX4 140 yX4_find, Cond.instanceMethod yX4_find, Cond.selects RX4 yX4_find yX4_find, Cond.initialized RX4, Cond.code yX4_find cX4_find 8 none, Cond.fieldLink RX4 68 "BreakLinesModel" "known" "Z", Cond.fieldLink RX4 77 "BreakLinesModel" "due" "I", Cond.fieldLink RX4 57 "BreakLinesModel" "bars" "I", Cond.fieldLink RX4 46 "BreakLinesModel" "perPage" "I", Cond.fieldLink RX4 24 "BreakLinesModel" "rest" "[J", Cond.constantLong RX4 93 (1024), Cond.constantLong RX4 120 (33), Cond.fieldLink RX4 122 "BreakLinesModel" "lineMany" "I", Cond.fieldLink RX4 125 "BreakLinesModel" "pageMany" "I", Cond.methodLink RX4 102 yX4_place, Cond.static yX4_place, Cond.code yX4_place cX4_place 4 (some .int), Cond.methodLink RX4 112 yX4_restOf, Cond.instanceMethod yX4_restOf, Cond.selects RX4 yX4_restOf yX4_restOf, Cond.code yX4_restOf cX4_restOf 17 (some .long), Cond.fieldLink RX4 20 "BreakLinesModel" "costs" "[J"]
def wsX4_isThere_r2 : List Cond := [Cond.constantLong RX4 110 (32), Cond.methodLink RX4 95 yX4_mayBe, Cond.instanceMethod yX4_mayBe, Cond.selects RX4 yX4_mayBe yX4_mayBe, Cond.code yX4_mayBe cX4_mayBe 4 (some .boolean), Cond.fieldLink RX4 16 "BreakLinesModel" "marks" "[Z", Cond.fieldLink RX4 7 "BreakLinesModel" "leasts" "[I", Cond.fieldLink RX4 42 "BreakLinesModel" "width" "I", Cond.methodLink RX4 80 yX4_total, Cond.instanceMethod yX4_total, Cond.selects RX4 yX4_total yX4_total, Cond.code yX4_total cX4_total 6 (some .int), Cond.methodLink RX4 98 yX4_costOf, Cond.instanceMethod yX4_costOf, Cond.selects RX4 yX4_costOf yX4_costOf, Cond.code yX4_costOf cX4_costOf 5 (some .long), Cond.methodLink RX4 84 yX4_off, Cond.instanceMethod yX4_off, Cond.selects RX4 yX4_off yX4_off, Cond.code yX4_off cX4_off 3 (some .int), Cond.fieldLink RX4 13 "BreakLinesModel" "wishes" "[I", Cond.methodLink RX4 88 yX4_isOver, Cond.instanceMethod yX4_isOver, Cond.selects RX4 yX4_isOver yX4_isOver]
def wsX4_isThere_r3 : List Cond := [Cond.code yX4_isOver cX4_isOver 3 (some .boolean), Cond.methodLink RX4 106 yX4_turnAt, Cond.instanceMethod yX4_turnAt, Cond.selects RX4 yX4_turnAt yX4_turnAt, Cond.code yX4_turnAt cX4_turnAt 2 (some .long), Cond.methodLink RX4 128 yX4_pickLines, Cond.instanceMethod yX4_pickLines, Cond.selects RX4 yX4_pickLines yX4_pickLines, Cond.code yX4_pickLines cX4_pickLines 4 none, Cond.fieldLink RX4 27 "BreakLinesModel" "lineFrom" "[I", Cond.fieldLink RX4 33 "BreakLinesModel" "now" "[J", Cond.fieldLink RX4 36 "BreakLinesModel" "then" "[J", Cond.methodLink RX4 134 yX4_reaches, Cond.instanceMethod yX4_reaches, Cond.selects RX4 yX4_reaches yX4_reaches, Cond.code yX4_reaches cX4_reaches 9 (some .boolean), Cond.methodLink RX4 131 yX4_pickPages, Cond.instanceMethod yX4_pickPages, Cond.selects RX4 yX4_pickPages yX4_pickPages, Cond.code yX4_pickPages cX4_pickPages 5 none, Cond.fieldLink RX4 39 "BreakLinesModel" "pages" "[J", Cond.fieldLink RX4 30 "BreakLinesModel" "pageFrom" "[I", Cond.methodLink RX4 137 yX4_pageCost, Cond.instanceMethod yX4_pageCost]
def wsX4_isThere_r4 : List Cond := [Cond.selects RX4 yX4_pageCost yX4_pageCost, Cond.code yX4_pageCost cX4_pageCost 3 (some .long)]
def wsX4_isThere : List Cond := .code yX4_isThere cX4_isThere 1 (some .boolean) :: ((wsX4_isThere_r1 ++ (wsX4_isThere_r2 ++ (wsX4_isThere_r3 ++ wsX4_isThere_r4))) ++ wsX40)
def wsX4_lines_r1 : List Cond := [Cond.fieldLink RX4 122 "BreakLinesModel" "lineMany" "I", Cond.methodLink RX4 143 yX4_isThere, Cond.instanceMethod yX4_isThere, Cond.selects RX4 yX4_isThere yX4_isThere, Cond.initialized RX4, Cond.code yX4_isThere cX4_isThere 1 (some .boolean), Cond.fieldLink RX4 116 "BreakLinesModel" "best" "J", Cond.constantLong RX4 91 (4611686018427387904), Cond.methodLink RX4 140 yX4_find, Cond.instanceMethod yX4_find, Cond.selects RX4 yX4_find yX4_find, Cond.code yX4_find cX4_find 8 none, Cond.fieldLink RX4 68 "BreakLinesModel" "known" "Z", Cond.fieldLink RX4 77 "BreakLinesModel" "due" "I", Cond.fieldLink RX4 57 "BreakLinesModel" "bars" "I", Cond.fieldLink RX4 46 "BreakLinesModel" "perPage" "I", Cond.fieldLink RX4 24 "BreakLinesModel" "rest" "[J", Cond.constantLong RX4 93 (1024), Cond.constantLong RX4 120 (33), Cond.fieldLink RX4 125 "BreakLinesModel" "pageMany" "I", Cond.methodLink RX4 102 yX4_place, Cond.static yX4_place, Cond.code yX4_place cX4_place 4 (some .int), Cond.methodLink RX4 112 yX4_restOf]
def wsX4_lines_r2 : List Cond := [Cond.instanceMethod yX4_restOf, Cond.selects RX4 yX4_restOf yX4_restOf, Cond.code yX4_restOf cX4_restOf 17 (some .long), Cond.fieldLink RX4 20 "BreakLinesModel" "costs" "[J", Cond.constantLong RX4 110 (32), Cond.methodLink RX4 95 yX4_mayBe, Cond.instanceMethod yX4_mayBe, Cond.selects RX4 yX4_mayBe yX4_mayBe, Cond.code yX4_mayBe cX4_mayBe 4 (some .boolean), Cond.fieldLink RX4 16 "BreakLinesModel" "marks" "[Z", Cond.fieldLink RX4 7 "BreakLinesModel" "leasts" "[I", Cond.fieldLink RX4 42 "BreakLinesModel" "width" "I", Cond.methodLink RX4 80 yX4_total, Cond.instanceMethod yX4_total, Cond.selects RX4 yX4_total yX4_total, Cond.code yX4_total cX4_total 6 (some .int), Cond.methodLink RX4 98 yX4_costOf, Cond.instanceMethod yX4_costOf, Cond.selects RX4 yX4_costOf yX4_costOf, Cond.code yX4_costOf cX4_costOf 5 (some .long), Cond.methodLink RX4 84 yX4_off, Cond.instanceMethod yX4_off, Cond.selects RX4 yX4_off yX4_off, Cond.code yX4_off cX4_off 3 (some .int)]
def wsX4_lines_r3 : List Cond := [Cond.fieldLink RX4 13 "BreakLinesModel" "wishes" "[I", Cond.methodLink RX4 88 yX4_isOver, Cond.instanceMethod yX4_isOver, Cond.selects RX4 yX4_isOver yX4_isOver, Cond.code yX4_isOver cX4_isOver 3 (some .boolean), Cond.methodLink RX4 106 yX4_turnAt, Cond.instanceMethod yX4_turnAt, Cond.selects RX4 yX4_turnAt yX4_turnAt, Cond.code yX4_turnAt cX4_turnAt 2 (some .long), Cond.methodLink RX4 128 yX4_pickLines, Cond.instanceMethod yX4_pickLines, Cond.selects RX4 yX4_pickLines yX4_pickLines, Cond.code yX4_pickLines cX4_pickLines 4 none, Cond.fieldLink RX4 27 "BreakLinesModel" "lineFrom" "[I", Cond.fieldLink RX4 33 "BreakLinesModel" "now" "[J", Cond.fieldLink RX4 36 "BreakLinesModel" "then" "[J", Cond.methodLink RX4 134 yX4_reaches, Cond.instanceMethod yX4_reaches, Cond.selects RX4 yX4_reaches yX4_reaches, Cond.code yX4_reaches cX4_reaches 9 (some .boolean), Cond.methodLink RX4 131 yX4_pickPages, Cond.instanceMethod yX4_pickPages, Cond.selects RX4 yX4_pickPages yX4_pickPages, Cond.code yX4_pickPages cX4_pickPages 5 none]
def wsX4_lines_r4 : List Cond := [Cond.fieldLink RX4 39 "BreakLinesModel" "pages" "[J", Cond.fieldLink RX4 30 "BreakLinesModel" "pageFrom" "[I", Cond.methodLink RX4 137 yX4_pageCost, Cond.instanceMethod yX4_pageCost, Cond.selects RX4 yX4_pageCost yX4_pageCost, Cond.code yX4_pageCost cX4_pageCost 3 (some .long)]
def wsX4_lines : List Cond := .code yX4_lines cX4_lines 1 (some .int) :: ((wsX4_lines_r1 ++ (wsX4_lines_r2 ++ (wsX4_lines_r3 ++ wsX4_lines_r4))) ++ wsX40)
def wsX4_pages_r1 : List Cond := [Cond.fieldLink RX4 125 "BreakLinesModel" "pageMany" "I", Cond.methodLink RX4 143 yX4_isThere, Cond.instanceMethod yX4_isThere, Cond.selects RX4 yX4_isThere yX4_isThere, Cond.initialized RX4, Cond.code yX4_isThere cX4_isThere 1 (some .boolean), Cond.fieldLink RX4 116 "BreakLinesModel" "best" "J", Cond.constantLong RX4 91 (4611686018427387904), Cond.methodLink RX4 140 yX4_find, Cond.instanceMethod yX4_find, Cond.selects RX4 yX4_find yX4_find, Cond.code yX4_find cX4_find 8 none, Cond.fieldLink RX4 68 "BreakLinesModel" "known" "Z", Cond.fieldLink RX4 77 "BreakLinesModel" "due" "I", Cond.fieldLink RX4 57 "BreakLinesModel" "bars" "I", Cond.fieldLink RX4 46 "BreakLinesModel" "perPage" "I", Cond.fieldLink RX4 24 "BreakLinesModel" "rest" "[J", Cond.constantLong RX4 93 (1024), Cond.constantLong RX4 120 (33), Cond.fieldLink RX4 122 "BreakLinesModel" "lineMany" "I", Cond.methodLink RX4 102 yX4_place, Cond.static yX4_place, Cond.code yX4_place cX4_place 4 (some .int), Cond.methodLink RX4 112 yX4_restOf]
def wsX4_pages_r2 : List Cond := [Cond.instanceMethod yX4_restOf, Cond.selects RX4 yX4_restOf yX4_restOf, Cond.code yX4_restOf cX4_restOf 17 (some .long), Cond.fieldLink RX4 20 "BreakLinesModel" "costs" "[J", Cond.constantLong RX4 110 (32), Cond.methodLink RX4 95 yX4_mayBe, Cond.instanceMethod yX4_mayBe, Cond.selects RX4 yX4_mayBe yX4_mayBe, Cond.code yX4_mayBe cX4_mayBe 4 (some .boolean), Cond.fieldLink RX4 16 "BreakLinesModel" "marks" "[Z", Cond.fieldLink RX4 7 "BreakLinesModel" "leasts" "[I", Cond.fieldLink RX4 42 "BreakLinesModel" "width" "I", Cond.methodLink RX4 80 yX4_total, Cond.instanceMethod yX4_total, Cond.selects RX4 yX4_total yX4_total, Cond.code yX4_total cX4_total 6 (some .int), Cond.methodLink RX4 98 yX4_costOf, Cond.instanceMethod yX4_costOf, Cond.selects RX4 yX4_costOf yX4_costOf, Cond.code yX4_costOf cX4_costOf 5 (some .long), Cond.methodLink RX4 84 yX4_off, Cond.instanceMethod yX4_off, Cond.selects RX4 yX4_off yX4_off, Cond.code yX4_off cX4_off 3 (some .int)]
def wsX4_pages_r3 : List Cond := [Cond.fieldLink RX4 13 "BreakLinesModel" "wishes" "[I", Cond.methodLink RX4 88 yX4_isOver, Cond.instanceMethod yX4_isOver, Cond.selects RX4 yX4_isOver yX4_isOver, Cond.code yX4_isOver cX4_isOver 3 (some .boolean), Cond.methodLink RX4 106 yX4_turnAt, Cond.instanceMethod yX4_turnAt, Cond.selects RX4 yX4_turnAt yX4_turnAt, Cond.code yX4_turnAt cX4_turnAt 2 (some .long), Cond.methodLink RX4 128 yX4_pickLines, Cond.instanceMethod yX4_pickLines, Cond.selects RX4 yX4_pickLines yX4_pickLines, Cond.code yX4_pickLines cX4_pickLines 4 none, Cond.fieldLink RX4 27 "BreakLinesModel" "lineFrom" "[I", Cond.fieldLink RX4 33 "BreakLinesModel" "now" "[J", Cond.fieldLink RX4 36 "BreakLinesModel" "then" "[J", Cond.methodLink RX4 134 yX4_reaches, Cond.instanceMethod yX4_reaches, Cond.selects RX4 yX4_reaches yX4_reaches, Cond.code yX4_reaches cX4_reaches 9 (some .boolean), Cond.methodLink RX4 131 yX4_pickPages, Cond.instanceMethod yX4_pickPages, Cond.selects RX4 yX4_pickPages yX4_pickPages, Cond.code yX4_pickPages cX4_pickPages 5 none]
def wsX4_pages_r4 : List Cond := [Cond.fieldLink RX4 39 "BreakLinesModel" "pages" "[J", Cond.fieldLink RX4 30 "BreakLinesModel" "pageFrom" "[I", Cond.methodLink RX4 137 yX4_pageCost, Cond.instanceMethod yX4_pageCost, Cond.selects RX4 yX4_pageCost yX4_pageCost, Cond.code yX4_pageCost cX4_pageCost 3 (some .long)]
def wsX4_pages : List Cond := .code yX4_pages cX4_pages 1 (some .int) :: ((wsX4_pages_r1 ++ (wsX4_pages_r2 ++ (wsX4_pages_r3 ++ wsX4_pages_r4))) ++ wsX40)
def wsX4_sum_r1 : List Cond := [Cond.fieldLink RX4 116 "BreakLinesModel" "best" "J", Cond.constantLong RX4 93 (1024), Cond.constantLong RX4 147 (-1), Cond.methodLink RX4 143 yX4_isThere, Cond.instanceMethod yX4_isThere, Cond.selects RX4 yX4_isThere yX4_isThere, Cond.initialized RX4, Cond.code yX4_isThere cX4_isThere 1 (some .boolean), Cond.constantLong RX4 91 (4611686018427387904), Cond.methodLink RX4 140 yX4_find, Cond.instanceMethod yX4_find, Cond.selects RX4 yX4_find yX4_find, Cond.code yX4_find cX4_find 8 none, Cond.fieldLink RX4 68 "BreakLinesModel" "known" "Z", Cond.fieldLink RX4 77 "BreakLinesModel" "due" "I", Cond.fieldLink RX4 57 "BreakLinesModel" "bars" "I", Cond.fieldLink RX4 46 "BreakLinesModel" "perPage" "I", Cond.fieldLink RX4 24 "BreakLinesModel" "rest" "[J", Cond.constantLong RX4 120 (33), Cond.fieldLink RX4 122 "BreakLinesModel" "lineMany" "I", Cond.fieldLink RX4 125 "BreakLinesModel" "pageMany" "I", Cond.methodLink RX4 102 yX4_place, Cond.static yX4_place, Cond.code yX4_place cX4_place 4 (some .int)]
def wsX4_sum_r2 : List Cond := [Cond.methodLink RX4 112 yX4_restOf, Cond.instanceMethod yX4_restOf, Cond.selects RX4 yX4_restOf yX4_restOf, Cond.code yX4_restOf cX4_restOf 17 (some .long), Cond.fieldLink RX4 20 "BreakLinesModel" "costs" "[J", Cond.constantLong RX4 110 (32), Cond.methodLink RX4 95 yX4_mayBe, Cond.instanceMethod yX4_mayBe, Cond.selects RX4 yX4_mayBe yX4_mayBe, Cond.code yX4_mayBe cX4_mayBe 4 (some .boolean), Cond.fieldLink RX4 16 "BreakLinesModel" "marks" "[Z", Cond.fieldLink RX4 7 "BreakLinesModel" "leasts" "[I", Cond.fieldLink RX4 42 "BreakLinesModel" "width" "I", Cond.methodLink RX4 80 yX4_total, Cond.instanceMethod yX4_total, Cond.selects RX4 yX4_total yX4_total, Cond.code yX4_total cX4_total 6 (some .int), Cond.methodLink RX4 98 yX4_costOf, Cond.instanceMethod yX4_costOf, Cond.selects RX4 yX4_costOf yX4_costOf, Cond.code yX4_costOf cX4_costOf 5 (some .long), Cond.methodLink RX4 84 yX4_off, Cond.instanceMethod yX4_off, Cond.selects RX4 yX4_off yX4_off]
def wsX4_sum_r3 : List Cond := [Cond.code yX4_off cX4_off 3 (some .int), Cond.fieldLink RX4 13 "BreakLinesModel" "wishes" "[I", Cond.methodLink RX4 88 yX4_isOver, Cond.instanceMethod yX4_isOver, Cond.selects RX4 yX4_isOver yX4_isOver, Cond.code yX4_isOver cX4_isOver 3 (some .boolean), Cond.methodLink RX4 106 yX4_turnAt, Cond.instanceMethod yX4_turnAt, Cond.selects RX4 yX4_turnAt yX4_turnAt, Cond.code yX4_turnAt cX4_turnAt 2 (some .long), Cond.methodLink RX4 128 yX4_pickLines, Cond.instanceMethod yX4_pickLines, Cond.selects RX4 yX4_pickLines yX4_pickLines, Cond.code yX4_pickLines cX4_pickLines 4 none, Cond.fieldLink RX4 27 "BreakLinesModel" "lineFrom" "[I", Cond.fieldLink RX4 33 "BreakLinesModel" "now" "[J", Cond.fieldLink RX4 36 "BreakLinesModel" "then" "[J", Cond.methodLink RX4 134 yX4_reaches, Cond.instanceMethod yX4_reaches, Cond.selects RX4 yX4_reaches yX4_reaches, Cond.code yX4_reaches cX4_reaches 9 (some .boolean), Cond.methodLink RX4 131 yX4_pickPages, Cond.instanceMethod yX4_pickPages, Cond.selects RX4 yX4_pickPages yX4_pickPages]
def wsX4_sum_r4 : List Cond := [Cond.code yX4_pickPages cX4_pickPages 5 none, Cond.fieldLink RX4 39 "BreakLinesModel" "pages" "[J", Cond.fieldLink RX4 30 "BreakLinesModel" "pageFrom" "[I", Cond.methodLink RX4 137 yX4_pageCost, Cond.instanceMethod yX4_pageCost, Cond.selects RX4 yX4_pageCost yX4_pageCost, Cond.code yX4_pageCost cX4_pageCost 3 (some .long)]
def wsX4_sum : List Cond := .code yX4_sum cX4_sum 1 (some .long) :: ((wsX4_sum_r1 ++ (wsX4_sum_r2 ++ (wsX4_sum_r3 ++ wsX4_sum_r4))) ++ wsX40)
def wsX4_pageOf : List Cond := .code yX4_pageOf cX4_pageOf 3 (some .int) :: ([.fieldLink RX4 30 "BreakLinesModel" "pageFrom" "[I"] ++ wsX40)
def wsX4_lineOf : List Cond := .code yX4_lineOf cX4_lineOf 3 (some .int) :: ([.fieldLink RX4 27 "BreakLinesModel" "lineFrom" "[I"] ++ wsX40)
def wsX4_line_r1 : List Cond := [Cond.fieldLink RX4 122 "BreakLinesModel" "lineMany" "I", Cond.fieldLink RX4 27 "BreakLinesModel" "lineFrom" "[I", Cond.constant RX4 76 (1000000), Cond.methodLink RX4 143 yX4_isThere, Cond.instanceMethod yX4_isThere, Cond.selects RX4 yX4_isThere yX4_isThere, Cond.initialized RX4, Cond.code yX4_isThere cX4_isThere 1 (some .boolean), Cond.fieldLink RX4 116 "BreakLinesModel" "best" "J", Cond.constantLong RX4 91 (4611686018427387904), Cond.methodLink RX4 140 yX4_find, Cond.instanceMethod yX4_find, Cond.selects RX4 yX4_find yX4_find, Cond.code yX4_find cX4_find 8 none, Cond.fieldLink RX4 68 "BreakLinesModel" "known" "Z", Cond.fieldLink RX4 77 "BreakLinesModel" "due" "I", Cond.fieldLink RX4 57 "BreakLinesModel" "bars" "I", Cond.fieldLink RX4 46 "BreakLinesModel" "perPage" "I", Cond.fieldLink RX4 24 "BreakLinesModel" "rest" "[J", Cond.constantLong RX4 93 (1024), Cond.constantLong RX4 120 (33), Cond.fieldLink RX4 125 "BreakLinesModel" "pageMany" "I", Cond.methodLink RX4 102 yX4_place, Cond.static yX4_place]
def wsX4_line_r2 : List Cond := [Cond.code yX4_place cX4_place 4 (some .int), Cond.methodLink RX4 112 yX4_restOf, Cond.instanceMethod yX4_restOf, Cond.selects RX4 yX4_restOf yX4_restOf, Cond.code yX4_restOf cX4_restOf 17 (some .long), Cond.fieldLink RX4 20 "BreakLinesModel" "costs" "[J", Cond.constantLong RX4 110 (32), Cond.methodLink RX4 95 yX4_mayBe, Cond.instanceMethod yX4_mayBe, Cond.selects RX4 yX4_mayBe yX4_mayBe, Cond.code yX4_mayBe cX4_mayBe 4 (some .boolean), Cond.fieldLink RX4 16 "BreakLinesModel" "marks" "[Z", Cond.fieldLink RX4 7 "BreakLinesModel" "leasts" "[I", Cond.fieldLink RX4 42 "BreakLinesModel" "width" "I", Cond.methodLink RX4 80 yX4_total, Cond.instanceMethod yX4_total, Cond.selects RX4 yX4_total yX4_total, Cond.code yX4_total cX4_total 6 (some .int), Cond.methodLink RX4 98 yX4_costOf, Cond.instanceMethod yX4_costOf, Cond.selects RX4 yX4_costOf yX4_costOf, Cond.code yX4_costOf cX4_costOf 5 (some .long), Cond.methodLink RX4 84 yX4_off, Cond.instanceMethod yX4_off]
def wsX4_line_r3 : List Cond := [Cond.selects RX4 yX4_off yX4_off, Cond.code yX4_off cX4_off 3 (some .int), Cond.fieldLink RX4 13 "BreakLinesModel" "wishes" "[I", Cond.methodLink RX4 88 yX4_isOver, Cond.instanceMethod yX4_isOver, Cond.selects RX4 yX4_isOver yX4_isOver, Cond.code yX4_isOver cX4_isOver 3 (some .boolean), Cond.methodLink RX4 106 yX4_turnAt, Cond.instanceMethod yX4_turnAt, Cond.selects RX4 yX4_turnAt yX4_turnAt, Cond.code yX4_turnAt cX4_turnAt 2 (some .long), Cond.methodLink RX4 128 yX4_pickLines, Cond.instanceMethod yX4_pickLines, Cond.selects RX4 yX4_pickLines yX4_pickLines, Cond.code yX4_pickLines cX4_pickLines 4 none, Cond.fieldLink RX4 33 "BreakLinesModel" "now" "[J", Cond.fieldLink RX4 36 "BreakLinesModel" "then" "[J", Cond.methodLink RX4 134 yX4_reaches, Cond.instanceMethod yX4_reaches, Cond.selects RX4 yX4_reaches yX4_reaches, Cond.code yX4_reaches cX4_reaches 9 (some .boolean), Cond.methodLink RX4 131 yX4_pickPages, Cond.instanceMethod yX4_pickPages, Cond.selects RX4 yX4_pickPages yX4_pickPages]
def wsX4_line_r4 : List Cond := [Cond.code yX4_pickPages cX4_pickPages 5 none, Cond.fieldLink RX4 39 "BreakLinesModel" "pages" "[J", Cond.fieldLink RX4 30 "BreakLinesModel" "pageFrom" "[I", Cond.methodLink RX4 137 yX4_pageCost, Cond.instanceMethod yX4_pageCost, Cond.selects RX4 yX4_pageCost yX4_pageCost, Cond.code yX4_pageCost cX4_pageCost 3 (some .long), Cond.methodLink RX4 60 yX4_in, Cond.static yX4_in, Cond.code yX4_in cX4_in 3 (some .boolean), Cond.methodLink RX4 149 yX4_pageOf, Cond.instanceMethod yX4_pageOf, Cond.selects RX4 yX4_pageOf yX4_pageOf, Cond.code yX4_pageOf cX4_pageOf 3 (some .int)]
def wsX4_line : List Cond := .code yX4_line cX4_line 3 (some .int) :: ((wsX4_line_r1 ++ (wsX4_line_r2 ++ (wsX4_line_r3 ++ wsX4_line_r4))) ++ wsX40)
def wsX4_page_r1 : List Cond := [Cond.fieldLink RX4 125 "BreakLinesModel" "pageMany" "I", Cond.fieldLink RX4 30 "BreakLinesModel" "pageFrom" "[I", Cond.methodLink RX4 143 yX4_isThere, Cond.instanceMethod yX4_isThere, Cond.selects RX4 yX4_isThere yX4_isThere, Cond.initialized RX4, Cond.code yX4_isThere cX4_isThere 1 (some .boolean), Cond.fieldLink RX4 116 "BreakLinesModel" "best" "J", Cond.constantLong RX4 91 (4611686018427387904), Cond.methodLink RX4 140 yX4_find, Cond.instanceMethod yX4_find, Cond.selects RX4 yX4_find yX4_find, Cond.code yX4_find cX4_find 8 none, Cond.fieldLink RX4 68 "BreakLinesModel" "known" "Z", Cond.fieldLink RX4 77 "BreakLinesModel" "due" "I", Cond.fieldLink RX4 57 "BreakLinesModel" "bars" "I", Cond.fieldLink RX4 46 "BreakLinesModel" "perPage" "I", Cond.fieldLink RX4 24 "BreakLinesModel" "rest" "[J", Cond.constantLong RX4 93 (1024), Cond.constantLong RX4 120 (33), Cond.fieldLink RX4 122 "BreakLinesModel" "lineMany" "I", Cond.methodLink RX4 102 yX4_place, Cond.static yX4_place, Cond.code yX4_place cX4_place 4 (some .int)]
def wsX4_page_r2 : List Cond := [Cond.methodLink RX4 112 yX4_restOf, Cond.instanceMethod yX4_restOf, Cond.selects RX4 yX4_restOf yX4_restOf, Cond.code yX4_restOf cX4_restOf 17 (some .long), Cond.fieldLink RX4 20 "BreakLinesModel" "costs" "[J", Cond.constantLong RX4 110 (32), Cond.methodLink RX4 95 yX4_mayBe, Cond.instanceMethod yX4_mayBe, Cond.selects RX4 yX4_mayBe yX4_mayBe, Cond.code yX4_mayBe cX4_mayBe 4 (some .boolean), Cond.fieldLink RX4 16 "BreakLinesModel" "marks" "[Z", Cond.fieldLink RX4 7 "BreakLinesModel" "leasts" "[I", Cond.fieldLink RX4 42 "BreakLinesModel" "width" "I", Cond.methodLink RX4 80 yX4_total, Cond.instanceMethod yX4_total, Cond.selects RX4 yX4_total yX4_total, Cond.code yX4_total cX4_total 6 (some .int), Cond.methodLink RX4 98 yX4_costOf, Cond.instanceMethod yX4_costOf, Cond.selects RX4 yX4_costOf yX4_costOf, Cond.code yX4_costOf cX4_costOf 5 (some .long), Cond.methodLink RX4 84 yX4_off, Cond.instanceMethod yX4_off, Cond.selects RX4 yX4_off yX4_off]
def wsX4_page_r3 : List Cond := [Cond.code yX4_off cX4_off 3 (some .int), Cond.fieldLink RX4 13 "BreakLinesModel" "wishes" "[I", Cond.methodLink RX4 88 yX4_isOver, Cond.instanceMethod yX4_isOver, Cond.selects RX4 yX4_isOver yX4_isOver, Cond.code yX4_isOver cX4_isOver 3 (some .boolean), Cond.methodLink RX4 106 yX4_turnAt, Cond.instanceMethod yX4_turnAt, Cond.selects RX4 yX4_turnAt yX4_turnAt, Cond.code yX4_turnAt cX4_turnAt 2 (some .long), Cond.methodLink RX4 128 yX4_pickLines, Cond.instanceMethod yX4_pickLines, Cond.selects RX4 yX4_pickLines yX4_pickLines, Cond.code yX4_pickLines cX4_pickLines 4 none, Cond.fieldLink RX4 27 "BreakLinesModel" "lineFrom" "[I", Cond.fieldLink RX4 33 "BreakLinesModel" "now" "[J", Cond.fieldLink RX4 36 "BreakLinesModel" "then" "[J", Cond.methodLink RX4 134 yX4_reaches, Cond.instanceMethod yX4_reaches, Cond.selects RX4 yX4_reaches yX4_reaches, Cond.code yX4_reaches cX4_reaches 9 (some .boolean), Cond.methodLink RX4 131 yX4_pickPages, Cond.instanceMethod yX4_pickPages, Cond.selects RX4 yX4_pickPages yX4_pickPages]
def wsX4_page_r4 : List Cond := [Cond.code yX4_pickPages cX4_pickPages 5 none, Cond.fieldLink RX4 39 "BreakLinesModel" "pages" "[J", Cond.methodLink RX4 137 yX4_pageCost, Cond.instanceMethod yX4_pageCost, Cond.selects RX4 yX4_pageCost yX4_pageCost, Cond.code yX4_pageCost cX4_pageCost 3 (some .long), Cond.methodLink RX4 60 yX4_in, Cond.static yX4_in, Cond.code yX4_in cX4_in 3 (some .boolean)]
def wsX4_page : List Cond := .code yX4_page cX4_page 3 (some .int) :: ((wsX4_page_r1 ++ (wsX4_page_r2 ++ (wsX4_page_r3 ++ wsX4_page_r4))) ++ wsX40)
def wsX4_wide : List Cond := .code yX4_wide cX4_wide 15 (some .int) :: ([.fieldLink RX4 7 "BreakLinesModel" "leasts" "[I", .fieldLink RX4 13 "BreakLinesModel" "wishes" "[I", .methodLink RX4 88 yX4_isOver, .instanceMethod yX4_isOver, .selects RX4 yX4_isOver yX4_isOver, .initialized RX4, .code yX4_isOver cX4_isOver 3 (some .boolean), .fieldLink RX4 42 "BreakLinesModel" "width" "I", .methodLink RX4 80 yX4_total, .instanceMethod yX4_total, .selects RX4 yX4_total yX4_total, .code yX4_total cX4_total 6 (some .int), .methodLink RX4 84 yX4_off, .instanceMethod yX4_off, .selects RX4 yX4_off yX4_off, .code yX4_off cX4_off 3 (some .int)] ++ wsX40)
def wsX4_set_r1 : List Cond := [Cond.fieldLink RX4 27 "BreakLinesModel" "lineFrom" "[I", Cond.methodLink RX4 72 yX4_isBar, Cond.instanceMethod yX4_isBar, Cond.selects RX4 yX4_isBar yX4_isBar, Cond.initialized RX4, Cond.code yX4_isBar cX4_isBar 2 (some .boolean), Cond.fieldLink RX4 57 "BreakLinesModel" "bars" "I", Cond.methodLink RX4 60 yX4_in, Cond.static yX4_in, Cond.code yX4_in cX4_in 3 (some .boolean), Cond.methodLink RX4 143 yX4_isThere, Cond.instanceMethod yX4_isThere, Cond.selects RX4 yX4_isThere yX4_isThere, Cond.code yX4_isThere cX4_isThere 1 (some .boolean), Cond.fieldLink RX4 116 "BreakLinesModel" "best" "J", Cond.constantLong RX4 91 (4611686018427387904), Cond.methodLink RX4 140 yX4_find, Cond.instanceMethod yX4_find, Cond.selects RX4 yX4_find yX4_find, Cond.code yX4_find cX4_find 8 none, Cond.fieldLink RX4 68 "BreakLinesModel" "known" "Z", Cond.fieldLink RX4 77 "BreakLinesModel" "due" "I", Cond.fieldLink RX4 46 "BreakLinesModel" "perPage" "I", Cond.fieldLink RX4 24 "BreakLinesModel" "rest" "[J"]
def wsX4_set_r2 : List Cond := [Cond.constantLong RX4 93 (1024), Cond.constantLong RX4 120 (33), Cond.fieldLink RX4 122 "BreakLinesModel" "lineMany" "I", Cond.fieldLink RX4 125 "BreakLinesModel" "pageMany" "I", Cond.methodLink RX4 102 yX4_place, Cond.static yX4_place, Cond.code yX4_place cX4_place 4 (some .int), Cond.methodLink RX4 112 yX4_restOf, Cond.instanceMethod yX4_restOf, Cond.selects RX4 yX4_restOf yX4_restOf, Cond.code yX4_restOf cX4_restOf 17 (some .long), Cond.fieldLink RX4 20 "BreakLinesModel" "costs" "[J", Cond.constantLong RX4 110 (32), Cond.methodLink RX4 95 yX4_mayBe, Cond.instanceMethod yX4_mayBe, Cond.selects RX4 yX4_mayBe yX4_mayBe, Cond.code yX4_mayBe cX4_mayBe 4 (some .boolean), Cond.fieldLink RX4 16 "BreakLinesModel" "marks" "[Z", Cond.fieldLink RX4 7 "BreakLinesModel" "leasts" "[I", Cond.fieldLink RX4 42 "BreakLinesModel" "width" "I", Cond.methodLink RX4 80 yX4_total, Cond.instanceMethod yX4_total, Cond.selects RX4 yX4_total yX4_total, Cond.code yX4_total cX4_total 6 (some .int)]
def wsX4_set_r3 : List Cond := [Cond.methodLink RX4 98 yX4_costOf, Cond.instanceMethod yX4_costOf, Cond.selects RX4 yX4_costOf yX4_costOf, Cond.code yX4_costOf cX4_costOf 5 (some .long), Cond.methodLink RX4 84 yX4_off, Cond.instanceMethod yX4_off, Cond.selects RX4 yX4_off yX4_off, Cond.code yX4_off cX4_off 3 (some .int), Cond.fieldLink RX4 13 "BreakLinesModel" "wishes" "[I", Cond.methodLink RX4 88 yX4_isOver, Cond.instanceMethod yX4_isOver, Cond.selects RX4 yX4_isOver yX4_isOver, Cond.code yX4_isOver cX4_isOver 3 (some .boolean), Cond.methodLink RX4 106 yX4_turnAt, Cond.instanceMethod yX4_turnAt, Cond.selects RX4 yX4_turnAt yX4_turnAt, Cond.code yX4_turnAt cX4_turnAt 2 (some .long), Cond.methodLink RX4 128 yX4_pickLines, Cond.instanceMethod yX4_pickLines, Cond.selects RX4 yX4_pickLines yX4_pickLines, Cond.code yX4_pickLines cX4_pickLines 4 none, Cond.fieldLink RX4 33 "BreakLinesModel" "now" "[J", Cond.fieldLink RX4 36 "BreakLinesModel" "then" "[J", Cond.methodLink RX4 134 yX4_reaches]
def wsX4_set_r4 : List Cond := [Cond.instanceMethod yX4_reaches, Cond.selects RX4 yX4_reaches yX4_reaches, Cond.code yX4_reaches cX4_reaches 9 (some .boolean), Cond.methodLink RX4 131 yX4_pickPages, Cond.instanceMethod yX4_pickPages, Cond.selects RX4 yX4_pickPages yX4_pickPages, Cond.code yX4_pickPages cX4_pickPages 5 none, Cond.fieldLink RX4 39 "BreakLinesModel" "pages" "[J", Cond.fieldLink RX4 30 "BreakLinesModel" "pageFrom" "[I", Cond.methodLink RX4 137 yX4_pageCost, Cond.instanceMethod yX4_pageCost, Cond.selects RX4 yX4_pageCost yX4_pageCost, Cond.code yX4_pageCost cX4_pageCost 3 (some .long), Cond.methodLink RX4 153 yX4_lineOf, Cond.instanceMethod yX4_lineOf, Cond.selects RX4 yX4_lineOf yX4_lineOf, Cond.code yX4_lineOf cX4_lineOf 3 (some .int), Cond.methodLink RX4 156 yX4_wide, Cond.instanceMethod yX4_wide, Cond.selects RX4 yX4_wide yX4_wide, Cond.code yX4_wide cX4_wide 15 (some .int)]
def wsX4_set : List Cond := .code yX4_set cX4_set 8 (some .int) :: ((wsX4_set_r1 ++ (wsX4_set_r2 ++ (wsX4_set_r3 ++ wsX4_set_r4))) ++ wsX40)
def wsX4_ends_r1 : List Cond := [Cond.fieldLink RX4 27 "BreakLinesModel" "lineFrom" "[I", Cond.methodLink RX4 72 yX4_isBar, Cond.instanceMethod yX4_isBar, Cond.selects RX4 yX4_isBar yX4_isBar, Cond.initialized RX4, Cond.code yX4_isBar cX4_isBar 2 (some .boolean), Cond.fieldLink RX4 57 "BreakLinesModel" "bars" "I", Cond.methodLink RX4 60 yX4_in, Cond.static yX4_in, Cond.code yX4_in cX4_in 3 (some .boolean), Cond.methodLink RX4 143 yX4_isThere, Cond.instanceMethod yX4_isThere, Cond.selects RX4 yX4_isThere yX4_isThere, Cond.code yX4_isThere cX4_isThere 1 (some .boolean), Cond.fieldLink RX4 116 "BreakLinesModel" "best" "J", Cond.constantLong RX4 91 (4611686018427387904), Cond.methodLink RX4 140 yX4_find, Cond.instanceMethod yX4_find, Cond.selects RX4 yX4_find yX4_find, Cond.code yX4_find cX4_find 8 none, Cond.fieldLink RX4 68 "BreakLinesModel" "known" "Z", Cond.fieldLink RX4 77 "BreakLinesModel" "due" "I", Cond.fieldLink RX4 46 "BreakLinesModel" "perPage" "I", Cond.fieldLink RX4 24 "BreakLinesModel" "rest" "[J"]
def wsX4_ends_r2 : List Cond := [Cond.constantLong RX4 93 (1024), Cond.constantLong RX4 120 (33), Cond.fieldLink RX4 122 "BreakLinesModel" "lineMany" "I", Cond.fieldLink RX4 125 "BreakLinesModel" "pageMany" "I", Cond.methodLink RX4 102 yX4_place, Cond.static yX4_place, Cond.code yX4_place cX4_place 4 (some .int), Cond.methodLink RX4 112 yX4_restOf, Cond.instanceMethod yX4_restOf, Cond.selects RX4 yX4_restOf yX4_restOf, Cond.code yX4_restOf cX4_restOf 17 (some .long), Cond.fieldLink RX4 20 "BreakLinesModel" "costs" "[J", Cond.constantLong RX4 110 (32), Cond.methodLink RX4 95 yX4_mayBe, Cond.instanceMethod yX4_mayBe, Cond.selects RX4 yX4_mayBe yX4_mayBe, Cond.code yX4_mayBe cX4_mayBe 4 (some .boolean), Cond.fieldLink RX4 16 "BreakLinesModel" "marks" "[Z", Cond.fieldLink RX4 7 "BreakLinesModel" "leasts" "[I", Cond.fieldLink RX4 42 "BreakLinesModel" "width" "I", Cond.methodLink RX4 80 yX4_total, Cond.instanceMethod yX4_total, Cond.selects RX4 yX4_total yX4_total, Cond.code yX4_total cX4_total 6 (some .int)]
def wsX4_ends_r3 : List Cond := [Cond.methodLink RX4 98 yX4_costOf, Cond.instanceMethod yX4_costOf, Cond.selects RX4 yX4_costOf yX4_costOf, Cond.code yX4_costOf cX4_costOf 5 (some .long), Cond.methodLink RX4 84 yX4_off, Cond.instanceMethod yX4_off, Cond.selects RX4 yX4_off yX4_off, Cond.code yX4_off cX4_off 3 (some .int), Cond.fieldLink RX4 13 "BreakLinesModel" "wishes" "[I", Cond.methodLink RX4 88 yX4_isOver, Cond.instanceMethod yX4_isOver, Cond.selects RX4 yX4_isOver yX4_isOver, Cond.code yX4_isOver cX4_isOver 3 (some .boolean), Cond.methodLink RX4 106 yX4_turnAt, Cond.instanceMethod yX4_turnAt, Cond.selects RX4 yX4_turnAt yX4_turnAt, Cond.code yX4_turnAt cX4_turnAt 2 (some .long), Cond.methodLink RX4 128 yX4_pickLines, Cond.instanceMethod yX4_pickLines, Cond.selects RX4 yX4_pickLines yX4_pickLines, Cond.code yX4_pickLines cX4_pickLines 4 none, Cond.fieldLink RX4 33 "BreakLinesModel" "now" "[J", Cond.fieldLink RX4 36 "BreakLinesModel" "then" "[J", Cond.methodLink RX4 134 yX4_reaches]
def wsX4_ends_r4 : List Cond := [Cond.instanceMethod yX4_reaches, Cond.selects RX4 yX4_reaches yX4_reaches, Cond.code yX4_reaches cX4_reaches 9 (some .boolean), Cond.methodLink RX4 131 yX4_pickPages, Cond.instanceMethod yX4_pickPages, Cond.selects RX4 yX4_pickPages yX4_pickPages, Cond.code yX4_pickPages cX4_pickPages 5 none, Cond.fieldLink RX4 39 "BreakLinesModel" "pages" "[J", Cond.fieldLink RX4 30 "BreakLinesModel" "pageFrom" "[I", Cond.methodLink RX4 137 yX4_pageCost, Cond.instanceMethod yX4_pageCost, Cond.selects RX4 yX4_pageCost yX4_pageCost, Cond.code yX4_pageCost cX4_pageCost 3 (some .long), Cond.methodLink RX4 153 yX4_lineOf, Cond.instanceMethod yX4_lineOf, Cond.selects RX4 yX4_lineOf yX4_lineOf, Cond.code yX4_lineOf cX4_lineOf 3 (some .int)]
def wsX4_ends : List Cond := .code yX4_ends cX4_ends 2 (some .boolean) :: ((wsX4_ends_r1 ++ (wsX4_ends_r2 ++ (wsX4_ends_r3 ++ wsX4_ends_r4))) ++ wsX40)
def wsX4_badness_r1 : List Cond := [Cond.constantLong RX4 147 (-1), Cond.methodLink RX4 72 yX4_isBar, Cond.instanceMethod yX4_isBar, Cond.selects RX4 yX4_isBar yX4_isBar, Cond.initialized RX4, Cond.code yX4_isBar cX4_isBar 2 (some .boolean), Cond.fieldLink RX4 57 "BreakLinesModel" "bars" "I", Cond.methodLink RX4 60 yX4_in, Cond.static yX4_in, Cond.code yX4_in cX4_in 3 (some .boolean), Cond.methodLink RX4 95 yX4_mayBe, Cond.instanceMethod yX4_mayBe, Cond.selects RX4 yX4_mayBe yX4_mayBe, Cond.code yX4_mayBe cX4_mayBe 4 (some .boolean), Cond.fieldLink RX4 16 "BreakLinesModel" "marks" "[Z", Cond.fieldLink RX4 7 "BreakLinesModel" "leasts" "[I", Cond.fieldLink RX4 42 "BreakLinesModel" "width" "I", Cond.methodLink RX4 80 yX4_total, Cond.instanceMethod yX4_total, Cond.selects RX4 yX4_total yX4_total, Cond.code yX4_total cX4_total 6 (some .int), Cond.methodLink RX4 98 yX4_costOf, Cond.instanceMethod yX4_costOf, Cond.selects RX4 yX4_costOf yX4_costOf]
def wsX4_badness_r2 : List Cond := [Cond.code yX4_costOf cX4_costOf 5 (some .long), Cond.fieldLink RX4 20 "BreakLinesModel" "costs" "[J", Cond.methodLink RX4 84 yX4_off, Cond.instanceMethod yX4_off, Cond.selects RX4 yX4_off yX4_off, Cond.code yX4_off cX4_off 3 (some .int), Cond.fieldLink RX4 13 "BreakLinesModel" "wishes" "[I", Cond.methodLink RX4 88 yX4_isOver, Cond.instanceMethod yX4_isOver, Cond.selects RX4 yX4_isOver yX4_isOver, Cond.code yX4_isOver cX4_isOver 3 (some .boolean)]
def wsX4_badness : List Cond := .code yX4_badness cX4_badness 3 (some .long) :: ((wsX4_badness_r1 ++ wsX4_badness_r2) ++ wsX40)
def wsX4_would_r1 : List Cond := [Cond.constantLong RX4 147 (-1), Cond.fieldLink RX4 16 "BreakLinesModel" "marks" "[Z", Cond.fieldLink RX4 68 "BreakLinesModel" "known" "Z", Cond.methodLink RX4 72 yX4_isBar, Cond.instanceMethod yX4_isBar, Cond.selects RX4 yX4_isBar yX4_isBar, Cond.initialized RX4, Cond.code yX4_isBar cX4_isBar 2 (some .boolean), Cond.fieldLink RX4 57 "BreakLinesModel" "bars" "I", Cond.methodLink RX4 60 yX4_in, Cond.static yX4_in, Cond.code yX4_in cX4_in 3 (some .boolean), Cond.methodLink RX4 160 yX4_sum, Cond.instanceMethod yX4_sum, Cond.selects RX4 yX4_sum yX4_sum, Cond.code yX4_sum cX4_sum 1 (some .long), Cond.fieldLink RX4 116 "BreakLinesModel" "best" "J", Cond.constantLong RX4 93 (1024), Cond.methodLink RX4 143 yX4_isThere, Cond.instanceMethod yX4_isThere, Cond.selects RX4 yX4_isThere yX4_isThere, Cond.code yX4_isThere cX4_isThere 1 (some .boolean), Cond.constantLong RX4 91 (4611686018427387904), Cond.methodLink RX4 140 yX4_find]
def wsX4_would_r2 : List Cond := [Cond.instanceMethod yX4_find, Cond.selects RX4 yX4_find yX4_find, Cond.code yX4_find cX4_find 8 none, Cond.fieldLink RX4 77 "BreakLinesModel" "due" "I", Cond.fieldLink RX4 46 "BreakLinesModel" "perPage" "I", Cond.fieldLink RX4 24 "BreakLinesModel" "rest" "[J", Cond.constantLong RX4 120 (33), Cond.fieldLink RX4 122 "BreakLinesModel" "lineMany" "I", Cond.fieldLink RX4 125 "BreakLinesModel" "pageMany" "I", Cond.methodLink RX4 102 yX4_place, Cond.static yX4_place, Cond.code yX4_place cX4_place 4 (some .int), Cond.methodLink RX4 112 yX4_restOf, Cond.instanceMethod yX4_restOf, Cond.selects RX4 yX4_restOf yX4_restOf, Cond.code yX4_restOf cX4_restOf 17 (some .long), Cond.fieldLink RX4 20 "BreakLinesModel" "costs" "[J", Cond.constantLong RX4 110 (32), Cond.methodLink RX4 95 yX4_mayBe, Cond.instanceMethod yX4_mayBe, Cond.selects RX4 yX4_mayBe yX4_mayBe, Cond.code yX4_mayBe cX4_mayBe 4 (some .boolean), Cond.fieldLink RX4 7 "BreakLinesModel" "leasts" "[I", Cond.fieldLink RX4 42 "BreakLinesModel" "width" "I"]
def wsX4_would_r3 : List Cond := [Cond.methodLink RX4 80 yX4_total, Cond.instanceMethod yX4_total, Cond.selects RX4 yX4_total yX4_total, Cond.code yX4_total cX4_total 6 (some .int), Cond.methodLink RX4 98 yX4_costOf, Cond.instanceMethod yX4_costOf, Cond.selects RX4 yX4_costOf yX4_costOf, Cond.code yX4_costOf cX4_costOf 5 (some .long), Cond.methodLink RX4 84 yX4_off, Cond.instanceMethod yX4_off, Cond.selects RX4 yX4_off yX4_off, Cond.code yX4_off cX4_off 3 (some .int), Cond.fieldLink RX4 13 "BreakLinesModel" "wishes" "[I", Cond.methodLink RX4 88 yX4_isOver, Cond.instanceMethod yX4_isOver, Cond.selects RX4 yX4_isOver yX4_isOver, Cond.code yX4_isOver cX4_isOver 3 (some .boolean), Cond.methodLink RX4 106 yX4_turnAt, Cond.instanceMethod yX4_turnAt, Cond.selects RX4 yX4_turnAt yX4_turnAt, Cond.code yX4_turnAt cX4_turnAt 2 (some .long), Cond.methodLink RX4 128 yX4_pickLines, Cond.instanceMethod yX4_pickLines, Cond.selects RX4 yX4_pickLines yX4_pickLines]
def wsX4_would_r4 : List Cond := [Cond.code yX4_pickLines cX4_pickLines 4 none, Cond.fieldLink RX4 27 "BreakLinesModel" "lineFrom" "[I", Cond.fieldLink RX4 33 "BreakLinesModel" "now" "[J", Cond.fieldLink RX4 36 "BreakLinesModel" "then" "[J", Cond.methodLink RX4 134 yX4_reaches, Cond.instanceMethod yX4_reaches, Cond.selects RX4 yX4_reaches yX4_reaches, Cond.code yX4_reaches cX4_reaches 9 (some .boolean), Cond.methodLink RX4 131 yX4_pickPages, Cond.instanceMethod yX4_pickPages, Cond.selects RX4 yX4_pickPages yX4_pickPages, Cond.code yX4_pickPages cX4_pickPages 5 none, Cond.fieldLink RX4 39 "BreakLinesModel" "pages" "[J", Cond.fieldLink RX4 30 "BreakLinesModel" "pageFrom" "[I", Cond.methodLink RX4 137 yX4_pageCost, Cond.instanceMethod yX4_pageCost, Cond.selects RX4 yX4_pageCost yX4_pageCost, Cond.code yX4_pageCost cX4_pageCost 3 (some .long)]
def wsX4_would : List Cond := .code yX4_would cX4_would 6 (some .long) :: ((wsX4_would_r1 ++ (wsX4_would_r2 ++ (wsX4_would_r3 ++ wsX4_would_r4))) ++ wsX40)
def wsJ9_max_7cf53 : List Cond := .code yJ9_max_7cf53 cJ9_max_7cf53 2 (some .int) :: ([])
def wsJ9_min_7cf53 : List Cond := .code yJ9_min_7cf53 cJ9_min_7cf53 2 (some .int) :: ([])
def wsL_cell : List Cond := .code yL_cell cL_cell 2 (some .int) :: ([])
def wsL_law_r1 : List Cond := [Cond.classLink RL 7 RX3, Cond.instantiable RX3 4, Cond.initialized RX3, Cond.classLink RL 18 RX4, Cond.instantiable RX4 18, Cond.initialized RX4, Cond.methodLink RL 9 yL_cell, Cond.static yL_cell, Cond.initialized RL, Cond.code yL_cell cL_cell 2 (some .int), Cond.methodLink RL 15 yX3_init, Cond.instanceMethod yX3_init, Cond.code yX3_init cX3_init 3 none, Cond.methodLink RX3 1 objectInit, Cond.instanceMethod objectInit, Cond.code objectInit ⟨#[0xb1]⟩ 1 none, Cond.classLink RX3 7 RX0, Cond.instantiable RX0 8, Cond.initialized RX0, Cond.fieldLink RX3 18 "BreakLines" "piece" "LBreakLines$Piece;", Cond.classLink RX3 22 RX1, Cond.instantiable RX1 7, Cond.initialized RX1, Cond.fieldLink RX3 27 "BreakLines" "search" "LBreakLines$Search;"]
def wsL_law_r2 : List Cond := [Cond.classLink RX3 31 RX2, Cond.instantiable RX2 8, Cond.initialized RX2, Cond.fieldLink RX3 34 "BreakLines" "best" "LBreakLines$Setting;", Cond.fieldLink RX3 38 "BreakLines" "bestIsKnown" "Z", Cond.methodLink RX3 11 yX3_nearest, Cond.static yX3_nearest, Cond.code yX3_nearest cX3_nearest 3 (some .int), Cond.methodLink RX3 151 Lib.Math.min.name, Cond.static Lib.Math.min.name, Cond.initialized "java/lang/Math", Cond.code Lib.Math.min.name Lib.Math.min.code 2 (some .int), Cond.methodLink RX3 156 Lib.Math.max.name, Cond.static Lib.Math.max.name, Cond.code Lib.Math.max.name Lib.Math.max.code 2 (some .int), Cond.methodLink RX3 15 yX0_init, Cond.instanceMethod yX0_init, Cond.code yX0_init cX0_init 3 none, Cond.methodLink RX0 3 objectInit, Cond.fieldLink RX0 9 "BreakLines$Piece" "bars" "I", Cond.fieldLink RX0 15 "BreakLines$Piece" "width" "I", Cond.fieldLink RX0 18 "BreakLines$Piece" "perPage" "I", Cond.fieldLink RX0 21 "BreakLines$Piece" "count" "I", Cond.arrayClass .int]
def wsL_law_r3 : List Cond := [Cond.fieldLink RX0 24 "BreakLines$Piece" "costs" "[I", Cond.constant RX0 28 (100000), Cond.fieldLink RX0 29 "BreakLines$Piece" "marked" "[I", Cond.fieldLink RX0 32 "BreakLines$Piece" "leastAhead" "[I", Cond.fieldLink RX0 35 "BreakLines$Piece" "wishedAhead" "[I", Cond.methodLink RX3 24 yX1_init, Cond.instanceMethod yX1_init, Cond.code yX1_init cX1_init 2 none, Cond.methodLink RX1 5 objectInit, Cond.fieldLink RX1 11 "BreakLines$Search" "piece" "LBreakLines$Piece;", Cond.arrayClass .long, Cond.fieldLink RX1 17 "BreakLines$Search" "linePrices" "[J", Cond.fieldLink RX1 21 "BreakLines$Search" "turnPrices" "[J", Cond.fieldLink RX1 24 "BreakLines$Search" "ranks" "[J", Cond.fieldLink RX1 27 "BreakLines$Search" "orders" "[J", Cond.constantLong RX1 30 (9223372036854775807), Cond.fieldLink RX1 32 "BreakLines$Search" "foundRank" "J", Cond.fieldLink RX1 36 "BreakLines$Search" "foundOrder" "J", Cond.methodLink RX3 33 yX2_init, Cond.instanceMethod yX2_init, Cond.code yX2_init cX2_init 1 none, Cond.methodLink RX2 3 objectInit, Cond.fieldLink RX2 9 "BreakLines$Setting" "exists" "Z", Cond.fieldLink RX2 15 "BreakLines$Setting" "total" "J"]
def wsL_law_r4 : List Cond := [Cond.fieldLink RX2 19 "BreakLines$Setting" "lines" "I", Cond.fieldLink RX2 23 "BreakLines$Setting" "pages" "I", Cond.fieldLink RX2 26 "BreakLines$Setting" "firstBar" "[I", Cond.fieldLink RX2 30 "BreakLines$Setting" "firstLine" "[I", Cond.fieldLink RX2 33 "BreakLines$Setting" "pageOfLine" "[I", Cond.fieldLink RX2 36 "BreakLines$Setting" "lineOfBar" "[I", Cond.methodLink RL 20 yX4_init, Cond.instanceMethod yX4_init, Cond.code yX4_init cX4_init 3 none, Cond.methodLink RX4 1 objectInit, Cond.fieldLink RX4 7 "BreakLinesModel" "leasts" "[I", Cond.fieldLink RX4 13 "BreakLinesModel" "wishes" "[I", Cond.arrayClass .boolean, Cond.fieldLink RX4 16 "BreakLinesModel" "marks" "[Z", Cond.fieldLink RX4 20 "BreakLinesModel" "costs" "[J", Cond.fieldLink RX4 24 "BreakLinesModel" "rest" "[J", Cond.fieldLink RX4 27 "BreakLinesModel" "lineFrom" "[I", Cond.fieldLink RX4 30 "BreakLinesModel" "pageFrom" "[I", Cond.fieldLink RX4 33 "BreakLinesModel" "now" "[J", Cond.fieldLink RX4 36 "BreakLinesModel" "then" "[J", Cond.fieldLink RX4 39 "BreakLinesModel" "pages" "[J", Cond.fieldLink RX4 42 "BreakLinesModel" "width" "I", Cond.fieldLink RX4 46 "BreakLinesModel" "perPage" "I", Cond.constantLong RX4 49 (4)]
def wsL_law_r5 : List Cond := [Cond.constantLong RX4 51 (1000), Cond.constantLong RX4 53 (500), Cond.constantLong RX4 55 (100000), Cond.methodLink RL 21 yX3_bar, Cond.instanceMethod yX3_bar, Cond.selects RX3 yX3_bar yX3_bar, Cond.code yX3_bar cX3_bar 3 (some .int), Cond.fieldLink RX3 46 "BreakLines$Piece" "bars" "I", Cond.methodLink RX3 42 yX3_areWidths, Cond.static yX3_areWidths, Cond.code yX3_areWidths cX3_areWidths 2 (some .boolean), Cond.methodLink RX3 62 yX3_isWithin, Cond.static yX3_isWithin, Cond.code yX3_isWithin cX3_isWithin 3 (some .boolean), Cond.methodLink RX3 50 yX0_addBar, Cond.instanceMethod yX0_addBar, Cond.selects RX0 yX0_addBar yX0_addBar, Cond.code yX0_addBar cX0_addBar 4 (some .int), Cond.methodLink RL 25 yX4_bar, Cond.instanceMethod yX4_bar, Cond.selects RX4 yX4_bar yX4_bar, Cond.code yX4_bar cX4_bar 3 (some .int), Cond.fieldLink RX4 57 "BreakLinesModel" "bars" "I", Cond.fieldLink RX4 68 "BreakLinesModel" "known" "Z"]
def wsL_law_r6 : List Cond := [Cond.methodLink RX4 64 yX4_areWidths, Cond.static yX4_areWidths, Cond.code yX4_areWidths cX4_areWidths 2 (some .boolean), Cond.methodLink RX4 60 yX4_in, Cond.static yX4_in, Cond.code yX4_in cX4_in 3 (some .boolean), Cond.methodLink RL 26 yX3_change, Cond.instanceMethod yX3_change, Cond.selects RX3 yX3_change yX3_change, Cond.code yX3_change cX3_change 4 (some .int), Cond.methodLink RX3 54 yX0_hasBar, Cond.instanceMethod yX0_hasBar, Cond.selects RX0 yX0_hasBar yX0_hasBar, Cond.code yX0_hasBar cX0_hasBar 2 (some .boolean), Cond.methodLink RX3 58 yX0_putWidths, Cond.instanceMethod yX0_putWidths, Cond.selects RX0 yX0_putWidths yX0_putWidths, Cond.code yX0_putWidths cX0_putWidths 7 none, Cond.methodLink RX0 38 yX0_leastOf, Cond.instanceMethod yX0_leastOf, Cond.selects RX0 yX0_leastOf yX0_leastOf, Cond.code yX0_leastOf cX0_leastOf 3 (some .int), Cond.methodLink RX0 42 yX0_wishedOf, Cond.instanceMethod yX0_wishedOf]
def wsL_law_r7 : List Cond := [Cond.selects RX0 yX0_wishedOf yX0_wishedOf, Cond.code yX0_wishedOf cX0_wishedOf 3 (some .int), Cond.methodLink RL 30 yX4_change, Cond.instanceMethod yX4_change, Cond.selects RX4 yX4_change yX4_change, Cond.code yX4_change cX4_change 4 (some .int), Cond.methodLink RX4 72 yX4_isBar, Cond.instanceMethod yX4_isBar, Cond.selects RX4 yX4_isBar yX4_isBar, Cond.code yX4_isBar cX4_isBar 2 (some .boolean), Cond.methodLink RL 31 yX3_mark, Cond.instanceMethod yX3_mark, Cond.selects RX3 yX3_mark yX3_mark, Cond.code yX3_mark cX3_mark 5 (some .int), Cond.methodLink RX3 66 yX0_isMarked, Cond.instanceMethod yX0_isMarked, Cond.selects RX0 yX0_isMarked yX0_isMarked, Cond.code yX0_isMarked cX0_isMarked 3 (some .boolean), Cond.methodLink RX3 69 yX0_putMark, Cond.instanceMethod yX0_putMark, Cond.selects RX0 yX0_putMark yX0_putMark, Cond.code yX0_putMark cX0_putMark 5 none, Cond.methodLink RL 35 yX4_mark, Cond.instanceMethod yX4_mark]
def wsL_law_r8 : List Cond := [Cond.selects RX4 yX4_mark yX4_mark, Cond.code yX4_mark cX4_mark 5 (some .int), Cond.methodLink RL 36 yX3_cost, Cond.instanceMethod yX3_cost, Cond.selects RX3 yX3_cost yX3_cost, Cond.code yX3_cost cX3_cost 4 (some .int), Cond.constant RX3 73 (1000000), Cond.fieldLink RX3 74 "BreakLines$Piece" "costs" "[I", Cond.methodLink RL 39 yX4_cost, Cond.instanceMethod yX4_cost, Cond.selects RX4 yX4_cost yX4_cost, Cond.code yX4_cost cX4_cost 4 (some .int), Cond.constant RX4 76 (1000000), Cond.methodLink RL 40 yX3_count, Cond.instanceMethod yX3_count, Cond.selects RX3 yX3_count yX3_count, Cond.code yX3_count cX3_count 3 (some .int), Cond.fieldLink RX3 78 "BreakLines$Piece" "count" "I", Cond.methodLink RL 44 yX4_count, Cond.instanceMethod yX4_count, Cond.selects RX4 yX4_count yX4_count, Cond.code yX4_count cX4_count 3 (some .int), Cond.fieldLink RX4 77 "BreakLinesModel" "due" "I", Cond.methodLink RL 45 yX3_size]
def wsL_law_r9 : List Cond := [Cond.instanceMethod yX3_size, Cond.selects RX3 yX3_size yX3_size, Cond.code yX3_size cX3_size 4 (some .int), Cond.fieldLink RX3 81 "BreakLines$Piece" "width" "I", Cond.fieldLink RX3 84 "BreakLines$Piece" "perPage" "I", Cond.methodLink RL 48 yX4_size, Cond.instanceMethod yX4_size, Cond.selects RX4 yX4_size yX4_size, Cond.code yX4_size cX4_size 5 (some .int), Cond.methodLink RL 49 yX3_bars, Cond.instanceMethod yX3_bars, Cond.selects RX3 yX3_bars yX3_bars, Cond.code yX3_bars cX3_bars 1 (some .int), Cond.methodLink RL 53 yX4_bars, Cond.instanceMethod yX4_bars, Cond.selects RX4 yX4_bars yX4_bars, Cond.code yX4_bars cX4_bars 1 (some .int), Cond.methodLink RL 54 yX3_lines, Cond.instanceMethod yX3_lines, Cond.selects RX3 yX3_lines yX3_lines, Cond.code yX3_lines cX3_lines 1 (some .int), Cond.fieldLink RX3 90 "BreakLines$Setting" "exists" "Z", Cond.fieldLink RX3 93 "BreakLines$Setting" "lines" "I", Cond.methodLink RX3 87 yX3_findBest]
def wsL_law_r10 : List Cond := [Cond.instanceMethod yX3_findBest, Cond.selects RX3 yX3_findBest yX3_findBest, Cond.code yX3_findBest cX3_findBest 1 none, Cond.methodLink RX3 137 yX1_run, Cond.instanceMethod yX1_run, Cond.selects RX1 yX1_run yX1_run, Cond.code yX1_run cX1_run 1 none, Cond.fieldLink RX1 39 "BreakLines$Piece" "bars" "I", Cond.fieldLink RX1 45 "BreakLines$Piece" "count" "I", Cond.methodLink RX1 48 yX1_priceLinesAndTurns, Cond.instanceMethod yX1_priceLinesAndTurns, Cond.selects RX1 yX1_priceLinesAndTurns yX1_priceLinesAndTurns, Cond.code yX1_priceLinesAndTurns cX1_priceLinesAndTurns 3 none, Cond.methodLink RX1 73 yX0_turnPrice, Cond.instanceMethod yX0_turnPrice, Cond.selects RX0 yX0_turnPrice yX0_turnPrice, Cond.code yX0_turnPrice cX0_turnPrice 2 (some .int), Cond.methodLink RX0 45 yX0_isMarked, Cond.methodLink RX1 77 yX0_linePrice, Cond.instanceMethod yX0_linePrice, Cond.selects RX0 yX0_linePrice yX0_linePrice, Cond.code yX0_linePrice cX0_linePrice 5 (some .long), Cond.constantLong RX0 55 (-1), Cond.methodLink RX0 52 yX0_mayBe]
def wsL_law_r11 : List Cond := [Cond.instanceMethod yX0_mayBe, Cond.selects RX0 yX0_mayBe yX0_mayBe, Cond.code yX0_mayBe cX0_mayBe 4 (some .boolean), Cond.methodLink RX0 49 yX0_isOver, Cond.instanceMethod yX0_isOver, Cond.selects RX0 yX0_isOver yX0_isOver, Cond.code yX0_isOver cX0_isOver 3 (some .boolean), Cond.methodLink RX0 57 yX0_spare, Cond.instanceMethod yX0_spare, Cond.selects RX0 yX0_spare yX0_spare, Cond.code yX0_spare cX0_spare 3 (some .int), Cond.methodLink RX1 51 yX1_fillForAnyCount, Cond.instanceMethod yX1_fillForAnyCount, Cond.selects RX1 yX1_fillForAnyCount yX1_fillForAnyCount, Cond.code yX1_fillForAnyCount cX1_fillForAnyCount 4 none, Cond.fieldLink RX1 81 "BreakLines$Piece" "perPage" "I", Cond.methodLink RX1 84 Lib.Math.min.name, Cond.methodLink RX1 90 yX1_fillCell, Cond.instanceMethod yX1_fillCell, Cond.selects RX1 yX1_fillCell yX1_fillCell, Cond.code yX1_fillCell cX1_fillCell 14 none, Cond.constantLong RX1 64 (-1), Cond.constantLong RX1 62 (1024), Cond.fieldLink RX1 94 "BreakLines$Piece" "costs" "[I"]
def wsL_law_r12 : List Cond := [Cond.constantLong RX1 98 (32), Cond.methodLink RX1 66 yX1_lineEnd, Cond.static yX1_lineEnd, Cond.code yX1_lineEnd cX1_lineEnd 1 (some .long), Cond.methodLink RX1 70 yX1_pageEnd, Cond.static yX1_pageEnd, Cond.code yX1_pageEnd cX1_pageEnd 1 (some .long), Cond.methodLink RX1 100 yX1_offer, Cond.instanceMethod yX1_offer, Cond.selects RX1 yX1_offer yX1_offer, Cond.code yX1_offer cX1_offer 6 none, Cond.methodLink RX1 104 yX1_offerGoingOn, Cond.instanceMethod yX1_offerGoingOn, Cond.selects RX1 yX1_offerGoingOn yX1_offerGoingOn, Cond.code yX1_offerGoingOn cX1_offerGoingOn 9 none, Cond.methodLink RX1 54 yX1_fillForCount, Cond.instanceMethod yX1_fillForCount, Cond.selects RX1 yX1_fillForCount yX1_fillForCount, Cond.code yX1_fillForCount cX1_fillForCount 10 none, Cond.methodLink RX3 144 yX2_take, Cond.instanceMethod yX2_take, Cond.selects RX2 yX2_take yX2_take, Cond.code yX2_take cX2_take 4 none, Cond.methodLink RX2 39 yX1_hasFound]
def wsL_law_r13 : List Cond := [Cond.instanceMethod yX1_hasFound, Cond.selects RX1 yX1_hasFound yX1_hasFound, Cond.code yX1_hasFound cX1_hasFound 1 (some .boolean), Cond.methodLink RX2 45 yX1_foundTotal, Cond.instanceMethod yX1_foundTotal, Cond.selects RX1 yX1_foundTotal yX1_foundTotal, Cond.code yX1_foundTotal cX1_foundTotal 1 (some .long), Cond.methodLink RX1 58 yX1_hasFound, Cond.methodLink RX2 49 yX1_lineEndsAt, Cond.instanceMethod yX1_lineEndsAt, Cond.selects RX1 yX1_lineEndsAt yX1_lineEndsAt, Cond.code yX1_lineEndsAt cX1_lineEndsAt 2 (some .boolean), Cond.methodLink RX2 53 yX1_pageEndsAt, Cond.instanceMethod yX1_pageEndsAt, Cond.selects RX1 yX1_pageEndsAt yX1_pageEndsAt, Cond.code yX1_pageEndsAt cX1_pageEndsAt 2 (some .boolean), Cond.methodLink RL 57 yX4_lines, Cond.instanceMethod yX4_lines, Cond.selects RX4 yX4_lines yX4_lines, Cond.code yX4_lines cX4_lines 1 (some .int), Cond.fieldLink RX4 122 "BreakLinesModel" "lineMany" "I", Cond.methodLink RX4 143 yX4_isThere, Cond.instanceMethod yX4_isThere, Cond.selects RX4 yX4_isThere yX4_isThere]
def wsL_law_r14 : List Cond := [Cond.code yX4_isThere cX4_isThere 1 (some .boolean), Cond.fieldLink RX4 116 "BreakLinesModel" "best" "J", Cond.constantLong RX4 91 (4611686018427387904), Cond.methodLink RX4 140 yX4_find, Cond.instanceMethod yX4_find, Cond.selects RX4 yX4_find yX4_find, Cond.code yX4_find cX4_find 8 none, Cond.constantLong RX4 93 (1024), Cond.constantLong RX4 120 (33), Cond.fieldLink RX4 125 "BreakLinesModel" "pageMany" "I", Cond.methodLink RX4 102 yX4_place, Cond.static yX4_place, Cond.code yX4_place cX4_place 4 (some .int), Cond.methodLink RX4 112 yX4_restOf, Cond.instanceMethod yX4_restOf, Cond.selects RX4 yX4_restOf yX4_restOf, Cond.code yX4_restOf cX4_restOf 17 (some .long), Cond.constantLong RX4 110 (32), Cond.methodLink RX4 95 yX4_mayBe, Cond.instanceMethod yX4_mayBe, Cond.selects RX4 yX4_mayBe yX4_mayBe, Cond.code yX4_mayBe cX4_mayBe 4 (some .boolean), Cond.methodLink RX4 80 yX4_total, Cond.instanceMethod yX4_total]
def wsL_law_r15 : List Cond := [Cond.selects RX4 yX4_total yX4_total, Cond.code yX4_total cX4_total 6 (some .int), Cond.methodLink RX4 98 yX4_costOf, Cond.instanceMethod yX4_costOf, Cond.selects RX4 yX4_costOf yX4_costOf, Cond.code yX4_costOf cX4_costOf 5 (some .long), Cond.methodLink RX4 84 yX4_off, Cond.instanceMethod yX4_off, Cond.selects RX4 yX4_off yX4_off, Cond.code yX4_off cX4_off 3 (some .int), Cond.methodLink RX4 88 yX4_isOver, Cond.instanceMethod yX4_isOver, Cond.selects RX4 yX4_isOver yX4_isOver, Cond.code yX4_isOver cX4_isOver 3 (some .boolean), Cond.methodLink RX4 106 yX4_turnAt, Cond.instanceMethod yX4_turnAt, Cond.selects RX4 yX4_turnAt yX4_turnAt, Cond.code yX4_turnAt cX4_turnAt 2 (some .long), Cond.methodLink RX4 128 yX4_pickLines, Cond.instanceMethod yX4_pickLines, Cond.selects RX4 yX4_pickLines yX4_pickLines, Cond.code yX4_pickLines cX4_pickLines 4 none, Cond.methodLink RX4 134 yX4_reaches, Cond.instanceMethod yX4_reaches]
def wsL_law_r16 : List Cond := [Cond.selects RX4 yX4_reaches yX4_reaches, Cond.code yX4_reaches cX4_reaches 9 (some .boolean), Cond.methodLink RX4 131 yX4_pickPages, Cond.instanceMethod yX4_pickPages, Cond.selects RX4 yX4_pickPages yX4_pickPages, Cond.code yX4_pickPages cX4_pickPages 5 none, Cond.methodLink RX4 137 yX4_pageCost, Cond.instanceMethod yX4_pageCost, Cond.selects RX4 yX4_pageCost yX4_pageCost, Cond.code yX4_pageCost cX4_pageCost 3 (some .long), Cond.methodLink RL 58 yX3_pages, Cond.instanceMethod yX3_pages, Cond.selects RX3 yX3_pages yX3_pages, Cond.code yX3_pages cX3_pages 1 (some .int), Cond.fieldLink RX3 96 "BreakLines$Setting" "pages" "I", Cond.methodLink RL 61 yX4_pages, Cond.instanceMethod yX4_pages, Cond.selects RX4 yX4_pages yX4_pages, Cond.code yX4_pages cX4_pages 1 (some .int), Cond.methodLink RL 62 yX3_sum, Cond.instanceMethod yX3_sum, Cond.selects RX3 yX3_sum yX3_sum, Cond.code yX3_sum cX3_sum 1 (some .long), Cond.fieldLink RX3 99 "BreakLines$Setting" "total" "J"]
def wsL_law_r17 : List Cond := [Cond.constantLong RX3 103 (-1), Cond.methodLink RL 66 yX4_sum, Cond.instanceMethod yX4_sum, Cond.selects RX4 yX4_sum yX4_sum, Cond.code yX4_sum cX4_sum 1 (some .long), Cond.constantLong RX4 147 (-1), Cond.methodLink RL 67 yX3_line, Cond.instanceMethod yX3_line, Cond.selects RX3 yX3_line yX3_line, Cond.code yX3_line cX3_line 3 (some .int), Cond.fieldLink RX3 105 "BreakLines$Setting" "firstBar" "[I", Cond.fieldLink RX3 112 "BreakLines$Setting" "pageOfLine" "[I", Cond.methodLink RX3 108 yX2_lastBar, Cond.instanceMethod yX2_lastBar, Cond.selects RX2 yX2_lastBar yX2_lastBar, Cond.code yX2_lastBar cX2_lastBar 2 (some .int), Cond.methodLink RX3 115 yX0_spare, Cond.methodLink RL 70 yX4_line, Cond.instanceMethod yX4_line, Cond.selects RX4 yX4_line yX4_line, Cond.code yX4_line cX4_line 3 (some .int), Cond.methodLink RX4 149 yX4_pageOf, Cond.instanceMethod yX4_pageOf, Cond.selects RX4 yX4_pageOf yX4_pageOf]
def wsL_law_r18 : List Cond := [Cond.code yX4_pageOf cX4_pageOf 3 (some .int), Cond.methodLink RL 71 yX3_page, Cond.instanceMethod yX3_page, Cond.selects RX3 yX3_page yX3_page, Cond.code yX3_page cX3_page 3 (some .int), Cond.fieldLink RX3 118 "BreakLines$Setting" "firstLine" "[I", Cond.methodLink RX3 121 yX2_linesOnPage, Cond.instanceMethod yX2_linesOnPage, Cond.selects RX2 yX2_linesOnPage yX2_linesOnPage, Cond.code yX2_linesOnPage cX2_linesOnPage 2 (some .int), Cond.methodLink RX3 124 yX3_pagePrice, Cond.instanceMethod yX3_pagePrice, Cond.selects RX3 yX3_pagePrice yX3_pagePrice, Cond.code yX3_pagePrice cX3_pagePrice 2 (some .int), Cond.methodLink RX3 148 yX0_turnPrice, Cond.methodLink RL 74 yX4_page, Cond.instanceMethod yX4_page, Cond.selects RX4 yX4_page yX4_page, Cond.code yX4_page cX4_page 3 (some .int), Cond.methodLink RL 75 yX3_set, Cond.instanceMethod yX3_set, Cond.selects RX3 yX3_set yX3_set, Cond.code yX3_set cX3_set 7 (some .int), Cond.fieldLink RX3 127 "BreakLines$Setting" "lineOfBar" "[I"]
def wsL_law_r19 : List Cond := [Cond.methodLink RX3 130 yX0_setAhead, Cond.instanceMethod yX0_setAhead, Cond.selects RX0 yX0_setAhead yX0_setAhead, Cond.code yX0_setAhead cX0_setAhead 7 (some .int), Cond.methodLink RX0 60 yX0_share, Cond.static yX0_share, Cond.code yX0_share cX0_share 3 (some .int), Cond.methodLink RL 78 yX4_set, Cond.instanceMethod yX4_set, Cond.selects RX4 yX4_set yX4_set, Cond.code yX4_set cX4_set 8 (some .int), Cond.methodLink RX4 153 yX4_lineOf, Cond.instanceMethod yX4_lineOf, Cond.selects RX4 yX4_lineOf yX4_lineOf, Cond.code yX4_lineOf cX4_lineOf 3 (some .int), Cond.methodLink RX4 156 yX4_wide, Cond.instanceMethod yX4_wide, Cond.selects RX4 yX4_wide yX4_wide, Cond.code yX4_wide cX4_wide 15 (some .int), Cond.methodLink RL 79 yX3_ends, Cond.instanceMethod yX3_ends, Cond.selects RX3 yX3_ends yX3_ends, Cond.code yX3_ends cX3_ends 2 (some .boolean), Cond.methodLink RL 83 yX4_ends]
def wsL_law_r20 : List Cond := [Cond.instanceMethod yX4_ends, Cond.selects RX4 yX4_ends yX4_ends, Cond.code yX4_ends cX4_ends 2 (some .boolean), Cond.methodLink RL 84 yX3_badness, Cond.instanceMethod yX3_badness, Cond.selects RX3 yX3_badness yX3_badness, Cond.code yX3_badness cX3_badness 3 (some .long), Cond.methodLink RX3 133 yX0_linePrice, Cond.methodLink RL 88 yX4_badness, Cond.instanceMethod yX4_badness, Cond.selects RX4 yX4_badness yX4_badness, Cond.code yX4_badness cX4_badness 3 (some .long), Cond.methodLink RL 89 yX3_would, Cond.instanceMethod yX3_would, Cond.selects RX3 yX3_would yX3_would, Cond.code yX3_would cX3_would 4 (some .long), Cond.methodLink RX3 140 yX1_foundTotal, Cond.methodLink RL 92 yX4_would, Cond.instanceMethod yX4_would, Cond.selects RX4 yX4_would yX4_would, Cond.code yX4_would cX4_would 6 (some .long), Cond.methodLink RX4 160 yX4_sum]
def wsL_law : List Cond := (wsL_law_r1 ++ (wsL_law_r2 ++ (wsL_law_r3 ++ (wsL_law_r4 ++ (wsL_law_r5 ++ (wsL_law_r6 ++ (wsL_law_r7 ++ (wsL_law_r8 ++ (wsL_law_r9 ++ (wsL_law_r10 ++ (wsL_law_r11 ++ (wsL_law_r12 ++ (wsL_law_r13 ++ (wsL_law_r14 ++ (wsL_law_r15 ++ (wsL_law_r16 ++ (wsL_law_r17 ++ (wsL_law_r18 ++ (wsL_law_r19 ++ wsL_law_r20))))))))))))))))))) ++ wsX30 ++ wsX40 ++ wsX00 ++ wsX10 ++ wsX20 ++ ([] : List Cond)
theorem mem_pos {big ws : List Cond} (ps : List Nat) (h : ws = ps.filterMap (fun i => big[i]?)) : ∀ w ∈ ws, w ∈ big := by
  intro w hw
  rw [h] at hw
  obtain ⟨i, -, hi⟩ := List.mem_filterMap.mp hw
  exact List.mem_of_getElem? hi
theorem mem_app {big a b : List Cond} (ha : ∀ w ∈ a, w ∈ big) (hb : ∀ w ∈ b, w ∈ big) : ∀ w ∈ a ++ b, w ∈ big := fun w h => (List.mem_append.mp h).elim (ha w) (hb w)
set_option maxRecDepth 20000 in
theorem wsL_law_i1 : ∀ w ∈ wsL_law_r1, w ∈ lw_tbl := mem_pos [32, 33, 26, 384, 385, 31, 381, 382, 25, 383, 34, 35, 36, 37, 38, 39, 40, 41, 27, 160, 91, 92, 29, 161] rfl
set_option maxRecDepth 20000 in
theorem wsL_law_i2 : ∀ w ∈ wsL_law_r2, w ∈ lw_tbl := mem_pos [121, 122, 30, 162, 163, 42, 43, 44, 45, 46, 28, 47, 48, 49, 50, 51, 52, 53, 54, 56, 59, 61, 64, 90] rfl
set_option maxRecDepth 20000 in
theorem wsL_law_i3 : ∀ w ∈ wsL_law_r3, w ∈ lw_tbl := mem_pos [67, 55, 70, 71, 72, 93, 94, 95, 96, 98, 120, 99, 100, 101, 102, 97, 103, 104, 123, 124, 125, 126, 127, 129] rfl
set_option maxRecDepth 20000 in
theorem wsL_law_i4 : ∀ w ∈ wsL_law_r4, w ∈ lw_tbl := mem_pos [131, 133, 135, 137, 139, 141, 386, 387, 388, 389, 397, 398, 449, 399, 400, 402, 406, 408, 409, 410, 411, 394, 395, 390] rfl
set_option maxRecDepth 20000 in
theorem wsL_law_i5 : ∀ w ∈ wsL_law_r5, w ∈ lw_tbl := mem_pos [391, 392, 393, 173, 174, 175, 176, 58, 177, 178, 179, 180, 181, 182, 183, 184, 185, 186, 450, 451, 452, 453, 396, 403] rfl
set_option maxRecDepth 20000 in
theorem wsL_law_i6 : ∀ w ∈ wsL_law_r6, w ∈ lw_tbl := mem_pos [454, 455, 456, 457, 458, 459, 187, 188, 189, 190, 191, 192, 193, 194, 195, 196, 197, 198, 199, 200, 201, 202, 203, 204] rfl
set_option maxRecDepth 20000 in
theorem wsL_law_i7 : ∀ w ∈ wsL_law_r7, w ∈ lw_tbl := mem_pos [205, 206, 460, 461, 462, 463, 464, 466, 8, 467, 207, 208, 209, 210, 211, 212, 213, 214, 215, 216, 217, 218, 468, 469] rfl
set_option maxRecDepth 20000 in
theorem wsL_law_i8 : ∀ w ∈ wsL_law_r8, w ∈ lw_tbl := mem_pos [470, 471, 219, 220, 221, 222, 223, 68, 472, 473, 474, 475, 476, 224, 225, 226, 227, 66, 477, 478, 479, 480, 401, 228] rfl
set_option maxRecDepth 20000 in
theorem wsL_law_i9 : ∀ w ∈ wsL_law_r9, w ∈ lw_tbl := mem_pos [229, 230, 231, 60, 62, 481, 482, 483, 484, 232, 233, 234, 235, 485, 486, 487, 488, 236, 237, 238, 239, 128, 132, 240] rfl
set_option maxRecDepth 20000 in
theorem wsL_law_i10 : ∀ w ∈ wsL_law_r10, w ∈ lw_tbl := mem_pos [242, 0, 243, 244, 245, 246, 247, 57, 65, 248, 250, 1, 251, 252, 253, 254, 255, 256, 257, 258, 259, 260, 269, 261] rfl
set_option maxRecDepth 20000 in
theorem wsL_law_i11 : ∀ w ∈ wsL_law_r11, w ∈ lw_tbl := mem_pos [262, 263, 264, 265, 266, 267, 268, 270, 271, 272, 273, 274, 276, 2, 277, 63, 278, 279, 281, 3, 282, 283, 284, 69] rfl
set_option maxRecDepth 20000 in
theorem wsL_law_i12 : ∀ w ∈ wsL_law_r12, w ∈ lw_tbl := mem_pos [285, 286, 287, 288, 289, 290, 291, 292, 294, 4, 295, 296, 298, 5, 299, 300, 302, 6, 303, 304, 305, 306, 307, 308] rfl
set_option maxRecDepth 20000 in
theorem wsL_law_i13 : ∀ w ∈ wsL_law_r13, w ∈ lw_tbl := mem_pos [309, 310, 311, 312, 313, 314, 315, 316, 317, 318, 319, 320, 321, 322, 323, 324, 489, 490, 491, 492, 405, 493, 495, 9] rfl
set_option maxRecDepth 20000 in
theorem wsL_law_i14 : ∀ w ∈ wsL_law_r14, w ∈ lw_tbl := mem_pos [496, 404, 508, 497, 499, 10, 500, 509, 535, 407, 501, 502, 503, 504, 506, 11, 507, 534, 510, 512, 12, 513, 514, 516] rfl
set_option maxRecDepth 20000 in
theorem wsL_law_i15 : ∀ w ∈ wsL_law_r15, w ∈ lw_tbl := mem_pos [13, 517, 518, 520, 14, 521, 522, 524, 15, 525, 526, 528, 16, 529, 530, 532, 17, 533, 536, 538, 18, 539, 540, 542] rfl
set_option maxRecDepth 20000 in
theorem wsL_law_i16 : ∀ w ∈ wsL_law_r16, w ∈ lw_tbl := mem_pos [19, 543, 544, 546, 20, 547, 548, 550, 21, 551, 325, 326, 327, 328, 134, 552, 553, 554, 555, 329, 330, 331, 332, 130] rfl
set_option maxRecDepth 20000 in
theorem wsL_law_i17 : ∀ w ∈ wsL_law_r17, w ∈ lw_tbl := mem_pos [333, 556, 557, 558, 559, 560, 334, 335, 336, 337, 136, 140, 338, 339, 340, 341, 342, 561, 562, 563, 564, 565, 567, 22] rfl
set_option maxRecDepth 20000 in
theorem wsL_law_i18 : ∀ w ∈ wsL_law_r18, w ∈ lw_tbl := mem_pos [568, 343, 344, 345, 346, 138, 347, 348, 349, 350, 351, 353, 7, 354, 355, 569, 570, 571, 572, 356, 357, 358, 359, 142] rfl
set_option maxRecDepth 20000 in
theorem wsL_law_i19 : ∀ w ∈ wsL_law_r19, w ∈ lw_tbl := mem_pos [360, 361, 362, 363, 364, 365, 366, 573, 574, 575, 576, 577, 579, 23, 580, 581, 583, 24, 584, 367, 368, 369, 370, 585] rfl
set_option maxRecDepth 20000 in
theorem wsL_law_i20 : ∀ w ∈ wsL_law_r20, w ∈ lw_tbl := mem_pos [586, 587, 588, 371, 372, 373, 374, 375, 589, 590, 591, 592, 376, 377, 378, 379, 380, 593, 594, 595, 596, 597] rfl
set_option maxRecDepth 20000 in
theorem wsX00_i : ∀ w ∈ wsX00, w ∈ lw_tbl := mem_pos [73, 75, 77, 79, 81, 83, 85, 87] rfl
set_option maxRecDepth 20000 in
theorem wsX10_i : ∀ w ∈ wsX10, w ∈ lw_tbl := mem_pos [105, 107, 109, 111, 113, 115, 117] rfl
set_option maxRecDepth 20000 in
theorem wsX20_i : ∀ w ∈ wsX20, w ∈ lw_tbl := mem_pos [143, 145, 147, 149, 151, 153, 155, 157] rfl
set_option maxRecDepth 20000 in
theorem wsX30_i : ∀ w ∈ wsX30, w ∈ lw_tbl := mem_pos [164, 166, 168, 170] rfl
set_option maxRecDepth 20000 in
theorem wsX40_i : ∀ w ∈ wsX40, w ∈ lw_tbl := mem_pos [412, 414, 416, 418, 420, 422, 424, 426, 428, 430, 432, 434, 436, 438, 440, 442, 444, 446] rfl
theorem wsL_law_in : ∀ w ∈ wsL_law, w ∈ lw_tbl := (mem_app (mem_app (mem_app (mem_app (mem_app (mem_app (mem_app wsL_law_i1 (mem_app wsL_law_i2 (mem_app wsL_law_i3 (mem_app wsL_law_i4 (mem_app wsL_law_i5 (mem_app wsL_law_i6 (mem_app wsL_law_i7 (mem_app wsL_law_i8 (mem_app wsL_law_i9 (mem_app wsL_law_i10 (mem_app wsL_law_i11 (mem_app wsL_law_i12 (mem_app wsL_law_i13 (mem_app wsL_law_i14 (mem_app wsL_law_i15 (mem_app wsL_law_i16 (mem_app wsL_law_i17 (mem_app wsL_law_i18 (mem_app wsL_law_i19 wsL_law_i20))))))))))))))))))) wsX30_i) wsX40_i) wsX00_i) wsX10_i) wsX20_i) (fun _ h => absurd h List.not_mem_nil))
theorem inlX0 : ∀ w ∈ wsX00, w ∈ wsL_law := fun _ h => List.mem_append_left _ (List.mem_append_left _ (List.mem_append_left _ (List.mem_append_right _ h)))
theorem inX0 : ∀ w ∈ wsX00, w ∈ lw_tbl := fun w h => wsL_law_in w (inlX0 w h)
theorem inlX1 : ∀ w ∈ wsX10, w ∈ wsL_law := fun _ h => List.mem_append_left _ (List.mem_append_left _ (List.mem_append_right _ h))
theorem inX1 : ∀ w ∈ wsX10, w ∈ lw_tbl := fun w h => wsL_law_in w (inlX1 w h)
theorem inlX2 : ∀ w ∈ wsX20, w ∈ wsL_law := fun _ h => List.mem_append_left _ (List.mem_append_right _ h)
theorem inX2 : ∀ w ∈ wsX20, w ∈ lw_tbl := fun w h => wsL_law_in w (inlX2 w h)
theorem inlX3 : ∀ w ∈ wsX30, w ∈ wsL_law := fun _ h => List.mem_append_left _ (List.mem_append_left _ (List.mem_append_left _ (List.mem_append_left _ (List.mem_append_left _ (List.mem_append_right _ h)))))
theorem inX3 : ∀ w ∈ wsX30, w ∈ lw_tbl := fun w h => wsL_law_in w (inlX3 w h)
theorem inlX4 : ∀ w ∈ wsX40, w ∈ wsL_law := fun _ h => List.mem_append_left _ (List.mem_append_left _ (List.mem_append_left _ (List.mem_append_left _ (List.mem_append_right _ h))))
theorem inX4 : ∀ w ∈ wsX40, w ∈ lw_tbl := fun w h => wsL_law_in w (inlX4 w h)
theorem inJ9 : ∀ w ∈ wsJ90, w ∈ lw_tbl := by decide +kernel
end
section
theorem dX0_init_0 : decode cX0_init 0 = .ok (.aload_n 0, 1) := by decide +kernel
theorem dX0_init_1 : decode cX0_init 1 = .ok (.invokespecial 3, 3) := by decide +kernel
theorem dX0_init_4 : decode cX0_init 4 = .ok (.aload_n 0, 1) := by decide +kernel
theorem dX0_init_5 : decode cX0_init 5 = .ok (.iconst 0, 1) := by decide +kernel
theorem dX0_init_6 : decode cX0_init 6 = .ok (.putfield 9, 3) := by decide +kernel
theorem dX0_init_9 : decode cX0_init 9 = .ok (.aload_n 0, 1) := by decide +kernel
theorem dX0_init_10 : decode cX0_init 10 = .ok (.iload_n 1, 1) := by decide +kernel
theorem dX0_init_11 : decode cX0_init 11 = .ok (.putfield 15, 3) := by decide +kernel
theorem dX0_init_14 : decode cX0_init 14 = .ok (.aload_n 0, 1) := by decide +kernel
theorem dX0_init_15 : decode cX0_init 15 = .ok (.iload_n 2, 1) := by decide +kernel
theorem dX0_init_16 : decode cX0_init 16 = .ok (.putfield 18, 3) := by decide +kernel
theorem dX0_init_19 : decode cX0_init 19 = .ok (.aload_n 0, 1) := by decide +kernel
theorem dX0_init_20 : decode cX0_init 20 = .ok (.iconst 0, 1) := by decide +kernel
theorem dX0_init_21 : decode cX0_init 21 = .ok (.putfield 21, 3) := by decide +kernel
theorem dX0_init_24 : decode cX0_init 24 = .ok (.aload_n 0, 1) := by decide +kernel
theorem dX0_init_25 : decode cX0_init 25 = .ok (.iconst 5, 1) := by decide +kernel
theorem dX0_init_26 : decode cX0_init 26 = .ok (.newarray .int, 2) := by decide +kernel
theorem dX0_init_28 : decode cX0_init 28 = .ok (.putfield 24, 3) := by decide +kernel
theorem dX0_init_31 : decode cX0_init 31 = .ok (.aload_n 0, 1) := by decide +kernel
theorem dX0_init_32 : decode cX0_init 32 = .ok (.getfield 24, 3) := by decide +kernel
theorem dX0_init_35 : decode cX0_init 35 = .ok (.iconst 0, 1) := by decide +kernel
theorem dX0_init_36 : decode cX0_init 36 = .ok (.iconst 4, 1) := by decide +kernel
theorem dX0_init_37 : decode cX0_init 37 = .ok (.iastore, 1) := by decide +kernel
theorem dX0_init_38 : decode cX0_init 38 = .ok (.aload_n 0, 1) := by decide +kernel
theorem dX0_init_39 : decode cX0_init 39 = .ok (.getfield 24, 3) := by decide +kernel
theorem dX0_init_42 : decode cX0_init 42 = .ok (.iconst 1, 1) := by decide +kernel
theorem dX0_init_43 : decode cX0_init 43 = .ok (.sipush 1000, 3) := by decide +kernel
theorem dX0_init_46 : decode cX0_init 46 = .ok (.iastore, 1) := by decide +kernel
theorem dX0_init_47 : decode cX0_init 47 = .ok (.aload_n 0, 1) := by decide +kernel
theorem dX0_init_48 : decode cX0_init 48 = .ok (.getfield 24, 3) := by decide +kernel
theorem dX0_init_51 : decode cX0_init 51 = .ok (.iconst 2, 1) := by decide +kernel
theorem dX0_init_52 : decode cX0_init 52 = .ok (.sipush 500, 3) := by decide +kernel
theorem dX0_init_55 : decode cX0_init 55 = .ok (.iastore, 1) := by decide +kernel
theorem dX0_init_56 : decode cX0_init 56 = .ok (.aload_n 0, 1) := by decide +kernel
theorem dX0_init_57 : decode cX0_init 57 = .ok (.getfield 24, 3) := by decide +kernel
theorem dX0_init_60 : decode cX0_init 60 = .ok (.iconst 3, 1) := by decide +kernel
theorem dX0_init_61 : decode cX0_init 61 = .ok (.ldc 28, 2) := by decide +kernel
theorem dX0_init_63 : decode cX0_init 63 = .ok (.iastore, 1) := by decide +kernel
theorem dX0_init_64 : decode cX0_init 64 = .ok (.aload_n 0, 1) := by decide +kernel
theorem dX0_init_65 : decode cX0_init 65 = .ok (.getfield 24, 3) := by decide +kernel
theorem dX0_init_68 : decode cX0_init 68 = .ok (.iconst 4, 1) := by decide +kernel
theorem dX0_init_69 : decode cX0_init 69 = .ok (.iconst 1, 1) := by decide +kernel
theorem dX0_init_70 : decode cX0_init 70 = .ok (.iastore, 1) := by decide +kernel
theorem dX0_init_71 : decode cX0_init 71 = .ok (.aload_n 0, 1) := by decide +kernel
theorem dX0_init_72 : decode cX0_init 72 = .ok (.iconst 3, 1) := by decide +kernel
theorem dX0_init_73 : decode cX0_init 73 = .ok (.newarray .int, 2) := by decide +kernel
theorem dX0_init_75 : decode cX0_init 75 = .ok (.putfield 29, 3) := by decide +kernel
theorem dX0_init_78 : decode cX0_init 78 = .ok (.aload_n 0, 1) := by decide +kernel
theorem dX0_init_79 : decode cX0_init 79 = .ok (.bipush 25, 2) := by decide +kernel
theorem dX0_init_81 : decode cX0_init 81 = .ok (.newarray .int, 2) := by decide +kernel
theorem dX0_init_83 : decode cX0_init 83 = .ok (.putfield 32, 3) := by decide +kernel
theorem dX0_init_86 : decode cX0_init 86 = .ok (.aload_n 0, 1) := by decide +kernel
theorem dX0_init_87 : decode cX0_init 87 = .ok (.bipush 25, 2) := by decide +kernel
theorem dX0_init_89 : decode cX0_init 89 = .ok (.newarray .int, 2) := by decide +kernel
theorem dX0_init_91 : decode cX0_init 91 = .ok (.putfield 35, 3) := by decide +kernel
theorem dX0_init_94 : decode cX0_init 94 = .ok (.return_, 1) := by decide +kernel
theorem dX0_hasBar_0 : decode cX0_hasBar 0 = .ok (.iload_n 1, 1) := by decide +kernel
theorem dX0_hasBar_1 : decode cX0_hasBar 1 = .ok (.ifCond .lt 15, 3) := by decide +kernel
theorem dX0_hasBar_4 : decode cX0_hasBar 4 = .ok (.iload_n 1, 1) := by decide +kernel
theorem dX0_hasBar_5 : decode cX0_hasBar 5 = .ok (.aload_n 0, 1) := by decide +kernel
theorem dX0_hasBar_6 : decode cX0_hasBar 6 = .ok (.getfield 9, 3) := by decide +kernel
theorem dX0_hasBar_9 : decode cX0_hasBar 9 = .ok (.if_icmp .ge 7, 3) := by decide +kernel
theorem dX0_hasBar_12 : decode cX0_hasBar 12 = .ok (.iconst 1, 1) := by decide +kernel
theorem dX0_hasBar_13 : decode cX0_hasBar 13 = .ok (.goto 4, 3) := by decide +kernel
theorem dX0_hasBar_16 : decode cX0_hasBar 16 = .ok (.iconst 0, 1) := by decide +kernel
theorem dX0_hasBar_17 : decode cX0_hasBar 17 = .ok (.ireturn, 1) := by decide +kernel
theorem dX0_addBar_0 : decode cX0_addBar 0 = .ok (.aload_n 0, 1) := by decide +kernel
theorem dX0_addBar_1 : decode cX0_addBar 1 = .ok (.getfield 9, 3) := by decide +kernel
theorem dX0_addBar_4 : decode cX0_addBar 4 = .ok (.istore_n 3, 1) := by decide +kernel
theorem dX0_addBar_5 : decode cX0_addBar 5 = .ok (.aload_n 0, 1) := by decide +kernel
theorem dX0_addBar_6 : decode cX0_addBar 6 = .ok (.getfield 32, 3) := by decide +kernel
theorem dX0_addBar_9 : decode cX0_addBar 9 = .ok (.iload_n 3, 1) := by decide +kernel
theorem dX0_addBar_10 : decode cX0_addBar 10 = .ok (.iconst 1, 1) := by decide +kernel
theorem dX0_addBar_11 : decode cX0_addBar 11 = .ok (.iadd, 1) := by decide +kernel
theorem dX0_addBar_12 : decode cX0_addBar 12 = .ok (.aload_n 0, 1) := by decide +kernel
theorem dX0_addBar_13 : decode cX0_addBar 13 = .ok (.getfield 32, 3) := by decide +kernel
theorem dX0_addBar_16 : decode cX0_addBar 16 = .ok (.iload_n 3, 1) := by decide +kernel
theorem dX0_addBar_17 : decode cX0_addBar 17 = .ok (.iaload, 1) := by decide +kernel
theorem dX0_addBar_18 : decode cX0_addBar 18 = .ok (.iload_n 1, 1) := by decide +kernel
theorem dX0_addBar_19 : decode cX0_addBar 19 = .ok (.iadd, 1) := by decide +kernel
theorem dX0_addBar_20 : decode cX0_addBar 20 = .ok (.iastore, 1) := by decide +kernel
theorem dX0_addBar_21 : decode cX0_addBar 21 = .ok (.aload_n 0, 1) := by decide +kernel
theorem dX0_addBar_22 : decode cX0_addBar 22 = .ok (.getfield 35, 3) := by decide +kernel
theorem dX0_addBar_25 : decode cX0_addBar 25 = .ok (.iload_n 3, 1) := by decide +kernel
theorem dX0_addBar_26 : decode cX0_addBar 26 = .ok (.iconst 1, 1) := by decide +kernel
theorem dX0_addBar_27 : decode cX0_addBar 27 = .ok (.iadd, 1) := by decide +kernel
theorem dX0_addBar_28 : decode cX0_addBar 28 = .ok (.aload_n 0, 1) := by decide +kernel
theorem dX0_addBar_29 : decode cX0_addBar 29 = .ok (.getfield 35, 3) := by decide +kernel
theorem dX0_addBar_32 : decode cX0_addBar 32 = .ok (.iload_n 3, 1) := by decide +kernel
theorem dX0_addBar_33 : decode cX0_addBar 33 = .ok (.iaload, 1) := by decide +kernel
theorem dX0_addBar_34 : decode cX0_addBar 34 = .ok (.iload_n 2, 1) := by decide +kernel
theorem dX0_addBar_35 : decode cX0_addBar 35 = .ok (.iadd, 1) := by decide +kernel
theorem dX0_addBar_36 : decode cX0_addBar 36 = .ok (.iastore, 1) := by decide +kernel
theorem dX0_addBar_37 : decode cX0_addBar 37 = .ok (.aload_n 0, 1) := by decide +kernel
theorem dX0_addBar_38 : decode cX0_addBar 38 = .ok (.iload_n 3, 1) := by decide +kernel
theorem dX0_addBar_39 : decode cX0_addBar 39 = .ok (.iconst 1, 1) := by decide +kernel
theorem dX0_addBar_40 : decode cX0_addBar 40 = .ok (.iadd, 1) := by decide +kernel
theorem dX0_addBar_41 : decode cX0_addBar 41 = .ok (.putfield 9, 3) := by decide +kernel
theorem dX0_addBar_44 : decode cX0_addBar 44 = .ok (.iload_n 3, 1) := by decide +kernel
theorem dX0_addBar_45 : decode cX0_addBar 45 = .ok (.ireturn, 1) := by decide +kernel
set_option maxRecDepth 20000 in
theorem ggX0_putWidths_X0_leastOf : GoodIn wsX0_putWidths wsX0_leastOf := goodIn_r _ [8, 2, 13, 14, 15, 16, 17, 18, 19, 20] rfl (by decide +kernel)
set_option maxRecDepth 20000 in
theorem gX0_putWidths_X0_leastOf : GoodIn wsX0_putWidths (wsV RX0 38 RX0 yX0_leastOf wsX0_leastOf) := goodIn_app (goodIn_of _ (by decide +kernel)) ggX0_putWidths_X0_leastOf
set_option maxRecDepth 20000 in
theorem ggX0_putWidths_X0_wishedOf : GoodIn wsX0_putWidths wsX0_wishedOf := goodIn_r _ [12, 3, 13, 14, 15, 16, 17, 18, 19, 20] rfl (by decide +kernel)
set_option maxRecDepth 20000 in
theorem gX0_putWidths_X0_wishedOf : GoodIn wsX0_putWidths (wsV RX0 42 RX0 yX0_wishedOf wsX0_wishedOf) := goodIn_app (goodIn_of _ (by decide +kernel)) ggX0_putWidths_X0_wishedOf
theorem dX0_putWidths_0 : decode cX0_putWidths 0 = .ok (.iload_n 2, 1) := by decide +kernel
theorem dX0_putWidths_1 : decode cX0_putWidths 1 = .ok (.aload_n 0, 1) := by decide +kernel
theorem dX0_putWidths_2 : decode cX0_putWidths 2 = .ok (.iload_n 1, 1) := by decide +kernel
theorem dX0_putWidths_3 : decode cX0_putWidths 3 = .ok (.iload_n 1, 1) := by decide +kernel
theorem dX0_putWidths_4 : decode cX0_putWidths 4 = .ok (.invokevirtual 38, 3) := by decide +kernel
theorem dX0_putWidths_7 : decode cX0_putWidths 7 = .ok (.isub, 1) := by decide +kernel
theorem dX0_putWidths_8 : decode cX0_putWidths 8 = .ok (.istore 4, 2) := by decide +kernel
theorem dX0_putWidths_10 : decode cX0_putWidths 10 = .ok (.iload_n 3, 1) := by decide +kernel
theorem dX0_putWidths_11 : decode cX0_putWidths 11 = .ok (.aload_n 0, 1) := by decide +kernel
theorem dX0_putWidths_12 : decode cX0_putWidths 12 = .ok (.iload_n 1, 1) := by decide +kernel
theorem dX0_putWidths_13 : decode cX0_putWidths 13 = .ok (.iload_n 1, 1) := by decide +kernel
theorem dX0_putWidths_14 : decode cX0_putWidths 14 = .ok (.invokevirtual 42, 3) := by decide +kernel
theorem dX0_putWidths_17 : decode cX0_putWidths 17 = .ok (.isub, 1) := by decide +kernel
theorem dX0_putWidths_18 : decode cX0_putWidths 18 = .ok (.istore 5, 2) := by decide +kernel
theorem dX0_putWidths_20 : decode cX0_putWidths 20 = .ok (.iload_n 1, 1) := by decide +kernel
theorem dX0_putWidths_21 : decode cX0_putWidths 21 = .ok (.iconst 1, 1) := by decide +kernel
theorem dX0_putWidths_22 : decode cX0_putWidths 22 = .ok (.iadd, 1) := by decide +kernel
theorem dX0_putWidths_23 : decode cX0_putWidths 23 = .ok (.istore 6, 2) := by decide +kernel
theorem dX0_putWidths_25 : decode cX0_putWidths 25 = .ok (.iload 6, 2) := by decide +kernel
theorem dX0_putWidths_27 : decode cX0_putWidths 27 = .ok (.aload_n 0, 1) := by decide +kernel
theorem dX0_putWidths_28 : decode cX0_putWidths 28 = .ok (.getfield 9, 3) := by decide +kernel
theorem dX0_putWidths_31 : decode cX0_putWidths 31 = .ok (.if_icmp .gt 33, 3) := by decide +kernel
theorem dX0_putWidths_34 : decode cX0_putWidths 34 = .ok (.aload_n 0, 1) := by decide +kernel
theorem dX0_putWidths_35 : decode cX0_putWidths 35 = .ok (.getfield 32, 3) := by decide +kernel
theorem dX0_putWidths_38 : decode cX0_putWidths 38 = .ok (.iload 6, 2) := by decide +kernel
theorem dX0_putWidths_40 : decode cX0_putWidths 40 = .ok (.dup2, 1) := by decide +kernel
theorem dX0_putWidths_41 : decode cX0_putWidths 41 = .ok (.iaload, 1) := by decide +kernel
theorem dX0_putWidths_42 : decode cX0_putWidths 42 = .ok (.iload 4, 2) := by decide +kernel
theorem dX0_putWidths_44 : decode cX0_putWidths 44 = .ok (.iadd, 1) := by decide +kernel
theorem dX0_putWidths_45 : decode cX0_putWidths 45 = .ok (.iastore, 1) := by decide +kernel
theorem dX0_putWidths_46 : decode cX0_putWidths 46 = .ok (.aload_n 0, 1) := by decide +kernel
theorem dX0_putWidths_47 : decode cX0_putWidths 47 = .ok (.getfield 35, 3) := by decide +kernel
theorem dX0_putWidths_50 : decode cX0_putWidths 50 = .ok (.iload 6, 2) := by decide +kernel
theorem dX0_putWidths_52 : decode cX0_putWidths 52 = .ok (.dup2, 1) := by decide +kernel
theorem dX0_putWidths_53 : decode cX0_putWidths 53 = .ok (.iaload, 1) := by decide +kernel
theorem dX0_putWidths_54 : decode cX0_putWidths 54 = .ok (.iload 5, 2) := by decide +kernel
theorem dX0_putWidths_56 : decode cX0_putWidths 56 = .ok (.iadd, 1) := by decide +kernel
theorem dX0_putWidths_57 : decode cX0_putWidths 57 = .ok (.iastore, 1) := by decide +kernel
theorem dX0_putWidths_58 : decode cX0_putWidths 58 = .ok (.iinc 6 1, 3) := by decide +kernel
theorem dX0_putWidths_61 : decode cX0_putWidths 61 = .ok (.goto (-36), 3) := by decide +kernel
theorem dX0_putWidths_64 : decode cX0_putWidths 64 = .ok (.return_, 1) := by decide +kernel
theorem dX0_isMarked_0 : decode cX0_isMarked 0 = .ok (.aload_n 0, 1) := by decide +kernel
theorem dX0_isMarked_1 : decode cX0_isMarked 1 = .ok (.getfield 29, 3) := by decide +kernel
theorem dX0_isMarked_4 : decode cX0_isMarked 4 = .ok (.iload_n 2, 1) := by decide +kernel
theorem dX0_isMarked_5 : decode cX0_isMarked 5 = .ok (.iaload, 1) := by decide +kernel
theorem dX0_isMarked_6 : decode cX0_isMarked 6 = .ok (.iload_n 1, 1) := by decide +kernel
theorem dX0_isMarked_7 : decode cX0_isMarked 7 = .ok (.ishr, 1) := by decide +kernel
theorem dX0_isMarked_8 : decode cX0_isMarked 8 = .ok (.iconst 1, 1) := by decide +kernel
theorem dX0_isMarked_9 : decode cX0_isMarked 9 = .ok (.iand, 1) := by decide +kernel
theorem dX0_isMarked_10 : decode cX0_isMarked 10 = .ok (.iconst 1, 1) := by decide +kernel
theorem dX0_isMarked_11 : decode cX0_isMarked 11 = .ok (.if_icmp .ne 7, 3) := by decide +kernel
theorem dX0_isMarked_14 : decode cX0_isMarked 14 = .ok (.iconst 1, 1) := by decide +kernel
theorem dX0_isMarked_15 : decode cX0_isMarked 15 = .ok (.goto 4, 3) := by decide +kernel
theorem dX0_isMarked_18 : decode cX0_isMarked 18 = .ok (.iconst 0, 1) := by decide +kernel
theorem dX0_isMarked_19 : decode cX0_isMarked 19 = .ok (.ireturn, 1) := by decide +kernel
theorem dX0_putMark_0 : decode cX0_putMark 0 = .ok (.iconst 1, 1) := by decide +kernel
theorem dX0_putMark_1 : decode cX0_putMark 1 = .ok (.iload_n 1, 1) := by decide +kernel
theorem dX0_putMark_2 : decode cX0_putMark 2 = .ok (.ishl, 1) := by decide +kernel
theorem dX0_putMark_3 : decode cX0_putMark 3 = .ok (.istore 4, 2) := by decide +kernel
theorem dX0_putMark_5 : decode cX0_putMark 5 = .ok (.aload_n 0, 1) := by decide +kernel
theorem dX0_putMark_6 : decode cX0_putMark 6 = .ok (.getfield 29, 3) := by decide +kernel
theorem dX0_putMark_9 : decode cX0_putMark 9 = .ok (.iload_n 2, 1) := by decide +kernel
theorem dX0_putMark_10 : decode cX0_putMark 10 = .ok (.iload_n 3, 1) := by decide +kernel
theorem dX0_putMark_11 : decode cX0_putMark 11 = .ok (.ifCond .eq 15, 3) := by decide +kernel
theorem dX0_putMark_14 : decode cX0_putMark 14 = .ok (.aload_n 0, 1) := by decide +kernel
theorem dX0_putMark_15 : decode cX0_putMark 15 = .ok (.getfield 29, 3) := by decide +kernel
theorem dX0_putMark_18 : decode cX0_putMark 18 = .ok (.iload_n 2, 1) := by decide +kernel
theorem dX0_putMark_19 : decode cX0_putMark 19 = .ok (.iaload, 1) := by decide +kernel
theorem dX0_putMark_20 : decode cX0_putMark 20 = .ok (.iload 4, 2) := by decide +kernel
theorem dX0_putMark_22 : decode cX0_putMark 22 = .ok (.ior, 1) := by decide +kernel
theorem dX0_putMark_23 : decode cX0_putMark 23 = .ok (.goto 14, 3) := by decide +kernel
theorem dX0_putMark_26 : decode cX0_putMark 26 = .ok (.aload_n 0, 1) := by decide +kernel
theorem dX0_putMark_27 : decode cX0_putMark 27 = .ok (.getfield 29, 3) := by decide +kernel
theorem dX0_putMark_30 : decode cX0_putMark 30 = .ok (.iload_n 2, 1) := by decide +kernel
theorem dX0_putMark_31 : decode cX0_putMark 31 = .ok (.iaload, 1) := by decide +kernel
theorem dX0_putMark_32 : decode cX0_putMark 32 = .ok (.iload 4, 2) := by decide +kernel
theorem dX0_putMark_34 : decode cX0_putMark 34 = .ok (.iconst (-1), 1) := by decide +kernel
theorem dX0_putMark_35 : decode cX0_putMark 35 = .ok (.ixor, 1) := by decide +kernel
theorem dX0_putMark_36 : decode cX0_putMark 36 = .ok (.iand, 1) := by decide +kernel
theorem dX0_putMark_37 : decode cX0_putMark 37 = .ok (.iastore, 1) := by decide +kernel
theorem dX0_putMark_38 : decode cX0_putMark 38 = .ok (.return_, 1) := by decide +kernel
theorem dX0_leastOf_0 : decode cX0_leastOf 0 = .ok (.aload_n 0, 1) := by decide +kernel
theorem dX0_leastOf_1 : decode cX0_leastOf 1 = .ok (.getfield 32, 3) := by decide +kernel
theorem dX0_leastOf_4 : decode cX0_leastOf 4 = .ok (.iload_n 2, 1) := by decide +kernel
theorem dX0_leastOf_5 : decode cX0_leastOf 5 = .ok (.iconst 1, 1) := by decide +kernel
theorem dX0_leastOf_6 : decode cX0_leastOf 6 = .ok (.iadd, 1) := by decide +kernel
theorem dX0_leastOf_7 : decode cX0_leastOf 7 = .ok (.iaload, 1) := by decide +kernel
theorem dX0_leastOf_8 : decode cX0_leastOf 8 = .ok (.aload_n 0, 1) := by decide +kernel
theorem dX0_leastOf_9 : decode cX0_leastOf 9 = .ok (.getfield 32, 3) := by decide +kernel
theorem dX0_leastOf_12 : decode cX0_leastOf 12 = .ok (.iload_n 1, 1) := by decide +kernel
theorem dX0_leastOf_13 : decode cX0_leastOf 13 = .ok (.iaload, 1) := by decide +kernel
theorem dX0_leastOf_14 : decode cX0_leastOf 14 = .ok (.isub, 1) := by decide +kernel
theorem dX0_leastOf_15 : decode cX0_leastOf 15 = .ok (.ireturn, 1) := by decide +kernel
theorem dX0_wishedOf_0 : decode cX0_wishedOf 0 = .ok (.aload_n 0, 1) := by decide +kernel
theorem dX0_wishedOf_1 : decode cX0_wishedOf 1 = .ok (.getfield 35, 3) := by decide +kernel
theorem dX0_wishedOf_4 : decode cX0_wishedOf 4 = .ok (.iload_n 2, 1) := by decide +kernel
theorem dX0_wishedOf_5 : decode cX0_wishedOf 5 = .ok (.iconst 1, 1) := by decide +kernel
theorem dX0_wishedOf_6 : decode cX0_wishedOf 6 = .ok (.iadd, 1) := by decide +kernel
theorem dX0_wishedOf_7 : decode cX0_wishedOf 7 = .ok (.iaload, 1) := by decide +kernel
theorem dX0_wishedOf_8 : decode cX0_wishedOf 8 = .ok (.aload_n 0, 1) := by decide +kernel
theorem dX0_wishedOf_9 : decode cX0_wishedOf 9 = .ok (.getfield 35, 3) := by decide +kernel
theorem dX0_wishedOf_12 : decode cX0_wishedOf 12 = .ok (.iload_n 1, 1) := by decide +kernel
theorem dX0_wishedOf_13 : decode cX0_wishedOf 13 = .ok (.iaload, 1) := by decide +kernel
theorem dX0_wishedOf_14 : decode cX0_wishedOf 14 = .ok (.isub, 1) := by decide +kernel
theorem dX0_wishedOf_15 : decode cX0_wishedOf 15 = .ok (.ireturn, 1) := by decide +kernel
set_option maxRecDepth 20000 in
theorem ggX0_spare_X0_wishedOf : GoodIn wsX0_spare wsX0_wishedOf := goodIn_r _ [6, 7, 8, 9, 10, 11, 12, 13, 14, 15] rfl (by decide +kernel)
set_option maxRecDepth 20000 in
theorem gX0_spare_X0_wishedOf : GoodIn wsX0_spare (wsV RX0 42 RX0 yX0_wishedOf wsX0_wishedOf) := goodIn_app (goodIn_of _ (by decide +kernel)) ggX0_spare_X0_wishedOf
theorem dX0_spare_0 : decode cX0_spare 0 = .ok (.aload_n 0, 1) := by decide +kernel
theorem dX0_spare_1 : decode cX0_spare 1 = .ok (.getfield 15, 3) := by decide +kernel
theorem dX0_spare_4 : decode cX0_spare 4 = .ok (.aload_n 0, 1) := by decide +kernel
theorem dX0_spare_5 : decode cX0_spare 5 = .ok (.iload_n 1, 1) := by decide +kernel
theorem dX0_spare_6 : decode cX0_spare 6 = .ok (.iload_n 2, 1) := by decide +kernel
theorem dX0_spare_7 : decode cX0_spare 7 = .ok (.invokevirtual 42, 3) := by decide +kernel
theorem dX0_spare_10 : decode cX0_spare 10 = .ok (.isub, 1) := by decide +kernel
theorem dX0_spare_11 : decode cX0_spare 11 = .ok (.ireturn, 1) := by decide +kernel
theorem dX0_isOver_0 : decode cX0_isOver 0 = .ok (.aload_n 0, 1) := by decide +kernel
theorem dX0_isOver_1 : decode cX0_isOver 1 = .ok (.getfield 32, 3) := by decide +kernel
theorem dX0_isOver_4 : decode cX0_isOver 4 = .ok (.iload_n 2, 1) := by decide +kernel
theorem dX0_isOver_5 : decode cX0_isOver 5 = .ok (.iconst 1, 1) := by decide +kernel
theorem dX0_isOver_6 : decode cX0_isOver 6 = .ok (.iadd, 1) := by decide +kernel
theorem dX0_isOver_7 : decode cX0_isOver 7 = .ok (.iaload, 1) := by decide +kernel
theorem dX0_isOver_8 : decode cX0_isOver 8 = .ok (.aload_n 0, 1) := by decide +kernel
theorem dX0_isOver_9 : decode cX0_isOver 9 = .ok (.getfield 32, 3) := by decide +kernel
theorem dX0_isOver_12 : decode cX0_isOver 12 = .ok (.iload_n 1, 1) := by decide +kernel
theorem dX0_isOver_13 : decode cX0_isOver 13 = .ok (.iaload, 1) := by decide +kernel
theorem dX0_isOver_14 : decode cX0_isOver 14 = .ok (.isub, 1) := by decide +kernel
theorem dX0_isOver_15 : decode cX0_isOver 15 = .ok (.aload_n 0, 1) := by decide +kernel
theorem dX0_isOver_16 : decode cX0_isOver 16 = .ok (.getfield 15, 3) := by decide +kernel
theorem dX0_isOver_19 : decode cX0_isOver 19 = .ok (.if_icmp .le 7, 3) := by decide +kernel
theorem dX0_isOver_22 : decode cX0_isOver 22 = .ok (.iconst 1, 1) := by decide +kernel
theorem dX0_isOver_23 : decode cX0_isOver 23 = .ok (.goto 4, 3) := by decide +kernel
theorem dX0_isOver_26 : decode cX0_isOver 26 = .ok (.iconst 0, 1) := by decide +kernel
theorem dX0_isOver_27 : decode cX0_isOver 27 = .ok (.ireturn, 1) := by decide +kernel
set_option maxRecDepth 20000 in
theorem ggX0_mayBe_X0_isMarked : GoodIn wsX0_mayBe wsX0_isMarked := goodIn_r _ [7, 1, 14, 15, 16, 17, 18, 19, 20, 21] rfl (by decide +kernel)
set_option maxRecDepth 20000 in
theorem gX0_mayBe_X0_isMarked : GoodIn wsX0_mayBe (wsV RX0 45 RX0 yX0_isMarked wsX0_isMarked) := goodIn_app (goodIn_of _ (by decide +kernel)) ggX0_mayBe_X0_isMarked
set_option maxRecDepth 20000 in
theorem ggX0_mayBe_X0_isOver : GoodIn wsX0_mayBe wsX0_isOver := goodIn_r _ [11, 12, 13, 14, 15, 16, 17, 18, 19, 20, 21] rfl (by decide +kernel)
set_option maxRecDepth 20000 in
theorem gX0_mayBe_X0_isOver : GoodIn wsX0_mayBe (wsV RX0 49 RX0 yX0_isOver wsX0_isOver) := goodIn_app (goodIn_of _ (by decide +kernel)) ggX0_mayBe_X0_isOver
theorem dX0_mayBe_0 : decode cX0_mayBe 0 = .ok (.iconst 1, 1) := by decide +kernel
theorem dX0_mayBe_1 : decode cX0_mayBe 1 = .ok (.iload_n 2, 1) := by decide +kernel
theorem dX0_mayBe_2 : decode cX0_mayBe 2 = .ok (.ishl, 1) := by decide +kernel
theorem dX0_mayBe_3 : decode cX0_mayBe 3 = .ok (.iconst 1, 1) := by decide +kernel
theorem dX0_mayBe_4 : decode cX0_mayBe 4 = .ok (.iload_n 1, 1) := by decide +kernel
theorem dX0_mayBe_5 : decode cX0_mayBe 5 = .ok (.ishl, 1) := by decide +kernel
theorem dX0_mayBe_6 : decode cX0_mayBe 6 = .ok (.isub, 1) := by decide +kernel
theorem dX0_mayBe_7 : decode cX0_mayBe 7 = .ok (.istore_n 3, 1) := by decide +kernel
theorem dX0_mayBe_8 : decode cX0_mayBe 8 = .ok (.aload_n 0, 1) := by decide +kernel
theorem dX0_mayBe_9 : decode cX0_mayBe 9 = .ok (.getfield 29, 3) := by decide +kernel
theorem dX0_mayBe_12 : decode cX0_mayBe 12 = .ok (.iconst 0, 1) := by decide +kernel
theorem dX0_mayBe_13 : decode cX0_mayBe 13 = .ok (.iaload, 1) := by decide +kernel
theorem dX0_mayBe_14 : decode cX0_mayBe 14 = .ok (.iload_n 3, 1) := by decide +kernel
theorem dX0_mayBe_15 : decode cX0_mayBe 15 = .ok (.iand, 1) := by decide +kernel
theorem dX0_mayBe_16 : decode cX0_mayBe 16 = .ok (.ifCond .eq 5, 3) := by decide +kernel
theorem dX0_mayBe_19 : decode cX0_mayBe 19 = .ok (.iconst 0, 1) := by decide +kernel
theorem dX0_mayBe_20 : decode cX0_mayBe 20 = .ok (.ireturn, 1) := by decide +kernel
theorem dX0_mayBe_21 : decode cX0_mayBe 21 = .ok (.aload_n 0, 1) := by decide +kernel
theorem dX0_mayBe_22 : decode cX0_mayBe 22 = .ok (.iload_n 2, 1) := by decide +kernel
theorem dX0_mayBe_23 : decode cX0_mayBe 23 = .ok (.iconst 1, 1) := by decide +kernel
theorem dX0_mayBe_24 : decode cX0_mayBe 24 = .ok (.invokevirtual 45, 3) := by decide +kernel
theorem dX0_mayBe_27 : decode cX0_mayBe 27 = .ok (.ifCond .eq 24, 3) := by decide +kernel
theorem dX0_mayBe_30 : decode cX0_mayBe 30 = .ok (.aload_n 0, 1) := by decide +kernel
theorem dX0_mayBe_31 : decode cX0_mayBe 31 = .ok (.iload_n 2, 1) := by decide +kernel
theorem dX0_mayBe_32 : decode cX0_mayBe 32 = .ok (.iconst 0, 1) := by decide +kernel
theorem dX0_mayBe_33 : decode cX0_mayBe 33 = .ok (.invokevirtual 45, 3) := by decide +kernel
theorem dX0_mayBe_36 : decode cX0_mayBe 36 = .ok (.ifCond .ne 15, 3) := by decide +kernel
theorem dX0_mayBe_39 : decode cX0_mayBe 39 = .ok (.iload_n 2, 1) := by decide +kernel
theorem dX0_mayBe_40 : decode cX0_mayBe 40 = .ok (.aload_n 0, 1) := by decide +kernel
theorem dX0_mayBe_41 : decode cX0_mayBe 41 = .ok (.getfield 9, 3) := by decide +kernel
theorem dX0_mayBe_44 : decode cX0_mayBe 44 = .ok (.iconst 1, 1) := by decide +kernel
theorem dX0_mayBe_45 : decode cX0_mayBe 45 = .ok (.isub, 1) := by decide +kernel
theorem dX0_mayBe_46 : decode cX0_mayBe 46 = .ok (.if_icmp .eq 5, 3) := by decide +kernel
theorem dX0_mayBe_49 : decode cX0_mayBe 49 = .ok (.iconst 0, 1) := by decide +kernel
theorem dX0_mayBe_50 : decode cX0_mayBe 50 = .ok (.ireturn, 1) := by decide +kernel
theorem dX0_mayBe_51 : decode cX0_mayBe 51 = .ok (.iload_n 1, 1) := by decide +kernel
theorem dX0_mayBe_52 : decode cX0_mayBe 52 = .ok (.iload_n 2, 1) := by decide +kernel
theorem dX0_mayBe_53 : decode cX0_mayBe 53 = .ok (.if_icmp .eq 12, 3) := by decide +kernel
theorem dX0_mayBe_56 : decode cX0_mayBe 56 = .ok (.aload_n 0, 1) := by decide +kernel
theorem dX0_mayBe_57 : decode cX0_mayBe 57 = .ok (.iload_n 1, 1) := by decide +kernel
theorem dX0_mayBe_58 : decode cX0_mayBe 58 = .ok (.iload_n 2, 1) := by decide +kernel
theorem dX0_mayBe_59 : decode cX0_mayBe 59 = .ok (.invokevirtual 49, 3) := by decide +kernel
theorem dX0_mayBe_62 : decode cX0_mayBe 62 = .ok (.ifCond .ne 7, 3) := by decide +kernel
theorem dX0_mayBe_65 : decode cX0_mayBe 65 = .ok (.iconst 1, 1) := by decide +kernel
theorem dX0_mayBe_66 : decode cX0_mayBe 66 = .ok (.goto 4, 3) := by decide +kernel
theorem dX0_mayBe_69 : decode cX0_mayBe 69 = .ok (.iconst 0, 1) := by decide +kernel
theorem dX0_mayBe_70 : decode cX0_mayBe 70 = .ok (.ireturn, 1) := by decide +kernel
set_option maxRecDepth 20000 in
theorem ggX0_linePrice_X0_mayBe : GoodIn wsX0_linePrice wsX0_mayBe := goodIn_r _ [8, 9, 3, 10, 11, 12, 7, 13, 14, 15, 16, 17, 18, 19, 29, 30, 31, 32, 33, 34, 35, 36] rfl (by decide +kernel)
set_option maxRecDepth 20000 in
theorem gX0_linePrice_X0_mayBe : GoodIn wsX0_linePrice (wsV RX0 52 RX0 yX0_mayBe wsX0_mayBe) := goodIn_app (goodIn_of _ (by decide +kernel)) ggX0_linePrice_X0_mayBe
set_option maxRecDepth 20000 in
theorem ggX0_linePrice_X0_isOver : GoodIn wsX0_linePrice wsX0_isOver := goodIn_r _ [17, 18, 19, 29, 30, 31, 32, 33, 34, 35, 36] rfl (by decide +kernel)
set_option maxRecDepth 20000 in
theorem gX0_linePrice_X0_isOver : GoodIn wsX0_linePrice (wsV RX0 49 RX0 yX0_isOver wsX0_isOver) := goodIn_app (goodIn_of _ (by decide +kernel)) ggX0_linePrice_X0_isOver
set_option maxRecDepth 20000 in
theorem ggX0_linePrice_X0_spare : GoodIn wsX0_linePrice wsX0_spare := goodIn_r _ [23, 19, 24, 25, 26, 7, 27, 28, 29, 30, 31, 32, 33, 34, 35, 36] rfl (by decide +kernel)
set_option maxRecDepth 20000 in
theorem gX0_linePrice_X0_spare : GoodIn wsX0_linePrice (wsV RX0 57 RX0 yX0_spare wsX0_spare) := goodIn_app (goodIn_of _ (by decide +kernel)) ggX0_linePrice_X0_spare
theorem dX0_linePrice_0 : decode cX0_linePrice 0 = .ok (.aload_n 0, 1) := by decide +kernel
theorem dX0_linePrice_1 : decode cX0_linePrice 1 = .ok (.iload_n 1, 1) := by decide +kernel
theorem dX0_linePrice_2 : decode cX0_linePrice 2 = .ok (.iload_n 2, 1) := by decide +kernel
theorem dX0_linePrice_3 : decode cX0_linePrice 3 = .ok (.invokevirtual 52, 3) := by decide +kernel
theorem dX0_linePrice_6 : decode cX0_linePrice 6 = .ok (.ifCond .ne 7, 3) := by decide +kernel
theorem dX0_linePrice_9 : decode cX0_linePrice 9 = .ok (.ldc2_w 55, 3) := by decide +kernel
theorem dX0_linePrice_12 : decode cX0_linePrice 12 = .ok (.lreturn, 1) := by decide +kernel
theorem dX0_linePrice_13 : decode cX0_linePrice 13 = .ok (.aload_n 0, 1) := by decide +kernel
theorem dX0_linePrice_14 : decode cX0_linePrice 14 = .ok (.iload_n 1, 1) := by decide +kernel
theorem dX0_linePrice_15 : decode cX0_linePrice 15 = .ok (.iload_n 2, 1) := by decide +kernel
theorem dX0_linePrice_16 : decode cX0_linePrice 16 = .ok (.invokevirtual 49, 3) := by decide +kernel
theorem dX0_linePrice_19 : decode cX0_linePrice 19 = .ok (.ifCond .eq 11, 3) := by decide +kernel
theorem dX0_linePrice_22 : decode cX0_linePrice 22 = .ok (.aload_n 0, 1) := by decide +kernel
theorem dX0_linePrice_23 : decode cX0_linePrice 23 = .ok (.getfield 24, 3) := by decide +kernel
theorem dX0_linePrice_26 : decode cX0_linePrice 26 = .ok (.iconst 3, 1) := by decide +kernel
theorem dX0_linePrice_27 : decode cX0_linePrice 27 = .ok (.iaload, 1) := by decide +kernel
theorem dX0_linePrice_28 : decode cX0_linePrice 28 = .ok (.i2l, 1) := by decide +kernel
theorem dX0_linePrice_29 : decode cX0_linePrice 29 = .ok (.lreturn, 1) := by decide +kernel
theorem dX0_linePrice_30 : decode cX0_linePrice 30 = .ok (.aload_n 0, 1) := by decide +kernel
theorem dX0_linePrice_31 : decode cX0_linePrice 31 = .ok (.iload_n 1, 1) := by decide +kernel
theorem dX0_linePrice_32 : decode cX0_linePrice 32 = .ok (.iload_n 2, 1) := by decide +kernel
theorem dX0_linePrice_33 : decode cX0_linePrice 33 = .ok (.invokevirtual 57, 3) := by decide +kernel
theorem dX0_linePrice_36 : decode cX0_linePrice 36 = .ok (.i2l, 1) := by decide +kernel
theorem dX0_linePrice_37 : decode cX0_linePrice 37 = .ok (.lstore_n 3, 1) := by decide +kernel
theorem dX0_linePrice_38 : decode cX0_linePrice 38 = .ok (.lload_n 3, 1) := by decide +kernel
theorem dX0_linePrice_39 : decode cX0_linePrice 39 = .ok (.lconst 0, 1) := by decide +kernel
theorem dX0_linePrice_40 : decode cX0_linePrice 40 = .ok (.lcmp, 1) := by decide +kernel
theorem dX0_linePrice_41 : decode cX0_linePrice 41 = .ok (.ifCond .ge 15, 3) := by decide +kernel
theorem dX0_linePrice_44 : decode cX0_linePrice 44 = .ok (.aload_n 0, 1) := by decide +kernel
theorem dX0_linePrice_45 : decode cX0_linePrice 45 = .ok (.getfield 24, 3) := by decide +kernel
theorem dX0_linePrice_48 : decode cX0_linePrice 48 = .ok (.iconst 0, 1) := by decide +kernel
theorem dX0_linePrice_49 : decode cX0_linePrice 49 = .ok (.iaload, 1) := by decide +kernel
theorem dX0_linePrice_50 : decode cX0_linePrice 50 = .ok (.i2l, 1) := by decide +kernel
theorem dX0_linePrice_51 : decode cX0_linePrice 51 = .ok (.lload_n 3, 1) := by decide +kernel
theorem dX0_linePrice_52 : decode cX0_linePrice 52 = .ok (.lmul, 1) := by decide +kernel
theorem dX0_linePrice_53 : decode cX0_linePrice 53 = .ok (.lload_n 3, 1) := by decide +kernel
theorem dX0_linePrice_54 : decode cX0_linePrice 54 = .ok (.lmul, 1) := by decide +kernel
theorem dX0_linePrice_55 : decode cX0_linePrice 55 = .ok (.lreturn, 1) := by decide +kernel
theorem dX0_linePrice_56 : decode cX0_linePrice 56 = .ok (.iload_n 2, 1) := by decide +kernel
theorem dX0_linePrice_57 : decode cX0_linePrice 57 = .ok (.aload_n 0, 1) := by decide +kernel
theorem dX0_linePrice_58 : decode cX0_linePrice 58 = .ok (.getfield 9, 3) := by decide +kernel
theorem dX0_linePrice_61 : decode cX0_linePrice 61 = .ok (.iconst 1, 1) := by decide +kernel
theorem dX0_linePrice_62 : decode cX0_linePrice 62 = .ok (.isub, 1) := by decide +kernel
theorem dX0_linePrice_63 : decode cX0_linePrice 63 = .ok (.if_icmp .ne 7, 3) := by decide +kernel
theorem dX0_linePrice_66 : decode cX0_linePrice 66 = .ok (.lconst 0, 1) := by decide +kernel
theorem dX0_linePrice_67 : decode cX0_linePrice 67 = .ok (.goto 14, 3) := by decide +kernel
theorem dX0_linePrice_70 : decode cX0_linePrice 70 = .ok (.aload_n 0, 1) := by decide +kernel
theorem dX0_linePrice_71 : decode cX0_linePrice 71 = .ok (.getfield 24, 3) := by decide +kernel
theorem dX0_linePrice_74 : decode cX0_linePrice 74 = .ok (.iconst 4, 1) := by decide +kernel
theorem dX0_linePrice_75 : decode cX0_linePrice 75 = .ok (.iaload, 1) := by decide +kernel
theorem dX0_linePrice_76 : decode cX0_linePrice 76 = .ok (.i2l, 1) := by decide +kernel
theorem dX0_linePrice_77 : decode cX0_linePrice 77 = .ok (.lload_n 3, 1) := by decide +kernel
theorem dX0_linePrice_78 : decode cX0_linePrice 78 = .ok (.lmul, 1) := by decide +kernel
theorem dX0_linePrice_79 : decode cX0_linePrice 79 = .ok (.lload_n 3, 1) := by decide +kernel
theorem dX0_linePrice_80 : decode cX0_linePrice 80 = .ok (.lmul, 1) := by decide +kernel
theorem dX0_linePrice_81 : decode cX0_linePrice 81 = .ok (.lreturn, 1) := by decide +kernel
set_option maxRecDepth 20000 in
theorem ggX0_turnPrice_X0_isMarked : GoodIn wsX0_turnPrice wsX0_isMarked := goodIn_r _ [6, 7, 8, 9, 10, 11, 12, 13, 14, 15] rfl (by decide +kernel)
set_option maxRecDepth 20000 in
theorem gX0_turnPrice_X0_isMarked : GoodIn wsX0_turnPrice (wsV RX0 45 RX0 yX0_isMarked wsX0_isMarked) := goodIn_app (goodIn_of _ (by decide +kernel)) ggX0_turnPrice_X0_isMarked
theorem dX0_turnPrice_0 : decode cX0_turnPrice 0 = .ok (.aload_n 0, 1) := by decide +kernel
theorem dX0_turnPrice_1 : decode cX0_turnPrice 1 = .ok (.iload_n 1, 1) := by decide +kernel
theorem dX0_turnPrice_2 : decode cX0_turnPrice 2 = .ok (.iconst 2, 1) := by decide +kernel
theorem dX0_turnPrice_3 : decode cX0_turnPrice 3 = .ok (.invokevirtual 45, 3) := by decide +kernel
theorem dX0_turnPrice_6 : decode cX0_turnPrice 6 = .ok (.ifCond .eq 7, 3) := by decide +kernel
theorem dX0_turnPrice_9 : decode cX0_turnPrice 9 = .ok (.iconst 0, 1) := by decide +kernel
theorem dX0_turnPrice_10 : decode cX0_turnPrice 10 = .ok (.goto 9, 3) := by decide +kernel
theorem dX0_turnPrice_13 : decode cX0_turnPrice 13 = .ok (.aload_n 0, 1) := by decide +kernel
theorem dX0_turnPrice_14 : decode cX0_turnPrice 14 = .ok (.getfield 24, 3) := by decide +kernel
theorem dX0_turnPrice_17 : decode cX0_turnPrice 17 = .ok (.iconst 1, 1) := by decide +kernel
theorem dX0_turnPrice_18 : decode cX0_turnPrice 18 = .ok (.iaload, 1) := by decide +kernel
theorem dX0_turnPrice_19 : decode cX0_turnPrice 19 = .ok (.ireturn, 1) := by decide +kernel
set_option maxRecDepth 20000 in
theorem ggX0_setAhead_X0_isOver : GoodIn wsX0_setAhead wsX0_isOver := goodIn_r _ [7, 1, 8, 24, 25, 26, 27, 28, 29, 30, 31] rfl (by decide +kernel)
set_option maxRecDepth 20000 in
theorem gX0_setAhead_X0_isOver : GoodIn wsX0_setAhead (wsV RX0 49 RX0 yX0_isOver wsX0_isOver) := goodIn_app (goodIn_of _ (by decide +kernel)) ggX0_setAhead_X0_isOver
set_option maxRecDepth 20000 in
theorem ggX0_setAhead_X0_spare : GoodIn wsX0_setAhead wsX0_spare := goodIn_r _ [12, 8, 13, 14, 15, 6, 16, 2, 24, 25, 26, 27, 28, 29, 30, 31] rfl (by decide +kernel)
set_option maxRecDepth 20000 in
theorem gX0_setAhead_X0_spare : GoodIn wsX0_setAhead (wsV RX0 57 RX0 yX0_spare wsX0_spare) := goodIn_app (goodIn_of _ (by decide +kernel)) ggX0_setAhead_X0_spare
set_option maxRecDepth 20000 in
theorem ggX0_setAhead_X0_wishedOf : GoodIn wsX0_setAhead wsX0_wishedOf := goodIn_r _ [16, 2, 24, 25, 26, 27, 28, 29, 30, 31] rfl (by decide +kernel)
set_option maxRecDepth 20000 in
theorem gX0_setAhead_X0_wishedOf : GoodIn wsX0_setAhead (wsV RX0 42 RX0 yX0_wishedOf wsX0_wishedOf) := goodIn_app (goodIn_of _ (by decide +kernel)) ggX0_setAhead_X0_wishedOf
set_option maxRecDepth 20000 in
theorem ggX0_setAhead_X0_share : GoodIn wsX0_setAhead wsX0_share := goodIn_r _ [19] rfl (by decide +kernel)
set_option maxRecDepth 20000 in
theorem gX0_setAhead_X0_share : GoodIn wsX0_setAhead (va_wsS RX0 60 yX0_share wsX0_share) := goodIn_app (goodIn_of _ (by decide +kernel)) ggX0_setAhead_X0_share
set_option maxRecDepth 20000 in
theorem ggX0_setAhead_X0_leastOf : GoodIn wsX0_setAhead wsX0_leastOf := goodIn_r _ [23, 1, 24, 25, 26, 27, 28, 29, 30, 31] rfl (by decide +kernel)
set_option maxRecDepth 20000 in
theorem gX0_setAhead_X0_leastOf : GoodIn wsX0_setAhead (wsV RX0 38 RX0 yX0_leastOf wsX0_leastOf) := goodIn_app (goodIn_of _ (by decide +kernel)) ggX0_setAhead_X0_leastOf
theorem dX0_setAhead_0 : decode cX0_setAhead 0 = .ok (.aload_n 0, 1) := by decide +kernel
theorem dX0_setAhead_1 : decode cX0_setAhead 1 = .ok (.getfield 32, 3) := by decide +kernel
theorem dX0_setAhead_4 : decode cX0_setAhead 4 = .ok (.iload_n 3, 1) := by decide +kernel
theorem dX0_setAhead_5 : decode cX0_setAhead 5 = .ok (.iaload, 1) := by decide +kernel
theorem dX0_setAhead_6 : decode cX0_setAhead 6 = .ok (.aload_n 0, 1) := by decide +kernel
theorem dX0_setAhead_7 : decode cX0_setAhead 7 = .ok (.getfield 32, 3) := by decide +kernel
theorem dX0_setAhead_10 : decode cX0_setAhead 10 = .ok (.iload_n 1, 1) := by decide +kernel
theorem dX0_setAhead_11 : decode cX0_setAhead 11 = .ok (.iaload, 1) := by decide +kernel
theorem dX0_setAhead_12 : decode cX0_setAhead 12 = .ok (.isub, 1) := by decide +kernel
theorem dX0_setAhead_13 : decode cX0_setAhead 13 = .ok (.istore 4, 2) := by decide +kernel
theorem dX0_setAhead_15 : decode cX0_setAhead 15 = .ok (.aload_n 0, 1) := by decide +kernel
theorem dX0_setAhead_16 : decode cX0_setAhead 16 = .ok (.getfield 35, 3) := by decide +kernel
theorem dX0_setAhead_19 : decode cX0_setAhead 19 = .ok (.iload_n 3, 1) := by decide +kernel
theorem dX0_setAhead_20 : decode cX0_setAhead 20 = .ok (.iaload, 1) := by decide +kernel
theorem dX0_setAhead_21 : decode cX0_setAhead 21 = .ok (.aload_n 0, 1) := by decide +kernel
theorem dX0_setAhead_22 : decode cX0_setAhead 22 = .ok (.getfield 35, 3) := by decide +kernel
theorem dX0_setAhead_25 : decode cX0_setAhead 25 = .ok (.iload_n 1, 1) := by decide +kernel
theorem dX0_setAhead_26 : decode cX0_setAhead 26 = .ok (.iaload, 1) := by decide +kernel
theorem dX0_setAhead_27 : decode cX0_setAhead 27 = .ok (.isub, 1) := by decide +kernel
theorem dX0_setAhead_28 : decode cX0_setAhead 28 = .ok (.istore 5, 2) := by decide +kernel
theorem dX0_setAhead_30 : decode cX0_setAhead 30 = .ok (.aload_n 0, 1) := by decide +kernel
theorem dX0_setAhead_31 : decode cX0_setAhead 31 = .ok (.iload_n 1, 1) := by decide +kernel
theorem dX0_setAhead_32 : decode cX0_setAhead 32 = .ok (.iload_n 2, 1) := by decide +kernel
theorem dX0_setAhead_33 : decode cX0_setAhead 33 = .ok (.invokevirtual 49, 3) := by decide +kernel
theorem dX0_setAhead_36 : decode cX0_setAhead 36 = .ok (.ifCond .eq 6, 3) := by decide +kernel
theorem dX0_setAhead_39 : decode cX0_setAhead 39 = .ok (.iload 4, 2) := by decide +kernel
theorem dX0_setAhead_41 : decode cX0_setAhead 41 = .ok (.ireturn, 1) := by decide +kernel
theorem dX0_setAhead_42 : decode cX0_setAhead 42 = .ok (.aload_n 0, 1) := by decide +kernel
theorem dX0_setAhead_43 : decode cX0_setAhead 43 = .ok (.iload_n 1, 1) := by decide +kernel
theorem dX0_setAhead_44 : decode cX0_setAhead 44 = .ok (.iload_n 2, 1) := by decide +kernel
theorem dX0_setAhead_45 : decode cX0_setAhead 45 = .ok (.invokevirtual 57, 3) := by decide +kernel
theorem dX0_setAhead_48 : decode cX0_setAhead 48 = .ok (.istore 6, 2) := by decide +kernel
theorem dX0_setAhead_50 : decode cX0_setAhead 50 = .ok (.iload 6, 2) := by decide +kernel
theorem dX0_setAhead_52 : decode cX0_setAhead 52 = .ok (.ifCond .lt 20, 3) := by decide +kernel
theorem dX0_setAhead_55 : decode cX0_setAhead 55 = .ok (.iload 5, 2) := by decide +kernel
theorem dX0_setAhead_57 : decode cX0_setAhead 57 = .ok (.iload 6, 2) := by decide +kernel
theorem dX0_setAhead_59 : decode cX0_setAhead 59 = .ok (.iload 5, 2) := by decide +kernel
theorem dX0_setAhead_61 : decode cX0_setAhead 61 = .ok (.aload_n 0, 1) := by decide +kernel
theorem dX0_setAhead_62 : decode cX0_setAhead 62 = .ok (.iload_n 1, 1) := by decide +kernel
theorem dX0_setAhead_63 : decode cX0_setAhead 63 = .ok (.iload_n 2, 1) := by decide +kernel
theorem dX0_setAhead_64 : decode cX0_setAhead 64 = .ok (.invokevirtual 42, 3) := by decide +kernel
theorem dX0_setAhead_67 : decode cX0_setAhead 67 = .ok (.invokestatic 60, 3) := by decide +kernel
theorem dX0_setAhead_70 : decode cX0_setAhead 70 = .ok (.iadd, 1) := by decide +kernel
theorem dX0_setAhead_71 : decode cX0_setAhead 71 = .ok (.ireturn, 1) := by decide +kernel
theorem dX0_setAhead_72 : decode cX0_setAhead 72 = .ok (.iload 5, 2) := by decide +kernel
theorem dX0_setAhead_74 : decode cX0_setAhead 74 = .ok (.iload 6, 2) := by decide +kernel
theorem dX0_setAhead_76 : decode cX0_setAhead 76 = .ok (.ineg, 1) := by decide +kernel
theorem dX0_setAhead_77 : decode cX0_setAhead 77 = .ok (.iload 5, 2) := by decide +kernel
end
section
theorem dX0_setAhead_79 : decode cX0_setAhead 79 = .ok (.iload 4, 2) := by decide +kernel
theorem dX0_setAhead_81 : decode cX0_setAhead 81 = .ok (.isub, 1) := by decide +kernel
theorem dX0_setAhead_82 : decode cX0_setAhead 82 = .ok (.aload_n 0, 1) := by decide +kernel
theorem dX0_setAhead_83 : decode cX0_setAhead 83 = .ok (.iload_n 1, 1) := by decide +kernel
theorem dX0_setAhead_84 : decode cX0_setAhead 84 = .ok (.iload_n 2, 1) := by decide +kernel
theorem dX0_setAhead_85 : decode cX0_setAhead 85 = .ok (.invokevirtual 42, 3) := by decide +kernel
theorem dX0_setAhead_88 : decode cX0_setAhead 88 = .ok (.aload_n 0, 1) := by decide +kernel
theorem dX0_setAhead_89 : decode cX0_setAhead 89 = .ok (.iload_n 1, 1) := by decide +kernel
theorem dX0_setAhead_90 : decode cX0_setAhead 90 = .ok (.iload_n 2, 1) := by decide +kernel
theorem dX0_setAhead_91 : decode cX0_setAhead 91 = .ok (.invokevirtual 38, 3) := by decide +kernel
theorem dX0_setAhead_94 : decode cX0_setAhead 94 = .ok (.isub, 1) := by decide +kernel
theorem dX0_setAhead_95 : decode cX0_setAhead 95 = .ok (.invokestatic 60, 3) := by decide +kernel
theorem dX0_setAhead_98 : decode cX0_setAhead 98 = .ok (.isub, 1) := by decide +kernel
theorem dX0_setAhead_99 : decode cX0_setAhead 99 = .ok (.ireturn, 1) := by decide +kernel
theorem dX0_share_0 : decode cX0_share 0 = .ok (.iload_n 2, 1) := by decide +kernel
theorem dX0_share_1 : decode cX0_share 1 = .ok (.ifCond .le 11, 3) := by decide +kernel
theorem dX0_share_4 : decode cX0_share 4 = .ok (.iload_n 0, 1) := by decide +kernel
theorem dX0_share_5 : decode cX0_share 5 = .ok (.iload_n 1, 1) := by decide +kernel
theorem dX0_share_6 : decode cX0_share 6 = .ok (.imul, 1) := by decide +kernel
theorem dX0_share_7 : decode cX0_share 7 = .ok (.iload_n 2, 1) := by decide +kernel
theorem dX0_share_8 : decode cX0_share 8 = .ok (.idiv, 1) := by decide +kernel
theorem dX0_share_9 : decode cX0_share 9 = .ok (.goto 4, 3) := by decide +kernel
theorem dX0_share_12 : decode cX0_share 12 = .ok (.iconst 0, 1) := by decide +kernel
theorem dX0_share_13 : decode cX0_share 13 = .ok (.ireturn, 1) := by decide +kernel
theorem dX1_init_0 : decode cX1_init 0 = .ok (.aload_n 0, 1) := by decide +kernel
theorem dX1_init_1 : decode cX1_init 1 = .ok (.invokespecial 5, 3) := by decide +kernel
theorem dX1_init_4 : decode cX1_init 4 = .ok (.aload_n 0, 1) := by decide +kernel
theorem dX1_init_5 : decode cX1_init 5 = .ok (.aload_n 1, 1) := by decide +kernel
theorem dX1_init_6 : decode cX1_init 6 = .ok (.putfield 11, 3) := by decide +kernel
theorem dX1_init_9 : decode cX1_init 9 = .ok (.aload_n 0, 1) := by decide +kernel
theorem dX1_init_10 : decode cX1_init 10 = .ok (.sipush 576, 3) := by decide +kernel
theorem dX1_init_13 : decode cX1_init 13 = .ok (.newarray .long, 2) := by decide +kernel
theorem dX1_init_15 : decode cX1_init 15 = .ok (.putfield 17, 3) := by decide +kernel
theorem dX1_init_18 : decode cX1_init 18 = .ok (.aload_n 0, 1) := by decide +kernel
theorem dX1_init_19 : decode cX1_init 19 = .ok (.bipush 24, 2) := by decide +kernel
theorem dX1_init_21 : decode cX1_init 21 = .ok (.newarray .long, 2) := by decide +kernel
theorem dX1_init_23 : decode cX1_init 23 = .ok (.putfield 21, 3) := by decide +kernel
theorem dX1_init_26 : decode cX1_init 26 = .ok (.aload_n 0, 1) := by decide +kernel
theorem dX1_init_27 : decode cX1_init 27 = .ok (.sipush 192, 3) := by decide +kernel
theorem dX1_init_30 : decode cX1_init 30 = .ok (.newarray .long, 2) := by decide +kernel
theorem dX1_init_32 : decode cX1_init 32 = .ok (.putfield 24, 3) := by decide +kernel
theorem dX1_init_35 : decode cX1_init 35 = .ok (.aload_n 0, 1) := by decide +kernel
theorem dX1_init_36 : decode cX1_init 36 = .ok (.sipush 192, 3) := by decide +kernel
theorem dX1_init_39 : decode cX1_init 39 = .ok (.newarray .long, 2) := by decide +kernel
theorem dX1_init_41 : decode cX1_init 41 = .ok (.putfield 27, 3) := by decide +kernel
theorem dX1_init_44 : decode cX1_init 44 = .ok (.aload_n 0, 1) := by decide +kernel
theorem dX1_init_45 : decode cX1_init 45 = .ok (.ldc2_w 30, 3) := by decide +kernel
theorem dX1_init_48 : decode cX1_init 48 = .ok (.putfield 32, 3) := by decide +kernel
theorem dX1_init_51 : decode cX1_init 51 = .ok (.aload_n 0, 1) := by decide +kernel
theorem dX1_init_52 : decode cX1_init 52 = .ok (.lconst 0, 1) := by decide +kernel
theorem dX1_init_53 : decode cX1_init 53 = .ok (.putfield 36, 3) := by decide +kernel
theorem dX1_init_56 : decode cX1_init 56 = .ok (.return_, 1) := by decide +kernel
set_option maxRecDepth 20000 in
theorem ggX1_run_X1_priceLinesAndTurns : GoodIn wsX1_run wsX1_priceLinesAndTurns := goodIn_r _ [13, 2, 3, 14, 15, 16, 17, 18, 19, 20, 21, 22, 23, 24, 25, 26, 27, 28, 29, 30, 31, 32, 33, 34, 35, 36, 37, 38, 39, 40, 41, 42, 43, 44, 45, 46, 47, 48, 49, 50, 51, 87, 88, 89, 90, 91, 92, 93, 94, 95, 96, 97, 98, 99, 100, 101] rfl (by decide +kernel)
set_option maxRecDepth 20000 in
theorem gX1_run_X1_priceLinesAndTurns : GoodIn wsX1_run (wsV RX1 48 RX1 yX1_priceLinesAndTurns wsX1_priceLinesAndTurns) := goodIn_app (goodIn_of _ (by decide +kernel)) ggX1_run_X1_priceLinesAndTurns
set_option maxRecDepth 20000 in
theorem ggX1_run_X1_fillForAnyCount : GoodIn wsX1_run wsX1_fillForAnyCount := goodIn_r _ [55, 2, 3, 56, 57, 58, 59, 60, 61, 62, 63, 12, 64, 7, 5, 8, 15, 65, 66, 67, 68, 69, 70, 71, 72, 73, 74, 75, 76, 77, 78, 79, 80, 81, 82, 14, 87, 88, 89, 90, 91, 92, 93, 94, 95, 96, 97, 98, 99, 100, 101] rfl (by decide +kernel)
set_option maxRecDepth 20000 in
theorem gX1_run_X1_fillForAnyCount : GoodIn wsX1_run (wsV RX1 51 RX1 yX1_fillForAnyCount wsX1_fillForAnyCount) := goodIn_app (goodIn_of _ (by decide +kernel)) ggX1_run_X1_fillForAnyCount
set_option maxRecDepth 20000 in
theorem ggX1_run_X1_fillForCount : GoodIn wsX1_run wsX1_fillForCount := goodIn_r _ [86, 2, 3, 56, 57, 58, 59, 60, 61, 62, 63, 12, 64, 7, 5, 8, 15, 65, 66, 67, 68, 69, 70, 71, 72, 73, 74, 75, 76, 77, 78, 79, 80, 81, 82, 14, 87, 88, 89, 90, 91, 92, 93, 94, 95, 96, 97, 98, 99, 100, 101] rfl (by decide +kernel)
set_option maxRecDepth 20000 in
theorem gX1_run_X1_fillForCount : GoodIn wsX1_run (wsV RX1 54 RX1 yX1_fillForCount wsX1_fillForCount) := goodIn_app (goodIn_of _ (by decide +kernel)) ggX1_run_X1_fillForCount
theorem dX1_run_0 : decode cX1_run 0 = .ok (.aload_n 0, 1) := by decide +kernel
theorem dX1_run_1 : decode cX1_run 1 = .ok (.lconst 0, 1) := by decide +kernel
theorem dX1_run_2 : decode cX1_run 2 = .ok (.putfield 36, 3) := by decide +kernel
theorem dX1_run_5 : decode cX1_run 5 = .ok (.aload_n 0, 1) := by decide +kernel
theorem dX1_run_6 : decode cX1_run 6 = .ok (.getfield 11, 3) := by decide +kernel
theorem dX1_run_9 : decode cX1_run 9 = .ok (.getfield 39, 3) := by decide +kernel
theorem dX1_run_12 : decode cX1_run 12 = .ok (.ifCond .ne 25, 3) := by decide +kernel
theorem dX1_run_15 : decode cX1_run 15 = .ok (.aload_n 0, 1) := by decide +kernel
theorem dX1_run_16 : decode cX1_run 16 = .ok (.aload_n 0, 1) := by decide +kernel
theorem dX1_run_17 : decode cX1_run 17 = .ok (.getfield 11, 3) := by decide +kernel
theorem dX1_run_20 : decode cX1_run 20 = .ok (.getfield 45, 3) := by decide +kernel
theorem dX1_run_23 : decode cX1_run 23 = .ok (.ifCond .ne 7, 3) := by decide +kernel
theorem dX1_run_26 : decode cX1_run 26 = .ok (.lconst 0, 1) := by decide +kernel
theorem dX1_run_27 : decode cX1_run 27 = .ok (.goto 6, 3) := by decide +kernel
theorem dX1_run_30 : decode cX1_run 30 = .ok (.ldc2_w 30, 3) := by decide +kernel
theorem dX1_run_33 : decode cX1_run 33 = .ok (.putfield 32, 3) := by decide +kernel
theorem dX1_run_36 : decode cX1_run 36 = .ok (.return_, 1) := by decide +kernel
theorem dX1_run_37 : decode cX1_run 37 = .ok (.aload_n 0, 1) := by decide +kernel
theorem dX1_run_38 : decode cX1_run 38 = .ok (.getfield 11, 3) := by decide +kernel
theorem dX1_run_41 : decode cX1_run 41 = .ok (.getfield 45, 3) := by decide +kernel
theorem dX1_run_44 : decode cX1_run 44 = .ok (.aload_n 0, 1) := by decide +kernel
theorem dX1_run_45 : decode cX1_run 45 = .ok (.getfield 11, 3) := by decide +kernel
theorem dX1_run_48 : decode cX1_run 48 = .ok (.getfield 39, 3) := by decide +kernel
theorem dX1_run_51 : decode cX1_run 51 = .ok (.if_icmp .le 11, 3) := by decide +kernel
theorem dX1_run_54 : decode cX1_run 54 = .ok (.aload_n 0, 1) := by decide +kernel
theorem dX1_run_55 : decode cX1_run 55 = .ok (.ldc2_w 30, 3) := by decide +kernel
theorem dX1_run_58 : decode cX1_run 58 = .ok (.putfield 32, 3) := by decide +kernel
theorem dX1_run_61 : decode cX1_run 61 = .ok (.return_, 1) := by decide +kernel
theorem dX1_run_62 : decode cX1_run 62 = .ok (.aload_n 0, 1) := by decide +kernel
theorem dX1_run_63 : decode cX1_run 63 = .ok (.invokevirtual 48, 3) := by decide +kernel
theorem dX1_run_66 : decode cX1_run 66 = .ok (.aload_n 0, 1) := by decide +kernel
theorem dX1_run_67 : decode cX1_run 67 = .ok (.getfield 11, 3) := by decide +kernel
theorem dX1_run_70 : decode cX1_run 70 = .ok (.getfield 45, 3) := by decide +kernel
theorem dX1_run_73 : decode cX1_run 73 = .ok (.ifCond .ne 10, 3) := by decide +kernel
theorem dX1_run_76 : decode cX1_run 76 = .ok (.aload_n 0, 1) := by decide +kernel
theorem dX1_run_77 : decode cX1_run 77 = .ok (.invokevirtual 51, 3) := by decide +kernel
theorem dX1_run_80 : decode cX1_run 80 = .ok (.goto 14, 3) := by decide +kernel
theorem dX1_run_83 : decode cX1_run 83 = .ok (.aload_n 0, 1) := by decide +kernel
theorem dX1_run_84 : decode cX1_run 84 = .ok (.aload_n 0, 1) := by decide +kernel
theorem dX1_run_85 : decode cX1_run 85 = .ok (.getfield 11, 3) := by decide +kernel
theorem dX1_run_88 : decode cX1_run 88 = .ok (.getfield 45, 3) := by decide +kernel
theorem dX1_run_91 : decode cX1_run 91 = .ok (.invokevirtual 54, 3) := by decide +kernel
theorem dX1_run_94 : decode cX1_run 94 = .ok (.aload_n 0, 1) := by decide +kernel
theorem dX1_run_95 : decode cX1_run 95 = .ok (.aload_n 0, 1) := by decide +kernel
theorem dX1_run_96 : decode cX1_run 96 = .ok (.getfield 24, 3) := by decide +kernel
theorem dX1_run_99 : decode cX1_run 99 = .ok (.iconst 0, 1) := by decide +kernel
theorem dX1_run_100 : decode cX1_run 100 = .ok (.laload, 1) := by decide +kernel
theorem dX1_run_101 : decode cX1_run 101 = .ok (.putfield 32, 3) := by decide +kernel
theorem dX1_run_104 : decode cX1_run 104 = .ok (.aload_n 0, 1) := by decide +kernel
theorem dX1_run_105 : decode cX1_run 105 = .ok (.aload_n 0, 1) := by decide +kernel
theorem dX1_run_106 : decode cX1_run 106 = .ok (.getfield 27, 3) := by decide +kernel
theorem dX1_run_109 : decode cX1_run 109 = .ok (.iconst 0, 1) := by decide +kernel
theorem dX1_run_110 : decode cX1_run 110 = .ok (.laload, 1) := by decide +kernel
theorem dX1_run_111 : decode cX1_run 111 = .ok (.putfield 36, 3) := by decide +kernel
theorem dX1_run_114 : decode cX1_run 114 = .ok (.return_, 1) := by decide +kernel
theorem dX1_hasFound_0 : decode cX1_hasFound 0 = .ok (.aload_n 0, 1) := by decide +kernel
theorem dX1_hasFound_1 : decode cX1_hasFound 1 = .ok (.getfield 32, 3) := by decide +kernel
theorem dX1_hasFound_4 : decode cX1_hasFound 4 = .ok (.ldc2_w 30, 3) := by decide +kernel
theorem dX1_hasFound_7 : decode cX1_hasFound 7 = .ok (.lcmp, 1) := by decide +kernel
theorem dX1_hasFound_8 : decode cX1_hasFound 8 = .ok (.ifCond .eq 7, 3) := by decide +kernel
theorem dX1_hasFound_11 : decode cX1_hasFound 11 = .ok (.iconst 1, 1) := by decide +kernel
theorem dX1_hasFound_12 : decode cX1_hasFound 12 = .ok (.goto 4, 3) := by decide +kernel
theorem dX1_hasFound_15 : decode cX1_hasFound 15 = .ok (.iconst 0, 1) := by decide +kernel
theorem dX1_hasFound_16 : decode cX1_hasFound 16 = .ok (.ireturn, 1) := by decide +kernel
set_option maxRecDepth 20000 in
theorem ggX1_foundTotal_X1_hasFound : GoodIn wsX1_foundTotal wsX1_hasFound := goodIn_r _ [8, 1, 9, 10, 11, 12, 13, 14, 15, 16] rfl (by decide +kernel)
set_option maxRecDepth 20000 in
theorem gX1_foundTotal_X1_hasFound : GoodIn wsX1_foundTotal (wsV RX1 58 RX1 yX1_hasFound wsX1_hasFound) := goodIn_app (goodIn_of _ (by decide +kernel)) ggX1_foundTotal_X1_hasFound
theorem dX1_foundTotal_0 : decode cX1_foundTotal 0 = .ok (.aload_n 0, 1) := by decide +kernel
theorem dX1_foundTotal_1 : decode cX1_foundTotal 1 = .ok (.invokevirtual 58, 3) := by decide +kernel
theorem dX1_foundTotal_4 : decode cX1_foundTotal 4 = .ok (.ifCond .eq 14, 3) := by decide +kernel
theorem dX1_foundTotal_7 : decode cX1_foundTotal 7 = .ok (.aload_n 0, 1) := by decide +kernel
theorem dX1_foundTotal_8 : decode cX1_foundTotal 8 = .ok (.getfield 32, 3) := by decide +kernel
theorem dX1_foundTotal_11 : decode cX1_foundTotal 11 = .ok (.ldc2_w 62, 3) := by decide +kernel
theorem dX1_foundTotal_14 : decode cX1_foundTotal 14 = .ok (.ldiv, 1) := by decide +kernel
theorem dX1_foundTotal_15 : decode cX1_foundTotal 15 = .ok (.goto 6, 3) := by decide +kernel
theorem dX1_foundTotal_18 : decode cX1_foundTotal 18 = .ok (.ldc2_w 64, 3) := by decide +kernel
theorem dX1_foundTotal_21 : decode cX1_foundTotal 21 = .ok (.lreturn, 1) := by decide +kernel
set_option maxRecDepth 20000 in
theorem ggX1_lineEndsAt_X1_lineEnd : GoodIn wsX1_lineEndsAt wsX1_lineEnd := goodIn_r _ [5] rfl (by decide +kernel)
set_option maxRecDepth 20000 in
theorem gX1_lineEndsAt_X1_lineEnd : GoodIn wsX1_lineEndsAt (va_wsS RX1 66 yX1_lineEnd wsX1_lineEnd) := goodIn_app (goodIn_of _ (by decide +kernel)) ggX1_lineEndsAt_X1_lineEnd
theorem dX1_lineEndsAt_0 : decode cX1_lineEndsAt 0 = .ok (.aload_n 0, 1) := by decide +kernel
theorem dX1_lineEndsAt_1 : decode cX1_lineEndsAt 1 = .ok (.getfield 36, 3) := by decide +kernel
theorem dX1_lineEndsAt_4 : decode cX1_lineEndsAt 4 = .ok (.iload_n 1, 1) := by decide +kernel
theorem dX1_lineEndsAt_5 : decode cX1_lineEndsAt 5 = .ok (.invokestatic 66, 3) := by decide +kernel
theorem dX1_lineEndsAt_8 : decode cX1_lineEndsAt 8 = .ok (.land, 1) := by decide +kernel
theorem dX1_lineEndsAt_9 : decode cX1_lineEndsAt 9 = .ok (.lconst 0, 1) := by decide +kernel
theorem dX1_lineEndsAt_10 : decode cX1_lineEndsAt 10 = .ok (.lcmp, 1) := by decide +kernel
theorem dX1_lineEndsAt_11 : decode cX1_lineEndsAt 11 = .ok (.ifCond .eq 7, 3) := by decide +kernel
theorem dX1_lineEndsAt_14 : decode cX1_lineEndsAt 14 = .ok (.iconst 1, 1) := by decide +kernel
theorem dX1_lineEndsAt_15 : decode cX1_lineEndsAt 15 = .ok (.goto 4, 3) := by decide +kernel
theorem dX1_lineEndsAt_18 : decode cX1_lineEndsAt 18 = .ok (.iconst 0, 1) := by decide +kernel
theorem dX1_lineEndsAt_19 : decode cX1_lineEndsAt 19 = .ok (.ireturn, 1) := by decide +kernel
set_option maxRecDepth 20000 in
theorem ggX1_pageEndsAt_X1_pageEnd : GoodIn wsX1_pageEndsAt wsX1_pageEnd := goodIn_r _ [5] rfl (by decide +kernel)
set_option maxRecDepth 20000 in
theorem gX1_pageEndsAt_X1_pageEnd : GoodIn wsX1_pageEndsAt (va_wsS RX1 70 yX1_pageEnd wsX1_pageEnd) := goodIn_app (goodIn_of _ (by decide +kernel)) ggX1_pageEndsAt_X1_pageEnd
theorem dX1_pageEndsAt_0 : decode cX1_pageEndsAt 0 = .ok (.aload_n 0, 1) := by decide +kernel
theorem dX1_pageEndsAt_1 : decode cX1_pageEndsAt 1 = .ok (.getfield 36, 3) := by decide +kernel
theorem dX1_pageEndsAt_4 : decode cX1_pageEndsAt 4 = .ok (.iload_n 1, 1) := by decide +kernel
theorem dX1_pageEndsAt_5 : decode cX1_pageEndsAt 5 = .ok (.invokestatic 70, 3) := by decide +kernel
theorem dX1_pageEndsAt_8 : decode cX1_pageEndsAt 8 = .ok (.land, 1) := by decide +kernel
theorem dX1_pageEndsAt_9 : decode cX1_pageEndsAt 9 = .ok (.lconst 0, 1) := by decide +kernel
theorem dX1_pageEndsAt_10 : decode cX1_pageEndsAt 10 = .ok (.lcmp, 1) := by decide +kernel
theorem dX1_pageEndsAt_11 : decode cX1_pageEndsAt 11 = .ok (.ifCond .eq 7, 3) := by decide +kernel
theorem dX1_pageEndsAt_14 : decode cX1_pageEndsAt 14 = .ok (.iconst 1, 1) := by decide +kernel
theorem dX1_pageEndsAt_15 : decode cX1_pageEndsAt 15 = .ok (.goto 4, 3) := by decide +kernel
theorem dX1_pageEndsAt_18 : decode cX1_pageEndsAt 18 = .ok (.iconst 0, 1) := by decide +kernel
theorem dX1_pageEndsAt_19 : decode cX1_pageEndsAt 19 = .ok (.ireturn, 1) := by decide +kernel
set_option maxRecDepth 20000 in
theorem ggX1_priceLinesAndTurns_X0_turnPrice : GoodIn wsX1_priceLinesAndTurns wsX0_turnPrice := goodIn_r _ [9, 10, 11, 12, 13, 8, 14, 15, 48, 49, 50, 51, 52, 53, 54, 55] rfl (by decide +kernel)
set_option maxRecDepth 20000 in
theorem gX1_priceLinesAndTurns_X0_turnPrice : GoodIn wsX1_priceLinesAndTurns (wsV RX1 73 RX0 yX0_turnPrice wsX0_turnPrice) := goodIn_app (goodIn_of _ (by decide +kernel)) ggX1_priceLinesAndTurns_X0_turnPrice
set_option maxRecDepth 20000 in
theorem ggX1_priceLinesAndTurns_X0_linePrice : GoodIn wsX1_priceLinesAndTurns wsX0_linePrice := goodIn_r _ [19, 20, 10, 21, 22, 23, 24, 8, 25, 15, 11, 12, 13, 14, 26, 27, 28, 29, 30, 31, 32, 33, 34, 35, 36, 37, 38, 39, 40, 48, 49, 50, 51, 52, 53, 54, 55] rfl (by decide +kernel)
set_option maxRecDepth 20000 in
theorem gX1_priceLinesAndTurns_X0_linePrice : GoodIn wsX1_priceLinesAndTurns (wsV RX1 77 RX0 yX0_linePrice wsX0_linePrice) := goodIn_app (goodIn_of _ (by decide +kernel)) ggX1_priceLinesAndTurns_X0_linePrice
theorem dX1_priceLinesAndTurns_0 : decode cX1_priceLinesAndTurns 0 = .ok (.iconst 0, 1) := by decide +kernel
theorem dX1_priceLinesAndTurns_1 : decode cX1_priceLinesAndTurns 1 = .ok (.istore_n 1, 1) := by decide +kernel
theorem dX1_priceLinesAndTurns_2 : decode cX1_priceLinesAndTurns 2 = .ok (.iload_n 1, 1) := by decide +kernel
theorem dX1_priceLinesAndTurns_3 : decode cX1_priceLinesAndTurns 3 = .ok (.aload_n 0, 1) := by decide +kernel
theorem dX1_priceLinesAndTurns_4 : decode cX1_priceLinesAndTurns 4 = .ok (.getfield 11, 3) := by decide +kernel
theorem dX1_priceLinesAndTurns_7 : decode cX1_priceLinesAndTurns 7 = .ok (.getfield 39, 3) := by decide +kernel
theorem dX1_priceLinesAndTurns_10 : decode cX1_priceLinesAndTurns 10 = .ok (.if_icmp .ge 63, 3) := by decide +kernel
theorem dX1_priceLinesAndTurns_13 : decode cX1_priceLinesAndTurns 13 = .ok (.aload_n 0, 1) := by decide +kernel
theorem dX1_priceLinesAndTurns_14 : decode cX1_priceLinesAndTurns 14 = .ok (.getfield 21, 3) := by decide +kernel
theorem dX1_priceLinesAndTurns_17 : decode cX1_priceLinesAndTurns 17 = .ok (.iload_n 1, 1) := by decide +kernel
theorem dX1_priceLinesAndTurns_18 : decode cX1_priceLinesAndTurns 18 = .ok (.aload_n 0, 1) := by decide +kernel
theorem dX1_priceLinesAndTurns_19 : decode cX1_priceLinesAndTurns 19 = .ok (.getfield 11, 3) := by decide +kernel
theorem dX1_priceLinesAndTurns_22 : decode cX1_priceLinesAndTurns 22 = .ok (.iload_n 1, 1) := by decide +kernel
theorem dX1_priceLinesAndTurns_23 : decode cX1_priceLinesAndTurns 23 = .ok (.invokevirtual 73, 3) := by decide +kernel
theorem dX1_priceLinesAndTurns_26 : decode cX1_priceLinesAndTurns 26 = .ok (.i2l, 1) := by decide +kernel
theorem dX1_priceLinesAndTurns_27 : decode cX1_priceLinesAndTurns 27 = .ok (.lastore, 1) := by decide +kernel
theorem dX1_priceLinesAndTurns_28 : decode cX1_priceLinesAndTurns 28 = .ok (.iload_n 1, 1) := by decide +kernel
theorem dX1_priceLinesAndTurns_29 : decode cX1_priceLinesAndTurns 29 = .ok (.istore_n 2, 1) := by decide +kernel
theorem dX1_priceLinesAndTurns_30 : decode cX1_priceLinesAndTurns 30 = .ok (.iload_n 2, 1) := by decide +kernel
theorem dX1_priceLinesAndTurns_31 : decode cX1_priceLinesAndTurns 31 = .ok (.aload_n 0, 1) := by decide +kernel
theorem dX1_priceLinesAndTurns_32 : decode cX1_priceLinesAndTurns 32 = .ok (.getfield 11, 3) := by decide +kernel
theorem dX1_priceLinesAndTurns_35 : decode cX1_priceLinesAndTurns 35 = .ok (.getfield 39, 3) := by decide +kernel
theorem dX1_priceLinesAndTurns_38 : decode cX1_priceLinesAndTurns 38 = .ok (.if_icmp .ge 29, 3) := by decide +kernel
theorem dX1_priceLinesAndTurns_41 : decode cX1_priceLinesAndTurns 41 = .ok (.aload_n 0, 1) := by decide +kernel
theorem dX1_priceLinesAndTurns_42 : decode cX1_priceLinesAndTurns 42 = .ok (.getfield 17, 3) := by decide +kernel
theorem dX1_priceLinesAndTurns_45 : decode cX1_priceLinesAndTurns 45 = .ok (.iload_n 1, 1) := by decide +kernel
theorem dX1_priceLinesAndTurns_46 : decode cX1_priceLinesAndTurns 46 = .ok (.bipush 24, 2) := by decide +kernel
theorem dX1_priceLinesAndTurns_48 : decode cX1_priceLinesAndTurns 48 = .ok (.imul, 1) := by decide +kernel
theorem dX1_priceLinesAndTurns_49 : decode cX1_priceLinesAndTurns 49 = .ok (.iload_n 2, 1) := by decide +kernel
theorem dX1_priceLinesAndTurns_50 : decode cX1_priceLinesAndTurns 50 = .ok (.iadd, 1) := by decide +kernel
theorem dX1_priceLinesAndTurns_51 : decode cX1_priceLinesAndTurns 51 = .ok (.aload_n 0, 1) := by decide +kernel
theorem dX1_priceLinesAndTurns_52 : decode cX1_priceLinesAndTurns 52 = .ok (.getfield 11, 3) := by decide +kernel
theorem dX1_priceLinesAndTurns_55 : decode cX1_priceLinesAndTurns 55 = .ok (.iload_n 1, 1) := by decide +kernel
theorem dX1_priceLinesAndTurns_56 : decode cX1_priceLinesAndTurns 56 = .ok (.iload_n 2, 1) := by decide +kernel
theorem dX1_priceLinesAndTurns_57 : decode cX1_priceLinesAndTurns 57 = .ok (.invokevirtual 77, 3) := by decide +kernel
theorem dX1_priceLinesAndTurns_60 : decode cX1_priceLinesAndTurns 60 = .ok (.lastore, 1) := by decide +kernel
theorem dX1_priceLinesAndTurns_61 : decode cX1_priceLinesAndTurns 61 = .ok (.iinc 2 1, 3) := by decide +kernel
theorem dX1_priceLinesAndTurns_64 : decode cX1_priceLinesAndTurns 64 = .ok (.goto (-34), 3) := by decide +kernel
theorem dX1_priceLinesAndTurns_67 : decode cX1_priceLinesAndTurns 67 = .ok (.iinc 1 1, 3) := by decide +kernel
theorem dX1_priceLinesAndTurns_70 : decode cX1_priceLinesAndTurns 70 = .ok (.goto (-68), 3) := by decide +kernel
theorem dX1_priceLinesAndTurns_73 : decode cX1_priceLinesAndTurns 73 = .ok (.return_, 1) := by decide +kernel
set_option maxRecDepth 20000 in
theorem ggX1_fillForAnyCount_X1_fillCell : GoodIn wsX1_fillForAnyCount wsX1_fillCell := goodIn_r _ [12, 13, 14, 15, 16, 17, 18, 1, 2, 19, 20, 21, 22, 11, 23, 24, 25, 26, 27, 28, 29, 30, 31, 32, 33, 34, 35, 3, 36, 37, 38, 39, 40, 41, 42, 43, 44, 45, 46, 47, 48, 49, 50] rfl (by decide +kernel)
set_option maxRecDepth 20000 in
theorem gX1_fillForAnyCount_X1_fillCell : GoodIn wsX1_fillForAnyCount (wsV RX1 90 RX1 yX1_fillCell wsX1_fillCell) := goodIn_app (goodIn_of _ (by decide +kernel)) ggX1_fillForAnyCount_X1_fillCell
theorem dX1_fillForAnyCount_0 : decode cX1_fillForAnyCount 0 = .ok (.aload_n 0, 1) := by decide +kernel
theorem dX1_fillForAnyCount_1 : decode cX1_fillForAnyCount 1 = .ok (.getfield 11, 3) := by decide +kernel
theorem dX1_fillForAnyCount_4 : decode cX1_fillForAnyCount 4 = .ok (.getfield 39, 3) := by decide +kernel
theorem dX1_fillForAnyCount_7 : decode cX1_fillForAnyCount 7 = .ok (.iconst 1, 1) := by decide +kernel
theorem dX1_fillForAnyCount_8 : decode cX1_fillForAnyCount 8 = .ok (.isub, 1) := by decide +kernel
theorem dX1_fillForAnyCount_9 : decode cX1_fillForAnyCount 9 = .ok (.istore_n 1, 1) := by decide +kernel
theorem dX1_fillForAnyCount_10 : decode cX1_fillForAnyCount 10 = .ok (.iload_n 1, 1) := by decide +kernel
theorem dX1_fillForAnyCount_11 : decode cX1_fillForAnyCount 11 = .ok (.ifCond .lt 52, 3) := by decide +kernel
theorem dX1_fillForAnyCount_14 : decode cX1_fillForAnyCount 14 = .ok (.aload_n 0, 1) := by decide +kernel
theorem dX1_fillForAnyCount_15 : decode cX1_fillForAnyCount 15 = .ok (.getfield 11, 3) := by decide +kernel
theorem dX1_fillForAnyCount_18 : decode cX1_fillForAnyCount 18 = .ok (.getfield 81, 3) := by decide +kernel
theorem dX1_fillForAnyCount_21 : decode cX1_fillForAnyCount 21 = .ok (.iconst 1, 1) := by decide +kernel
theorem dX1_fillForAnyCount_22 : decode cX1_fillForAnyCount 22 = .ok (.isub, 1) := by decide +kernel
theorem dX1_fillForAnyCount_23 : decode cX1_fillForAnyCount 23 = .ok (.iload_n 1, 1) := by decide +kernel
theorem dX1_fillForAnyCount_24 : decode cX1_fillForAnyCount 24 = .ok (.invokestatic 84, 3) := by decide +kernel
theorem dX1_fillForAnyCount_27 : decode cX1_fillForAnyCount 27 = .ok (.istore_n 2, 1) := by decide +kernel
theorem dX1_fillForAnyCount_28 : decode cX1_fillForAnyCount 28 = .ok (.iconst 0, 1) := by decide +kernel
theorem dX1_fillForAnyCount_29 : decode cX1_fillForAnyCount 29 = .ok (.istore_n 3, 1) := by decide +kernel
theorem dX1_fillForAnyCount_30 : decode cX1_fillForAnyCount 30 = .ok (.iload_n 3, 1) := by decide +kernel
theorem dX1_fillForAnyCount_31 : decode cX1_fillForAnyCount 31 = .ok (.iload_n 2, 1) := by decide +kernel
theorem dX1_fillForAnyCount_32 : decode cX1_fillForAnyCount 32 = .ok (.if_icmp .gt 25, 3) := by decide +kernel
theorem dX1_fillForAnyCount_35 : decode cX1_fillForAnyCount 35 = .ok (.aload_n 0, 1) := by decide +kernel
theorem dX1_fillForAnyCount_36 : decode cX1_fillForAnyCount 36 = .ok (.iload_n 1, 1) := by decide +kernel
theorem dX1_fillForAnyCount_37 : decode cX1_fillForAnyCount 37 = .ok (.iload_n 3, 1) := by decide +kernel
theorem dX1_fillForAnyCount_38 : decode cX1_fillForAnyCount 38 = .ok (.iload_n 1, 1) := by decide +kernel
theorem dX1_fillForAnyCount_39 : decode cX1_fillForAnyCount 39 = .ok (.aload_n 0, 1) := by decide +kernel
theorem dX1_fillForAnyCount_40 : decode cX1_fillForAnyCount 40 = .ok (.getfield 11, 3) := by decide +kernel
theorem dX1_fillForAnyCount_43 : decode cX1_fillForAnyCount 43 = .ok (.getfield 39, 3) := by decide +kernel
theorem dX1_fillForAnyCount_46 : decode cX1_fillForAnyCount 46 = .ok (.iconst 1, 1) := by decide +kernel
theorem dX1_fillForAnyCount_47 : decode cX1_fillForAnyCount 47 = .ok (.isub, 1) := by decide +kernel
theorem dX1_fillForAnyCount_48 : decode cX1_fillForAnyCount 48 = .ok (.invokevirtual 90, 3) := by decide +kernel
theorem dX1_fillForAnyCount_51 : decode cX1_fillForAnyCount 51 = .ok (.iinc 3 1, 3) := by decide +kernel
theorem dX1_fillForAnyCount_54 : decode cX1_fillForAnyCount 54 = .ok (.goto (-24), 3) := by decide +kernel
theorem dX1_fillForAnyCount_57 : decode cX1_fillForAnyCount 57 = .ok (.iinc 1 (-1), 3) := by decide +kernel
theorem dX1_fillForAnyCount_60 : decode cX1_fillForAnyCount 60 = .ok (.goto (-50), 3) := by decide +kernel
theorem dX1_fillForAnyCount_63 : decode cX1_fillForAnyCount 63 = .ok (.return_, 1) := by decide +kernel
set_option maxRecDepth 20000 in
theorem ggX1_fillForCount_X1_fillCell : GoodIn wsX1_fillForCount wsX1_fillCell := goodIn_r _ [12, 13, 14, 15, 16, 17, 18, 1, 2, 19, 20, 21, 22, 11, 23, 24, 25, 26, 27, 28, 29, 30, 31, 32, 33, 34, 35, 3, 36, 37, 38, 39, 40, 41, 42, 43, 44, 45, 46, 47, 48, 49, 50] rfl (by decide +kernel)
set_option maxRecDepth 20000 in
theorem gX1_fillForCount_X1_fillCell : GoodIn wsX1_fillForCount (wsV RX1 90 RX1 yX1_fillCell wsX1_fillCell) := goodIn_app (goodIn_of _ (by decide +kernel)) ggX1_fillForCount_X1_fillCell
theorem dX1_fillForCount_0 : decode cX1_fillForCount 0 = .ok (.iconst 1, 1) := by decide +kernel
theorem dX1_fillForCount_1 : decode cX1_fillForCount 1 = .ok (.istore_n 2, 1) := by decide +kernel
theorem dX1_fillForCount_2 : decode cX1_fillForCount 2 = .ok (.iload_n 2, 1) := by decide +kernel
theorem dX1_fillForCount_3 : decode cX1_fillForCount 3 = .ok (.iload_n 1, 1) := by decide +kernel
theorem dX1_fillForCount_4 : decode cX1_fillForCount 4 = .ok (.if_icmp .gt 109, 3) := by decide +kernel
theorem dX1_fillForCount_7 : decode cX1_fillForCount 7 = .ok (.iload_n 1, 1) := by decide +kernel
theorem dX1_fillForCount_8 : decode cX1_fillForCount 8 = .ok (.iload_n 2, 1) := by decide +kernel
theorem dX1_fillForCount_9 : decode cX1_fillForCount 9 = .ok (.isub, 1) := by decide +kernel
theorem dX1_fillForCount_10 : decode cX1_fillForCount 10 = .ok (.istore_n 3, 1) := by decide +kernel
theorem dX1_fillForCount_11 : decode cX1_fillForCount 11 = .ok (.aload_n 0, 1) := by decide +kernel
theorem dX1_fillForCount_12 : decode cX1_fillForCount 12 = .ok (.getfield 11, 3) := by decide +kernel
theorem dX1_fillForCount_15 : decode cX1_fillForCount 15 = .ok (.getfield 39, 3) := by decide +kernel
theorem dX1_fillForCount_18 : decode cX1_fillForCount 18 = .ok (.iload_n 2, 1) := by decide +kernel
theorem dX1_fillForCount_19 : decode cX1_fillForCount 19 = .ok (.isub, 1) := by decide +kernel
theorem dX1_fillForCount_20 : decode cX1_fillForCount 20 = .ok (.istore 4, 2) := by decide +kernel
theorem dX1_fillForCount_22 : decode cX1_fillForCount 22 = .ok (.iload_n 3, 1) := by decide +kernel
theorem dX1_fillForCount_23 : decode cX1_fillForCount 23 = .ok (.ifCond .ne 7, 3) := by decide +kernel
theorem dX1_fillForCount_26 : decode cX1_fillForCount 26 = .ok (.iconst 0, 1) := by decide +kernel
theorem dX1_fillForCount_27 : decode cX1_fillForCount 27 = .ok (.goto 5, 3) := by decide +kernel
theorem dX1_fillForCount_30 : decode cX1_fillForCount 30 = .ok (.iload 4, 2) := by decide +kernel
theorem dX1_fillForCount_32 : decode cX1_fillForCount 32 = .ok (.istore 5, 2) := by decide +kernel
theorem dX1_fillForCount_34 : decode cX1_fillForCount 34 = .ok (.aload_n 0, 1) := by decide +kernel
theorem dX1_fillForCount_35 : decode cX1_fillForCount 35 = .ok (.getfield 11, 3) := by decide +kernel
theorem dX1_fillForCount_38 : decode cX1_fillForCount 38 = .ok (.getfield 81, 3) := by decide +kernel
theorem dX1_fillForCount_41 : decode cX1_fillForCount 41 = .ok (.iconst 1, 1) := by decide +kernel
theorem dX1_fillForCount_42 : decode cX1_fillForCount 42 = .ok (.isub, 1) := by decide +kernel
theorem dX1_fillForCount_43 : decode cX1_fillForCount 43 = .ok (.iload_n 3, 1) := by decide +kernel
theorem dX1_fillForCount_44 : decode cX1_fillForCount 44 = .ok (.invokestatic 84, 3) := by decide +kernel
theorem dX1_fillForCount_47 : decode cX1_fillForCount 47 = .ok (.istore 6, 2) := by decide +kernel
theorem dX1_fillForCount_49 : decode cX1_fillForCount 49 = .ok (.iload_n 3, 1) := by decide +kernel
theorem dX1_fillForCount_50 : decode cX1_fillForCount 50 = .ok (.istore 7, 2) := by decide +kernel
theorem dX1_fillForCount_52 : decode cX1_fillForCount 52 = .ok (.iload 7, 2) := by decide +kernel
theorem dX1_fillForCount_54 : decode cX1_fillForCount 54 = .ok (.iload 5, 2) := by decide +kernel
theorem dX1_fillForCount_56 : decode cX1_fillForCount 56 = .ok (.if_icmp .gt 51, 3) := by decide +kernel
theorem dX1_fillForCount_59 : decode cX1_fillForCount 59 = .ok (.iload_n 2, 1) := by decide +kernel
theorem dX1_fillForCount_60 : decode cX1_fillForCount 60 = .ok (.iconst 1, 1) := by decide +kernel
theorem dX1_fillForCount_61 : decode cX1_fillForCount 61 = .ok (.if_icmp .ne 8, 3) := by decide +kernel
theorem dX1_fillForCount_64 : decode cX1_fillForCount 64 = .ok (.iload 4, 2) := by decide +kernel
theorem dX1_fillForCount_66 : decode cX1_fillForCount 66 = .ok (.goto 5, 3) := by decide +kernel
theorem dX1_fillForCount_69 : decode cX1_fillForCount 69 = .ok (.iload 7, 2) := by decide +kernel
theorem dX1_fillForCount_71 : decode cX1_fillForCount 71 = .ok (.istore 8, 2) := by decide +kernel
theorem dX1_fillForCount_73 : decode cX1_fillForCount 73 = .ok (.iconst 0, 1) := by decide +kernel
theorem dX1_fillForCount_74 : decode cX1_fillForCount 74 = .ok (.istore 9, 2) := by decide +kernel
theorem dX1_fillForCount_76 : decode cX1_fillForCount 76 = .ok (.iload 9, 2) := by decide +kernel
theorem dX1_fillForCount_78 : decode cX1_fillForCount 78 = .ok (.iload 6, 2) := by decide +kernel
theorem dX1_fillForCount_80 : decode cX1_fillForCount 80 = .ok (.if_icmp .gt 21, 3) := by decide +kernel
theorem dX1_fillForCount_83 : decode cX1_fillForCount 83 = .ok (.aload_n 0, 1) := by decide +kernel
theorem dX1_fillForCount_84 : decode cX1_fillForCount 84 = .ok (.iload 7, 2) := by decide +kernel
theorem dX1_fillForCount_86 : decode cX1_fillForCount 86 = .ok (.iload 9, 2) := by decide +kernel
theorem dX1_fillForCount_88 : decode cX1_fillForCount 88 = .ok (.iload 8, 2) := by decide +kernel
theorem dX1_fillForCount_90 : decode cX1_fillForCount 90 = .ok (.iload 4, 2) := by decide +kernel
theorem dX1_fillForCount_92 : decode cX1_fillForCount 92 = .ok (.invokevirtual 90, 3) := by decide +kernel
theorem dX1_fillForCount_95 : decode cX1_fillForCount 95 = .ok (.iinc 9 1, 3) := by decide +kernel
theorem dX1_fillForCount_98 : decode cX1_fillForCount 98 = .ok (.goto (-22), 3) := by decide +kernel
theorem dX1_fillForCount_101 : decode cX1_fillForCount 101 = .ok (.iinc 7 1, 3) := by decide +kernel
theorem dX1_fillForCount_104 : decode cX1_fillForCount 104 = .ok (.goto (-52), 3) := by decide +kernel
theorem dX1_fillForCount_107 : decode cX1_fillForCount 107 = .ok (.iinc 2 1, 3) := by decide +kernel
theorem dX1_fillForCount_110 : decode cX1_fillForCount 110 = .ok (.goto (-108), 3) := by decide +kernel
theorem dX1_fillForCount_113 : decode cX1_fillForCount 113 = .ok (.return_, 1) := by decide +kernel
set_option maxRecDepth 20000 in
theorem ggX1_fillCell_X1_lineEnd : GoodIn wsX1_fillCell wsX1_lineEnd := goodIn_r _ [14] rfl (by decide +kernel)
set_option maxRecDepth 20000 in
theorem gX1_fillCell_X1_lineEnd : GoodIn wsX1_fillCell (va_wsS RX1 66 yX1_lineEnd wsX1_lineEnd) := goodIn_app (goodIn_of _ (by decide +kernel)) ggX1_fillCell_X1_lineEnd
set_option maxRecDepth 20000 in
theorem ggX1_fillCell_X1_pageEnd : GoodIn wsX1_fillCell wsX1_pageEnd := goodIn_r _ [17] rfl (by decide +kernel)
set_option maxRecDepth 20000 in
theorem gX1_fillCell_X1_pageEnd : GoodIn wsX1_fillCell (va_wsS RX1 70 yX1_pageEnd wsX1_pageEnd) := goodIn_app (goodIn_of _ (by decide +kernel)) ggX1_fillCell_X1_pageEnd
set_option maxRecDepth 20000 in
theorem ggX1_fillCell_X1_offer : GoodIn wsX1_fillCell wsX1_offer := goodIn_r _ [21, 1, 3, 28, 29, 30, 31, 32, 33, 34] rfl (by decide +kernel)
set_option maxRecDepth 20000 in
theorem gX1_fillCell_X1_offer : GoodIn wsX1_fillCell (wsV RX1 100 RX1 yX1_offer wsX1_offer) := goodIn_app (goodIn_of _ (by decide +kernel)) ggX1_fillCell_X1_offer
set_option maxRecDepth 20000 in
theorem ggX1_fillCell_X1_offerGoingOn : GoodIn wsX1_fillCell wsX1_offerGoingOn := goodIn_r _ [25, 1, 2, 26, 6, 10, 3, 7, 27, 11, 12, 13, 14, 15, 16, 17, 18, 19, 20, 21, 28, 29, 30, 31, 32, 33, 34, 35, 36, 37, 38, 39, 40, 41, 42] rfl (by decide +kernel)
set_option maxRecDepth 20000 in
theorem gX1_fillCell_X1_offerGoingOn : GoodIn wsX1_fillCell (wsV RX1 104 RX1 yX1_offerGoingOn wsX1_offerGoingOn) := goodIn_app (goodIn_of _ (by decide +kernel)) ggX1_fillCell_X1_offerGoingOn
theorem dX1_fillCell_0 : decode cX1_fillCell 0 = .ok (.iload_n 1, 1) := by decide +kernel
theorem dX1_fillCell_1 : decode cX1_fillCell 1 = .ok (.bipush 8, 2) := by decide +kernel
theorem dX1_fillCell_3 : decode cX1_fillCell 3 = .ok (.imul, 1) := by decide +kernel
theorem dX1_fillCell_4 : decode cX1_fillCell 4 = .ok (.iload_n 2, 1) := by decide +kernel
theorem dX1_fillCell_5 : decode cX1_fillCell 5 = .ok (.iadd, 1) := by decide +kernel
theorem dX1_fillCell_6 : decode cX1_fillCell 6 = .ok (.istore 5, 2) := by decide +kernel
theorem dX1_fillCell_8 : decode cX1_fillCell 8 = .ok (.aload_n 0, 1) := by decide +kernel
theorem dX1_fillCell_9 : decode cX1_fillCell 9 = .ok (.getfield 24, 3) := by decide +kernel
theorem dX1_fillCell_12 : decode cX1_fillCell 12 = .ok (.iload 5, 2) := by decide +kernel
theorem dX1_fillCell_14 : decode cX1_fillCell 14 = .ok (.ldc2_w 30, 3) := by decide +kernel
theorem dX1_fillCell_17 : decode cX1_fillCell 17 = .ok (.lastore, 1) := by decide +kernel
theorem dX1_fillCell_18 : decode cX1_fillCell 18 = .ok (.aload_n 0, 1) := by decide +kernel
theorem dX1_fillCell_19 : decode cX1_fillCell 19 = .ok (.getfield 27, 3) := by decide +kernel
theorem dX1_fillCell_22 : decode cX1_fillCell 22 = .ok (.iload 5, 2) := by decide +kernel
theorem dX1_fillCell_24 : decode cX1_fillCell 24 = .ok (.ldc2_w 30, 3) := by decide +kernel
theorem dX1_fillCell_27 : decode cX1_fillCell 27 = .ok (.lastore, 1) := by decide +kernel
theorem dX1_fillCell_28 : decode cX1_fillCell 28 = .ok (.iload_n 3, 1) := by decide +kernel
theorem dX1_fillCell_29 : decode cX1_fillCell 29 = .ok (.istore 6, 2) := by decide +kernel
theorem dX1_fillCell_31 : decode cX1_fillCell 31 = .ok (.iload 6, 2) := by decide +kernel
theorem dX1_fillCell_33 : decode cX1_fillCell 33 = .ok (.iload 4, 2) := by decide +kernel
theorem dX1_fillCell_35 : decode cX1_fillCell 35 = .ok (.if_icmp .gt 141, 3) := by decide +kernel
theorem dX1_fillCell_38 : decode cX1_fillCell 38 = .ok (.aload_n 0, 1) := by decide +kernel
theorem dX1_fillCell_39 : decode cX1_fillCell 39 = .ok (.getfield 17, 3) := by decide +kernel
theorem dX1_fillCell_42 : decode cX1_fillCell 42 = .ok (.iload_n 1, 1) := by decide +kernel
theorem dX1_fillCell_43 : decode cX1_fillCell 43 = .ok (.bipush 24, 2) := by decide +kernel
theorem dX1_fillCell_45 : decode cX1_fillCell 45 = .ok (.imul, 1) := by decide +kernel
theorem dX1_fillCell_46 : decode cX1_fillCell 46 = .ok (.iload 6, 2) := by decide +kernel
theorem dX1_fillCell_48 : decode cX1_fillCell 48 = .ok (.iadd, 1) := by decide +kernel
theorem dX1_fillCell_49 : decode cX1_fillCell 49 = .ok (.laload, 1) := by decide +kernel
theorem dX1_fillCell_50 : decode cX1_fillCell 50 = .ok (.lstore 7, 2) := by decide +kernel
theorem dX1_fillCell_52 : decode cX1_fillCell 52 = .ok (.lload 7, 2) := by decide +kernel
theorem dX1_fillCell_54 : decode cX1_fillCell 54 = .ok (.ldc2_w 64, 3) := by decide +kernel
theorem dX1_fillCell_57 : decode cX1_fillCell 57 = .ok (.lcmp, 1) := by decide +kernel
theorem dX1_fillCell_58 : decode cX1_fillCell 58 = .ok (.ifCond .ne 6, 3) := by decide +kernel
theorem dX1_fillCell_61 : decode cX1_fillCell 61 = .ok (.goto 109, 3) := by decide +kernel
theorem dX1_fillCell_64 : decode cX1_fillCell 64 = .ok (.lload 7, 2) := by decide +kernel
theorem dX1_fillCell_66 : decode cX1_fillCell 66 = .ok (.ldc2_w 62, 3) := by decide +kernel
theorem dX1_fillCell_69 : decode cX1_fillCell 69 = .ok (.lmul, 1) := by decide +kernel
theorem dX1_fillCell_70 : decode cX1_fillCell 70 = .ok (.lconst 1, 1) := by decide +kernel
theorem dX1_fillCell_71 : decode cX1_fillCell 71 = .ok (.ladd, 1) := by decide +kernel
theorem dX1_fillCell_72 : decode cX1_fillCell 72 = .ok (.lstore 9, 2) := by decide +kernel
theorem dX1_fillCell_74 : decode cX1_fillCell 74 = .ok (.iload 6, 2) := by decide +kernel
theorem dX1_fillCell_76 : decode cX1_fillCell 76 = .ok (.aload_n 0, 1) := by decide +kernel
theorem dX1_fillCell_77 : decode cX1_fillCell 77 = .ok (.getfield 11, 3) := by decide +kernel
theorem dX1_fillCell_80 : decode cX1_fillCell 80 = .ok (.getfield 39, 3) := by decide +kernel
theorem dX1_fillCell_83 : decode cX1_fillCell 83 = .ok (.iconst 1, 1) := by decide +kernel
theorem dX1_fillCell_84 : decode cX1_fillCell 84 = .ok (.isub, 1) := by decide +kernel
theorem dX1_fillCell_85 : decode cX1_fillCell 85 = .ok (.if_icmp .ne 72, 3) := by decide +kernel
theorem dX1_fillCell_88 : decode cX1_fillCell 88 = .ok (.iload_n 2, 1) := by decide +kernel
theorem dX1_fillCell_89 : decode cX1_fillCell 89 = .ok (.ifCond .ne 11, 3) := by decide +kernel
theorem dX1_fillCell_92 : decode cX1_fillCell 92 = .ok (.iload_n 1, 1) := by decide +kernel
theorem dX1_fillCell_93 : decode cX1_fillCell 93 = .ok (.ifCond .le 7, 3) := by decide +kernel
theorem dX1_fillCell_96 : decode cX1_fillCell 96 = .ok (.iconst 1, 1) := by decide +kernel
theorem dX1_fillCell_97 : decode cX1_fillCell 97 = .ok (.goto 4, 3) := by decide +kernel
theorem dX1_fillCell_100 : decode cX1_fillCell 100 = .ok (.iconst 0, 1) := by decide +kernel
theorem dX1_fillCell_101 : decode cX1_fillCell 101 = .ok (.istore 11, 2) := by decide +kernel
theorem dX1_fillCell_103 : decode cX1_fillCell 103 = .ok (.iload 11, 2) := by decide +kernel
theorem dX1_fillCell_105 : decode cX1_fillCell 105 = .ok (.ifCond .eq 16, 3) := by decide +kernel
theorem dX1_fillCell_108 : decode cX1_fillCell 108 = .ok (.aload_n 0, 1) := by decide +kernel
theorem dX1_fillCell_109 : decode cX1_fillCell 109 = .ok (.getfield 11, 3) := by decide +kernel
theorem dX1_fillCell_112 : decode cX1_fillCell 112 = .ok (.getfield 94, 3) := by decide +kernel
theorem dX1_fillCell_115 : decode cX1_fillCell 115 = .ok (.iconst 2, 1) := by decide +kernel
theorem dX1_fillCell_116 : decode cX1_fillCell 116 = .ok (.iaload, 1) := by decide +kernel
theorem dX1_fillCell_117 : decode cX1_fillCell 117 = .ok (.i2l, 1) := by decide +kernel
theorem dX1_fillCell_118 : decode cX1_fillCell 118 = .ok (.goto 4, 3) := by decide +kernel
theorem dX1_fillCell_121 : decode cX1_fillCell 121 = .ok (.lconst 0, 1) := by decide +kernel
theorem dX1_fillCell_122 : decode cX1_fillCell 122 = .ok (.ldc2_w 62, 3) := by decide +kernel
theorem dX1_fillCell_125 : decode cX1_fillCell 125 = .ok (.lmul, 1) := by decide +kernel
theorem dX1_fillCell_126 : decode cX1_fillCell 126 = .ok (.ldc2_w 98, 3) := by decide +kernel
theorem dX1_fillCell_129 : decode cX1_fillCell 129 = .ok (.ladd, 1) := by decide +kernel
theorem dX1_fillCell_130 : decode cX1_fillCell 130 = .ok (.lstore 12, 2) := by decide +kernel
theorem dX1_fillCell_132 : decode cX1_fillCell 132 = .ok (.aload_n 0, 1) := by decide +kernel
theorem dX1_fillCell_133 : decode cX1_fillCell 133 = .ok (.iload 5, 2) := by decide +kernel
theorem dX1_fillCell_135 : decode cX1_fillCell 135 = .ok (.lload 9, 2) := by decide +kernel
theorem dX1_fillCell_137 : decode cX1_fillCell 137 = .ok (.lload 12, 2) := by decide +kernel
theorem dX1_fillCell_139 : decode cX1_fillCell 139 = .ok (.ladd, 1) := by decide +kernel
theorem dX1_fillCell_140 : decode cX1_fillCell 140 = .ok (.iload 6, 2) := by decide +kernel
theorem dX1_fillCell_142 : decode cX1_fillCell 142 = .ok (.invokestatic 66, 3) := by decide +kernel
theorem dX1_fillCell_145 : decode cX1_fillCell 145 = .ok (.iload 6, 2) := by decide +kernel
theorem dX1_fillCell_147 : decode cX1_fillCell 147 = .ok (.invokestatic 70, 3) := by decide +kernel
theorem dX1_fillCell_150 : decode cX1_fillCell 150 = .ok (.ladd, 1) := by decide +kernel
theorem dX1_fillCell_151 : decode cX1_fillCell 151 = .ok (.invokevirtual 100, 3) := by decide +kernel
theorem dX1_fillCell_154 : decode cX1_fillCell 154 = .ok (.goto 16, 3) := by decide +kernel
theorem dX1_fillCell_157 : decode cX1_fillCell 157 = .ok (.aload_n 0, 1) := by decide +kernel
theorem dX1_fillCell_158 : decode cX1_fillCell 158 = .ok (.iload 5, 2) := by decide +kernel
theorem dX1_fillCell_160 : decode cX1_fillCell 160 = .ok (.lload 9, 2) := by decide +kernel
theorem dX1_fillCell_162 : decode cX1_fillCell 162 = .ok (.iload 6, 2) := by decide +kernel
theorem dX1_fillCell_164 : decode cX1_fillCell 164 = .ok (.iload_n 2, 1) := by decide +kernel
theorem dX1_fillCell_165 : decode cX1_fillCell 165 = .ok (.iconst 1, 1) := by decide +kernel
theorem dX1_fillCell_166 : decode cX1_fillCell 166 = .ok (.iadd, 1) := by decide +kernel
theorem dX1_fillCell_167 : decode cX1_fillCell 167 = .ok (.invokevirtual 104, 3) := by decide +kernel
theorem dX1_fillCell_170 : decode cX1_fillCell 170 = .ok (.iinc 6 1, 3) := by decide +kernel
theorem dX1_fillCell_173 : decode cX1_fillCell 173 = .ok (.goto (-142), 3) := by decide +kernel
theorem dX1_fillCell_176 : decode cX1_fillCell 176 = .ok (.return_, 1) := by decide +kernel
set_option maxRecDepth 20000 in
theorem ggX1_offerGoingOn_X1_lineEnd : GoodIn wsX1_offerGoingOn wsX1_lineEnd := goodIn_r _ [12] rfl (by decide +kernel)
set_option maxRecDepth 20000 in
theorem gX1_offerGoingOn_X1_lineEnd : GoodIn wsX1_offerGoingOn (va_wsS RX1 66 yX1_lineEnd wsX1_lineEnd) := goodIn_app (goodIn_of _ (by decide +kernel)) ggX1_offerGoingOn_X1_lineEnd
set_option maxRecDepth 20000 in
theorem ggX1_offerGoingOn_X1_pageEnd : GoodIn wsX1_offerGoingOn wsX1_pageEnd := goodIn_r _ [15] rfl (by decide +kernel)
set_option maxRecDepth 20000 in
theorem gX1_offerGoingOn_X1_pageEnd : GoodIn wsX1_offerGoingOn (va_wsS RX1 70 yX1_pageEnd wsX1_pageEnd) := goodIn_app (goodIn_of _ (by decide +kernel)) ggX1_offerGoingOn_X1_pageEnd
set_option maxRecDepth 20000 in
theorem ggX1_offerGoingOn_X1_offer : GoodIn wsX1_offerGoingOn wsX1_offer := goodIn_r _ [19, 1, 6, 20, 21, 22, 23, 24, 25, 26] rfl (by decide +kernel)
set_option maxRecDepth 20000 in
theorem gX1_offerGoingOn_X1_offer : GoodIn wsX1_offerGoingOn (wsV RX1 100 RX1 yX1_offer wsX1_offer) := goodIn_app (goodIn_of _ (by decide +kernel)) ggX1_offerGoingOn_X1_offer
theorem dX1_offerGoingOn_0 : decode cX1_offerGoingOn 0 = .ok (.iload 4, 2) := by decide +kernel
theorem dX1_offerGoingOn_2 : decode cX1_offerGoingOn 2 = .ok (.iconst 1, 1) := by decide +kernel
end
section
theorem dX1_offerGoingOn_3 : decode cX1_offerGoingOn 3 = .ok (.iadd, 1) := by decide +kernel
theorem dX1_offerGoingOn_4 : decode cX1_offerGoingOn 4 = .ok (.bipush 8, 2) := by decide +kernel
theorem dX1_offerGoingOn_6 : decode cX1_offerGoingOn 6 = .ok (.imul, 1) := by decide +kernel
theorem dX1_offerGoingOn_7 : decode cX1_offerGoingOn 7 = .ok (.istore 6, 2) := by decide +kernel
theorem dX1_offerGoingOn_9 : decode cX1_offerGoingOn 9 = .ok (.aload_n 0, 1) := by decide +kernel
theorem dX1_offerGoingOn_10 : decode cX1_offerGoingOn 10 = .ok (.getfield 24, 3) := by decide +kernel
theorem dX1_offerGoingOn_13 : decode cX1_offerGoingOn 13 = .ok (.iload 6, 2) := by decide +kernel
theorem dX1_offerGoingOn_15 : decode cX1_offerGoingOn 15 = .ok (.laload, 1) := by decide +kernel
theorem dX1_offerGoingOn_16 : decode cX1_offerGoingOn 16 = .ok (.ldc2_w 30, 3) := by decide +kernel
theorem dX1_offerGoingOn_19 : decode cX1_offerGoingOn 19 = .ok (.lcmp, 1) := by decide +kernel
theorem dX1_offerGoingOn_20 : decode cX1_offerGoingOn 20 = .ok (.ifCond .eq 56, 3) := by decide +kernel
theorem dX1_offerGoingOn_23 : decode cX1_offerGoingOn 23 = .ok (.aload_n 0, 1) := by decide +kernel
theorem dX1_offerGoingOn_24 : decode cX1_offerGoingOn 24 = .ok (.getfield 21, 3) := by decide +kernel
theorem dX1_offerGoingOn_27 : decode cX1_offerGoingOn 27 = .ok (.iload 4, 2) := by decide +kernel
theorem dX1_offerGoingOn_29 : decode cX1_offerGoingOn 29 = .ok (.laload, 1) := by decide +kernel
theorem dX1_offerGoingOn_30 : decode cX1_offerGoingOn 30 = .ok (.ldc2_w 62, 3) := by decide +kernel
theorem dX1_offerGoingOn_33 : decode cX1_offerGoingOn 33 = .ok (.lmul, 1) := by decide +kernel
theorem dX1_offerGoingOn_34 : decode cX1_offerGoingOn 34 = .ok (.ldc2_w 98, 3) := by decide +kernel
theorem dX1_offerGoingOn_37 : decode cX1_offerGoingOn 37 = .ok (.ladd, 1) := by decide +kernel
theorem dX1_offerGoingOn_38 : decode cX1_offerGoingOn 38 = .ok (.lstore 7, 2) := by decide +kernel
theorem dX1_offerGoingOn_40 : decode cX1_offerGoingOn 40 = .ok (.aload_n 0, 1) := by decide +kernel
theorem dX1_offerGoingOn_41 : decode cX1_offerGoingOn 41 = .ok (.iload_n 1, 1) := by decide +kernel
theorem dX1_offerGoingOn_42 : decode cX1_offerGoingOn 42 = .ok (.lload_n 2, 1) := by decide +kernel
theorem dX1_offerGoingOn_43 : decode cX1_offerGoingOn 43 = .ok (.lload 7, 2) := by decide +kernel
theorem dX1_offerGoingOn_45 : decode cX1_offerGoingOn 45 = .ok (.ladd, 1) := by decide +kernel
theorem dX1_offerGoingOn_46 : decode cX1_offerGoingOn 46 = .ok (.aload_n 0, 1) := by decide +kernel
theorem dX1_offerGoingOn_47 : decode cX1_offerGoingOn 47 = .ok (.getfield 24, 3) := by decide +kernel
theorem dX1_offerGoingOn_50 : decode cX1_offerGoingOn 50 = .ok (.iload 6, 2) := by decide +kernel
theorem dX1_offerGoingOn_52 : decode cX1_offerGoingOn 52 = .ok (.laload, 1) := by decide +kernel
theorem dX1_offerGoingOn_53 : decode cX1_offerGoingOn 53 = .ok (.ladd, 1) := by decide +kernel
theorem dX1_offerGoingOn_54 : decode cX1_offerGoingOn 54 = .ok (.iload 4, 2) := by decide +kernel
theorem dX1_offerGoingOn_56 : decode cX1_offerGoingOn 56 = .ok (.invokestatic 66, 3) := by decide +kernel
theorem dX1_offerGoingOn_59 : decode cX1_offerGoingOn 59 = .ok (.iload 4, 2) := by decide +kernel
theorem dX1_offerGoingOn_61 : decode cX1_offerGoingOn 61 = .ok (.invokestatic 70, 3) := by decide +kernel
theorem dX1_offerGoingOn_64 : decode cX1_offerGoingOn 64 = .ok (.ladd, 1) := by decide +kernel
theorem dX1_offerGoingOn_65 : decode cX1_offerGoingOn 65 = .ok (.aload_n 0, 1) := by decide +kernel
theorem dX1_offerGoingOn_66 : decode cX1_offerGoingOn 66 = .ok (.getfield 27, 3) := by decide +kernel
theorem dX1_offerGoingOn_69 : decode cX1_offerGoingOn 69 = .ok (.iload 6, 2) := by decide +kernel
theorem dX1_offerGoingOn_71 : decode cX1_offerGoingOn 71 = .ok (.laload, 1) := by decide +kernel
theorem dX1_offerGoingOn_72 : decode cX1_offerGoingOn 72 = .ok (.ladd, 1) := by decide +kernel
theorem dX1_offerGoingOn_73 : decode cX1_offerGoingOn 73 = .ok (.invokevirtual 100, 3) := by decide +kernel
theorem dX1_offerGoingOn_76 : decode cX1_offerGoingOn 76 = .ok (.iload 5, 2) := by decide +kernel
theorem dX1_offerGoingOn_78 : decode cX1_offerGoingOn 78 = .ok (.aload_n 0, 1) := by decide +kernel
theorem dX1_offerGoingOn_79 : decode cX1_offerGoingOn 79 = .ok (.getfield 11, 3) := by decide +kernel
theorem dX1_offerGoingOn_82 : decode cX1_offerGoingOn 82 = .ok (.getfield 81, 3) := by decide +kernel
theorem dX1_offerGoingOn_85 : decode cX1_offerGoingOn 85 = .ok (.if_icmp .ge 53, 3) := by decide +kernel
theorem dX1_offerGoingOn_88 : decode cX1_offerGoingOn 88 = .ok (.aload_n 0, 1) := by decide +kernel
theorem dX1_offerGoingOn_89 : decode cX1_offerGoingOn 89 = .ok (.getfield 24, 3) := by decide +kernel
theorem dX1_offerGoingOn_92 : decode cX1_offerGoingOn 92 = .ok (.iload 6, 2) := by decide +kernel
theorem dX1_offerGoingOn_94 : decode cX1_offerGoingOn 94 = .ok (.iload 5, 2) := by decide +kernel
theorem dX1_offerGoingOn_96 : decode cX1_offerGoingOn 96 = .ok (.iadd, 1) := by decide +kernel
theorem dX1_offerGoingOn_97 : decode cX1_offerGoingOn 97 = .ok (.laload, 1) := by decide +kernel
theorem dX1_offerGoingOn_98 : decode cX1_offerGoingOn 98 = .ok (.ldc2_w 30, 3) := by decide +kernel
theorem dX1_offerGoingOn_101 : decode cX1_offerGoingOn 101 = .ok (.lcmp, 1) := by decide +kernel
theorem dX1_offerGoingOn_102 : decode cX1_offerGoingOn 102 = .ok (.ifCond .eq 36, 3) := by decide +kernel
theorem dX1_offerGoingOn_105 : decode cX1_offerGoingOn 105 = .ok (.aload_n 0, 1) := by decide +kernel
theorem dX1_offerGoingOn_106 : decode cX1_offerGoingOn 106 = .ok (.iload_n 1, 1) := by decide +kernel
theorem dX1_offerGoingOn_107 : decode cX1_offerGoingOn 107 = .ok (.lload_n 2, 1) := by decide +kernel
theorem dX1_offerGoingOn_108 : decode cX1_offerGoingOn 108 = .ok (.aload_n 0, 1) := by decide +kernel
theorem dX1_offerGoingOn_109 : decode cX1_offerGoingOn 109 = .ok (.getfield 24, 3) := by decide +kernel
theorem dX1_offerGoingOn_112 : decode cX1_offerGoingOn 112 = .ok (.iload 6, 2) := by decide +kernel
theorem dX1_offerGoingOn_114 : decode cX1_offerGoingOn 114 = .ok (.iload 5, 2) := by decide +kernel
theorem dX1_offerGoingOn_116 : decode cX1_offerGoingOn 116 = .ok (.iadd, 1) := by decide +kernel
theorem dX1_offerGoingOn_117 : decode cX1_offerGoingOn 117 = .ok (.laload, 1) := by decide +kernel
theorem dX1_offerGoingOn_118 : decode cX1_offerGoingOn 118 = .ok (.ladd, 1) := by decide +kernel
theorem dX1_offerGoingOn_119 : decode cX1_offerGoingOn 119 = .ok (.iload 4, 2) := by decide +kernel
theorem dX1_offerGoingOn_121 : decode cX1_offerGoingOn 121 = .ok (.invokestatic 66, 3) := by decide +kernel
theorem dX1_offerGoingOn_124 : decode cX1_offerGoingOn 124 = .ok (.aload_n 0, 1) := by decide +kernel
theorem dX1_offerGoingOn_125 : decode cX1_offerGoingOn 125 = .ok (.getfield 27, 3) := by decide +kernel
theorem dX1_offerGoingOn_128 : decode cX1_offerGoingOn 128 = .ok (.iload 6, 2) := by decide +kernel
theorem dX1_offerGoingOn_130 : decode cX1_offerGoingOn 130 = .ok (.iload 5, 2) := by decide +kernel
theorem dX1_offerGoingOn_132 : decode cX1_offerGoingOn 132 = .ok (.iadd, 1) := by decide +kernel
theorem dX1_offerGoingOn_133 : decode cX1_offerGoingOn 133 = .ok (.laload, 1) := by decide +kernel
theorem dX1_offerGoingOn_134 : decode cX1_offerGoingOn 134 = .ok (.ladd, 1) := by decide +kernel
theorem dX1_offerGoingOn_135 : decode cX1_offerGoingOn 135 = .ok (.invokevirtual 100, 3) := by decide +kernel
theorem dX1_offerGoingOn_138 : decode cX1_offerGoingOn 138 = .ok (.return_, 1) := by decide +kernel
theorem dX1_offer_0 : decode cX1_offer 0 = .ok (.lload_n 2, 1) := by decide +kernel
theorem dX1_offer_1 : decode cX1_offer 1 = .ok (.aload_n 0, 1) := by decide +kernel
theorem dX1_offer_2 : decode cX1_offer 2 = .ok (.getfield 24, 3) := by decide +kernel
theorem dX1_offer_5 : decode cX1_offer 5 = .ok (.iload_n 1, 1) := by decide +kernel
theorem dX1_offer_6 : decode cX1_offer 6 = .ok (.laload, 1) := by decide +kernel
theorem dX1_offer_7 : decode cX1_offer 7 = .ok (.lcmp, 1) := by decide +kernel
theorem dX1_offer_8 : decode cX1_offer 8 = .ok (.ifCond .lt 26, 3) := by decide +kernel
theorem dX1_offer_11 : decode cX1_offer 11 = .ok (.lload_n 2, 1) := by decide +kernel
theorem dX1_offer_12 : decode cX1_offer 12 = .ok (.aload_n 0, 1) := by decide +kernel
theorem dX1_offer_13 : decode cX1_offer 13 = .ok (.getfield 24, 3) := by decide +kernel
theorem dX1_offer_16 : decode cX1_offer 16 = .ok (.iload_n 1, 1) := by decide +kernel
theorem dX1_offer_17 : decode cX1_offer 17 = .ok (.laload, 1) := by decide +kernel
theorem dX1_offer_18 : decode cX1_offer 18 = .ok (.lcmp, 1) := by decide +kernel
theorem dX1_offer_19 : decode cX1_offer 19 = .ok (.ifCond .ne 30, 3) := by decide +kernel
theorem dX1_offer_22 : decode cX1_offer 22 = .ok (.lload 4, 2) := by decide +kernel
theorem dX1_offer_24 : decode cX1_offer 24 = .ok (.aload_n 0, 1) := by decide +kernel
theorem dX1_offer_25 : decode cX1_offer 25 = .ok (.getfield 27, 3) := by decide +kernel
theorem dX1_offer_28 : decode cX1_offer 28 = .ok (.iload_n 1, 1) := by decide +kernel
theorem dX1_offer_29 : decode cX1_offer 29 = .ok (.laload, 1) := by decide +kernel
theorem dX1_offer_30 : decode cX1_offer 30 = .ok (.lcmp, 1) := by decide +kernel
theorem dX1_offer_31 : decode cX1_offer 31 = .ok (.ifCond .ge 18, 3) := by decide +kernel
theorem dX1_offer_34 : decode cX1_offer 34 = .ok (.aload_n 0, 1) := by decide +kernel
theorem dX1_offer_35 : decode cX1_offer 35 = .ok (.getfield 24, 3) := by decide +kernel
theorem dX1_offer_38 : decode cX1_offer 38 = .ok (.iload_n 1, 1) := by decide +kernel
theorem dX1_offer_39 : decode cX1_offer 39 = .ok (.lload_n 2, 1) := by decide +kernel
theorem dX1_offer_40 : decode cX1_offer 40 = .ok (.lastore, 1) := by decide +kernel
theorem dX1_offer_41 : decode cX1_offer 41 = .ok (.aload_n 0, 1) := by decide +kernel
theorem dX1_offer_42 : decode cX1_offer 42 = .ok (.getfield 27, 3) := by decide +kernel
theorem dX1_offer_45 : decode cX1_offer 45 = .ok (.iload_n 1, 1) := by decide +kernel
theorem dX1_offer_46 : decode cX1_offer 46 = .ok (.lload 4, 2) := by decide +kernel
theorem dX1_offer_48 : decode cX1_offer 48 = .ok (.lastore, 1) := by decide +kernel
theorem dX1_offer_49 : decode cX1_offer 49 = .ok (.return_, 1) := by decide +kernel
theorem dX1_lineEnd_0 : decode cX1_lineEnd 0 = .ok (.lconst 1, 1) := by decide +kernel
theorem dX1_lineEnd_1 : decode cX1_lineEnd 1 = .ok (.bipush 47, 2) := by decide +kernel
theorem dX1_lineEnd_3 : decode cX1_lineEnd 3 = .ok (.iload_n 0, 1) := by decide +kernel
theorem dX1_lineEnd_4 : decode cX1_lineEnd 4 = .ok (.isub, 1) := by decide +kernel
theorem dX1_lineEnd_5 : decode cX1_lineEnd 5 = .ok (.lshl, 1) := by decide +kernel
theorem dX1_lineEnd_6 : decode cX1_lineEnd 6 = .ok (.lreturn, 1) := by decide +kernel
theorem dX1_pageEnd_0 : decode cX1_pageEnd 0 = .ok (.lconst 1, 1) := by decide +kernel
theorem dX1_pageEnd_1 : decode cX1_pageEnd 1 = .ok (.bipush 23, 2) := by decide +kernel
theorem dX1_pageEnd_3 : decode cX1_pageEnd 3 = .ok (.iload_n 0, 1) := by decide +kernel
theorem dX1_pageEnd_4 : decode cX1_pageEnd 4 = .ok (.isub, 1) := by decide +kernel
theorem dX1_pageEnd_5 : decode cX1_pageEnd 5 = .ok (.lshl, 1) := by decide +kernel
theorem dX1_pageEnd_6 : decode cX1_pageEnd 6 = .ok (.lreturn, 1) := by decide +kernel
theorem dX2_init_0 : decode cX2_init 0 = .ok (.aload_n 0, 1) := by decide +kernel
theorem dX2_init_1 : decode cX2_init 1 = .ok (.invokespecial 3, 3) := by decide +kernel
theorem dX2_init_4 : decode cX2_init 4 = .ok (.aload_n 0, 1) := by decide +kernel
theorem dX2_init_5 : decode cX2_init 5 = .ok (.iconst 0, 1) := by decide +kernel
theorem dX2_init_6 : decode cX2_init 6 = .ok (.putfield 9, 3) := by decide +kernel
theorem dX2_init_9 : decode cX2_init 9 = .ok (.aload_n 0, 1) := by decide +kernel
theorem dX2_init_10 : decode cX2_init 10 = .ok (.lconst 0, 1) := by decide +kernel
theorem dX2_init_11 : decode cX2_init 11 = .ok (.putfield 15, 3) := by decide +kernel
theorem dX2_init_14 : decode cX2_init 14 = .ok (.aload_n 0, 1) := by decide +kernel
theorem dX2_init_15 : decode cX2_init 15 = .ok (.iconst 0, 1) := by decide +kernel
theorem dX2_init_16 : decode cX2_init 16 = .ok (.putfield 19, 3) := by decide +kernel
theorem dX2_init_19 : decode cX2_init 19 = .ok (.aload_n 0, 1) := by decide +kernel
theorem dX2_init_20 : decode cX2_init 20 = .ok (.iconst 0, 1) := by decide +kernel
theorem dX2_init_21 : decode cX2_init 21 = .ok (.putfield 23, 3) := by decide +kernel
theorem dX2_init_24 : decode cX2_init 24 = .ok (.aload_n 0, 1) := by decide +kernel
theorem dX2_init_25 : decode cX2_init 25 = .ok (.bipush 25, 2) := by decide +kernel
theorem dX2_init_27 : decode cX2_init 27 = .ok (.newarray .int, 2) := by decide +kernel
theorem dX2_init_29 : decode cX2_init 29 = .ok (.putfield 26, 3) := by decide +kernel
theorem dX2_init_32 : decode cX2_init 32 = .ok (.aload_n 0, 1) := by decide +kernel
theorem dX2_init_33 : decode cX2_init 33 = .ok (.bipush 25, 2) := by decide +kernel
theorem dX2_init_35 : decode cX2_init 35 = .ok (.newarray .int, 2) := by decide +kernel
theorem dX2_init_37 : decode cX2_init 37 = .ok (.putfield 30, 3) := by decide +kernel
theorem dX2_init_40 : decode cX2_init 40 = .ok (.aload_n 0, 1) := by decide +kernel
theorem dX2_init_41 : decode cX2_init 41 = .ok (.bipush 24, 2) := by decide +kernel
theorem dX2_init_43 : decode cX2_init 43 = .ok (.newarray .int, 2) := by decide +kernel
theorem dX2_init_45 : decode cX2_init 45 = .ok (.putfield 33, 3) := by decide +kernel
theorem dX2_init_48 : decode cX2_init 48 = .ok (.aload_n 0, 1) := by decide +kernel
theorem dX2_init_49 : decode cX2_init 49 = .ok (.bipush 24, 2) := by decide +kernel
theorem dX2_init_51 : decode cX2_init 51 = .ok (.newarray .int, 2) := by decide +kernel
theorem dX2_init_53 : decode cX2_init 53 = .ok (.putfield 36, 3) := by decide +kernel
theorem dX2_init_56 : decode cX2_init 56 = .ok (.return_, 1) := by decide +kernel
set_option maxRecDepth 20000 in
theorem ggX2_take_X1_hasFound : GoodIn wsX2_take wsX1_hasFound := goodIn_r _ [13, 14, 15, 46, 47, 48, 49, 50, 51, 52] rfl (by decide +kernel)
set_option maxRecDepth 20000 in
theorem gX2_take_X1_hasFound : GoodIn wsX2_take (wsV RX2 39 RX1 yX1_hasFound wsX1_hasFound) := goodIn_app (goodIn_of _ (by decide +kernel)) ggX2_take_X1_hasFound
set_option maxRecDepth 20000 in
theorem ggX2_take_X1_foundTotal : GoodIn wsX2_take wsX1_foundTotal := goodIn_r _ [19, 14, 20, 21, 22, 10, 11, 12, 13, 15, 46, 47, 48, 49, 50, 51, 52] rfl (by decide +kernel)
set_option maxRecDepth 20000 in
theorem gX2_take_X1_foundTotal : GoodIn wsX2_take (wsV RX2 45 RX1 yX1_foundTotal wsX1_foundTotal) := goodIn_app (goodIn_of _ (by decide +kernel)) ggX2_take_X1_foundTotal
set_option maxRecDepth 20000 in
theorem ggX2_take_X1_lineEndsAt : GoodIn wsX2_take wsX1_lineEndsAt := goodIn_r _ [26, 27, 28, 29, 12, 30, 46, 47, 48, 49, 50, 51, 52] rfl (by decide +kernel)
set_option maxRecDepth 20000 in
theorem gX2_take_X1_lineEndsAt : GoodIn wsX2_take (wsV RX2 49 RX1 yX1_lineEndsAt wsX1_lineEndsAt) := goodIn_app (goodIn_of _ (by decide +kernel)) ggX2_take_X1_lineEndsAt
set_option maxRecDepth 20000 in
theorem ggX2_take_X1_pageEndsAt : GoodIn wsX2_take wsX1_pageEndsAt := goodIn_r _ [34, 27, 35, 36, 12, 37, 46, 47, 48, 49, 50, 51, 52] rfl (by decide +kernel)
set_option maxRecDepth 20000 in
theorem gX2_take_X1_pageEndsAt : GoodIn wsX2_take (wsV RX2 53 RX1 yX1_pageEndsAt wsX1_pageEndsAt) := goodIn_app (goodIn_of _ (by decide +kernel)) ggX2_take_X1_pageEndsAt
theorem dX2_take_0 : decode cX2_take 0 = .ok (.aload_n 0, 1) := by decide +kernel
theorem dX2_take_1 : decode cX2_take 1 = .ok (.aload_n 1, 1) := by decide +kernel
theorem dX2_take_2 : decode cX2_take 2 = .ok (.invokevirtual 39, 3) := by decide +kernel
theorem dX2_take_5 : decode cX2_take 5 = .ok (.putfield 9, 3) := by decide +kernel
theorem dX2_take_8 : decode cX2_take 8 = .ok (.aload_n 0, 1) := by decide +kernel
theorem dX2_take_9 : decode cX2_take 9 = .ok (.aload_n 1, 1) := by decide +kernel
theorem dX2_take_10 : decode cX2_take 10 = .ok (.invokevirtual 45, 3) := by decide +kernel
theorem dX2_take_13 : decode cX2_take 13 = .ok (.putfield 15, 3) := by decide +kernel
theorem dX2_take_16 : decode cX2_take 16 = .ok (.aload_n 0, 1) := by decide +kernel
theorem dX2_take_17 : decode cX2_take 17 = .ok (.iconst 0, 1) := by decide +kernel
theorem dX2_take_18 : decode cX2_take 18 = .ok (.putfield 19, 3) := by decide +kernel
theorem dX2_take_21 : decode cX2_take 21 = .ok (.aload_n 0, 1) := by decide +kernel
theorem dX2_take_22 : decode cX2_take 22 = .ok (.iconst 0, 1) := by decide +kernel
theorem dX2_take_23 : decode cX2_take 23 = .ok (.putfield 23, 3) := by decide +kernel
theorem dX2_take_26 : decode cX2_take 26 = .ok (.aload_n 0, 1) := by decide +kernel
theorem dX2_take_27 : decode cX2_take 27 = .ok (.getfield 9, 3) := by decide +kernel
theorem dX2_take_30 : decode cX2_take 30 = .ok (.ifCond .ne 4, 3) := by decide +kernel
theorem dX2_take_33 : decode cX2_take 33 = .ok (.return_, 1) := by decide +kernel
theorem dX2_take_34 : decode cX2_take 34 = .ok (.iconst 0, 1) := by decide +kernel
theorem dX2_take_35 : decode cX2_take 35 = .ok (.istore_n 3, 1) := by decide +kernel
theorem dX2_take_36 : decode cX2_take 36 = .ok (.iload_n 3, 1) := by decide +kernel
theorem dX2_take_37 : decode cX2_take 37 = .ok (.iload_n 2, 1) := by decide +kernel
theorem dX2_take_38 : decode cX2_take 38 = .ok (.if_icmp .ge 93, 3) := by decide +kernel
theorem dX2_take_41 : decode cX2_take 41 = .ok (.aload_n 0, 1) := by decide +kernel
theorem dX2_take_42 : decode cX2_take 42 = .ok (.getfield 36, 3) := by decide +kernel
theorem dX2_take_45 : decode cX2_take 45 = .ok (.iload_n 3, 1) := by decide +kernel
theorem dX2_take_46 : decode cX2_take 46 = .ok (.aload_n 0, 1) := by decide +kernel
theorem dX2_take_47 : decode cX2_take 47 = .ok (.getfield 19, 3) := by decide +kernel
theorem dX2_take_50 : decode cX2_take 50 = .ok (.iastore, 1) := by decide +kernel
theorem dX2_take_51 : decode cX2_take 51 = .ok (.aload_n 1, 1) := by decide +kernel
theorem dX2_take_52 : decode cX2_take 52 = .ok (.iload_n 3, 1) := by decide +kernel
theorem dX2_take_53 : decode cX2_take 53 = .ok (.invokevirtual 49, 3) := by decide +kernel
theorem dX2_take_56 : decode cX2_take 56 = .ok (.ifCond .eq 38, 3) := by decide +kernel
theorem dX2_take_59 : decode cX2_take 59 = .ok (.aload_n 0, 1) := by decide +kernel
theorem dX2_take_60 : decode cX2_take 60 = .ok (.getfield 33, 3) := by decide +kernel
theorem dX2_take_63 : decode cX2_take 63 = .ok (.aload_n 0, 1) := by decide +kernel
theorem dX2_take_64 : decode cX2_take 64 = .ok (.getfield 19, 3) := by decide +kernel
theorem dX2_take_67 : decode cX2_take 67 = .ok (.aload_n 0, 1) := by decide +kernel
theorem dX2_take_68 : decode cX2_take 68 = .ok (.getfield 23, 3) := by decide +kernel
theorem dX2_take_71 : decode cX2_take 71 = .ok (.iastore, 1) := by decide +kernel
theorem dX2_take_72 : decode cX2_take 72 = .ok (.aload_n 0, 1) := by decide +kernel
theorem dX2_take_73 : decode cX2_take 73 = .ok (.dup, 1) := by decide +kernel
theorem dX2_take_74 : decode cX2_take 74 = .ok (.getfield 19, 3) := by decide +kernel
theorem dX2_take_77 : decode cX2_take 77 = .ok (.iconst 1, 1) := by decide +kernel
theorem dX2_take_78 : decode cX2_take 78 = .ok (.iadd, 1) := by decide +kernel
theorem dX2_take_79 : decode cX2_take 79 = .ok (.putfield 19, 3) := by decide +kernel
theorem dX2_take_82 : decode cX2_take 82 = .ok (.aload_n 0, 1) := by decide +kernel
theorem dX2_take_83 : decode cX2_take 83 = .ok (.getfield 26, 3) := by decide +kernel
theorem dX2_take_86 : decode cX2_take 86 = .ok (.aload_n 0, 1) := by decide +kernel
theorem dX2_take_87 : decode cX2_take 87 = .ok (.getfield 19, 3) := by decide +kernel
theorem dX2_take_90 : decode cX2_take 90 = .ok (.iload_n 3, 1) := by decide +kernel
theorem dX2_take_91 : decode cX2_take 91 = .ok (.iconst 1, 1) := by decide +kernel
theorem dX2_take_92 : decode cX2_take 92 = .ok (.iadd, 1) := by decide +kernel
theorem dX2_take_93 : decode cX2_take 93 = .ok (.iastore, 1) := by decide +kernel
theorem dX2_take_94 : decode cX2_take 94 = .ok (.aload_n 1, 1) := by decide +kernel
theorem dX2_take_95 : decode cX2_take 95 = .ok (.iload_n 3, 1) := by decide +kernel
theorem dX2_take_96 : decode cX2_take 96 = .ok (.invokevirtual 53, 3) := by decide +kernel
theorem dX2_take_99 : decode cX2_take 99 = .ok (.ifCond .eq 26, 3) := by decide +kernel
theorem dX2_take_102 : decode cX2_take 102 = .ok (.aload_n 0, 1) := by decide +kernel
theorem dX2_take_103 : decode cX2_take 103 = .ok (.dup, 1) := by decide +kernel
theorem dX2_take_104 : decode cX2_take 104 = .ok (.getfield 23, 3) := by decide +kernel
theorem dX2_take_107 : decode cX2_take 107 = .ok (.iconst 1, 1) := by decide +kernel
theorem dX2_take_108 : decode cX2_take 108 = .ok (.iadd, 1) := by decide +kernel
theorem dX2_take_109 : decode cX2_take 109 = .ok (.putfield 23, 3) := by decide +kernel
theorem dX2_take_112 : decode cX2_take 112 = .ok (.aload_n 0, 1) := by decide +kernel
theorem dX2_take_113 : decode cX2_take 113 = .ok (.getfield 30, 3) := by decide +kernel
theorem dX2_take_116 : decode cX2_take 116 = .ok (.aload_n 0, 1) := by decide +kernel
theorem dX2_take_117 : decode cX2_take 117 = .ok (.getfield 23, 3) := by decide +kernel
theorem dX2_take_120 : decode cX2_take 120 = .ok (.aload_n 0, 1) := by decide +kernel
theorem dX2_take_121 : decode cX2_take 121 = .ok (.getfield 19, 3) := by decide +kernel
theorem dX2_take_124 : decode cX2_take 124 = .ok (.iastore, 1) := by decide +kernel
theorem dX2_take_125 : decode cX2_take 125 = .ok (.iinc 3 1, 3) := by decide +kernel
theorem dX2_take_128 : decode cX2_take 128 = .ok (.goto (-92), 3) := by decide +kernel
theorem dX2_take_131 : decode cX2_take 131 = .ok (.return_, 1) := by decide +kernel
theorem dX2_lastBar_0 : decode cX2_lastBar 0 = .ok (.aload_n 0, 1) := by decide +kernel
theorem dX2_lastBar_1 : decode cX2_lastBar 1 = .ok (.getfield 26, 3) := by decide +kernel
theorem dX2_lastBar_4 : decode cX2_lastBar 4 = .ok (.iload_n 1, 1) := by decide +kernel
theorem dX2_lastBar_5 : decode cX2_lastBar 5 = .ok (.iconst 1, 1) := by decide +kernel
theorem dX2_lastBar_6 : decode cX2_lastBar 6 = .ok (.iadd, 1) := by decide +kernel
theorem dX2_lastBar_7 : decode cX2_lastBar 7 = .ok (.iaload, 1) := by decide +kernel
theorem dX2_lastBar_8 : decode cX2_lastBar 8 = .ok (.iconst 1, 1) := by decide +kernel
theorem dX2_lastBar_9 : decode cX2_lastBar 9 = .ok (.isub, 1) := by decide +kernel
theorem dX2_lastBar_10 : decode cX2_lastBar 10 = .ok (.ireturn, 1) := by decide +kernel
theorem dX2_linesOnPage_0 : decode cX2_linesOnPage 0 = .ok (.aload_n 0, 1) := by decide +kernel
theorem dX2_linesOnPage_1 : decode cX2_linesOnPage 1 = .ok (.getfield 30, 3) := by decide +kernel
theorem dX2_linesOnPage_4 : decode cX2_linesOnPage 4 = .ok (.iload_n 1, 1) := by decide +kernel
theorem dX2_linesOnPage_5 : decode cX2_linesOnPage 5 = .ok (.iconst 1, 1) := by decide +kernel
theorem dX2_linesOnPage_6 : decode cX2_linesOnPage 6 = .ok (.iadd, 1) := by decide +kernel
theorem dX2_linesOnPage_7 : decode cX2_linesOnPage 7 = .ok (.iaload, 1) := by decide +kernel
theorem dX2_linesOnPage_8 : decode cX2_linesOnPage 8 = .ok (.aload_n 0, 1) := by decide +kernel
theorem dX2_linesOnPage_9 : decode cX2_linesOnPage 9 = .ok (.getfield 30, 3) := by decide +kernel
theorem dX2_linesOnPage_12 : decode cX2_linesOnPage 12 = .ok (.iload_n 1, 1) := by decide +kernel
theorem dX2_linesOnPage_13 : decode cX2_linesOnPage 13 = .ok (.iaload, 1) := by decide +kernel
theorem dX2_linesOnPage_14 : decode cX2_linesOnPage 14 = .ok (.isub, 1) := by decide +kernel
theorem dX2_linesOnPage_15 : decode cX2_linesOnPage 15 = .ok (.ireturn, 1) := by decide +kernel
set_option maxRecDepth 20000 in
theorem ggX3_init_X3_nearest : GoodIn wsX3_init wsX3_nearest := goodIn_r _ [20, 21, 22, 23, 24, 25, 26, 27] rfl (by decide +kernel)
set_option maxRecDepth 20000 in
theorem gX3_init_X3_nearest : GoodIn wsX3_init (va_wsS RX3 11 yX3_nearest wsX3_nearest) := goodIn_app (goodIn_of _ (by decide +kernel)) ggX3_init_X3_nearest
set_option maxRecDepth 20000 in
theorem ggX3_init_X0_init : GoodIn wsX3_init wsX0_init := goodIn_r _ [30, 31, 2, 3, 32, 33, 34, 35, 36, 37, 38, 39, 40, 41, 67, 68, 69, 70, 71, 72, 73, 74] rfl (by decide +kernel)
set_option maxRecDepth 20000 in
theorem gX3_init_X0_init : GoodIn wsX3_init (wsX0_init) := ggX3_init_X0_init
set_option maxRecDepth 20000 in
theorem ggX3_init_X1_init : GoodIn wsX3_init wsX1_init := goodIn_r _ [44, 45, 2, 3, 46, 47, 48, 49, 50, 51, 52, 53, 54, 79, 80, 81, 82, 83, 84, 85] rfl (by decide +kernel)
set_option maxRecDepth 20000 in
theorem gX3_init_X1_init : GoodIn wsX3_init (wsX1_init) := ggX3_init_X1_init
set_option maxRecDepth 20000 in
theorem ggX3_init_X2_init : GoodIn wsX3_init wsX2_init := goodIn_r _ [57, 58, 2, 3, 59, 60, 61, 62, 36, 63, 64, 65, 66, 86, 87, 88, 89, 90, 91, 92, 93] rfl (by decide +kernel)
set_option maxRecDepth 20000 in
theorem gX3_init_X2_init : GoodIn wsX3_init (wsX2_init) := ggX3_init_X2_init
theorem dX3_init_0 : decode cX3_init 0 = .ok (.aload_n 0, 1) := by decide +kernel
theorem dX3_init_1 : decode cX3_init 1 = .ok (.invokespecial 1, 3) := by decide +kernel
theorem dX3_init_4 : decode cX3_init 4 = .ok (.aload_n 0, 1) := by decide +kernel
theorem dX3_init_5 : decode cX3_init 5 = .ok (.new 7, 3) := by decide +kernel
theorem dX3_init_8 : decode cX3_init 8 = .ok (.dup, 1) := by decide +kernel
theorem dX3_init_9 : decode cX3_init 9 = .ok (.iload_n 1, 1) := by decide +kernel
theorem dX3_init_10 : decode cX3_init 10 = .ok (.bipush 100, 2) := by decide +kernel
theorem dX3_init_12 : decode cX3_init 12 = .ok (.sipush 5000, 3) := by decide +kernel
theorem dX3_init_15 : decode cX3_init 15 = .ok (.invokestatic 11, 3) := by decide +kernel
theorem dX3_init_18 : decode cX3_init 18 = .ok (.iload_n 2, 1) := by decide +kernel
theorem dX3_init_19 : decode cX3_init 19 = .ok (.iconst 1, 1) := by decide +kernel
theorem dX3_init_20 : decode cX3_init 20 = .ok (.bipush 8, 2) := by decide +kernel
theorem dX3_init_22 : decode cX3_init 22 = .ok (.invokestatic 11, 3) := by decide +kernel
theorem dX3_init_25 : decode cX3_init 25 = .ok (.invokespecial 15, 3) := by decide +kernel
theorem dX3_init_28 : decode cX3_init 28 = .ok (.putfield 18, 3) := by decide +kernel
theorem dX3_init_31 : decode cX3_init 31 = .ok (.aload_n 0, 1) := by decide +kernel
theorem dX3_init_32 : decode cX3_init 32 = .ok (.new 22, 3) := by decide +kernel
theorem dX3_init_35 : decode cX3_init 35 = .ok (.dup, 1) := by decide +kernel
theorem dX3_init_36 : decode cX3_init 36 = .ok (.aload_n 0, 1) := by decide +kernel
theorem dX3_init_37 : decode cX3_init 37 = .ok (.getfield 18, 3) := by decide +kernel
theorem dX3_init_40 : decode cX3_init 40 = .ok (.invokespecial 24, 3) := by decide +kernel
theorem dX3_init_43 : decode cX3_init 43 = .ok (.putfield 27, 3) := by decide +kernel
theorem dX3_init_46 : decode cX3_init 46 = .ok (.aload_n 0, 1) := by decide +kernel
theorem dX3_init_47 : decode cX3_init 47 = .ok (.new 31, 3) := by decide +kernel
theorem dX3_init_50 : decode cX3_init 50 = .ok (.dup, 1) := by decide +kernel
theorem dX3_init_51 : decode cX3_init 51 = .ok (.invokespecial 33, 3) := by decide +kernel
theorem dX3_init_54 : decode cX3_init 54 = .ok (.putfield 34, 3) := by decide +kernel
theorem dX3_init_57 : decode cX3_init 57 = .ok (.aload_n 0, 1) := by decide +kernel
theorem dX3_init_58 : decode cX3_init 58 = .ok (.iconst 0, 1) := by decide +kernel
theorem dX3_init_59 : decode cX3_init 59 = .ok (.putfield 38, 3) := by decide +kernel
theorem dX3_init_62 : decode cX3_init 62 = .ok (.return_, 1) := by decide +kernel
set_option maxRecDepth 20000 in
theorem ggX3_bar_X3_areWidths : GoodIn wsX3_bar wsX3_areWidths := goodIn_r _ [7, 8, 9, 6, 10] rfl (by decide +kernel)
set_option maxRecDepth 20000 in
theorem gX3_bar_X3_areWidths : GoodIn wsX3_bar (va_wsS RX3 42 yX3_areWidths wsX3_areWidths) := goodIn_app (goodIn_of _ (by decide +kernel)) ggX3_bar_X3_areWidths
set_option maxRecDepth 20000 in
theorem ggX3_bar_X0_addBar : GoodIn wsX3_bar wsX0_addBar := goodIn_r _ [15, 16, 17, 18, 23, 24, 25, 26, 27, 28, 29, 30] rfl (by decide +kernel)
set_option maxRecDepth 20000 in
theorem gX3_bar_X0_addBar : GoodIn wsX3_bar (wsV RX3 50 RX0 yX0_addBar wsX0_addBar) := goodIn_app (goodIn_of _ (by decide +kernel)) ggX3_bar_X0_addBar
theorem dX3_bar_0 : decode cX3_bar 0 = .ok (.iload_n 1, 1) := by decide +kernel
theorem dX3_bar_1 : decode cX3_bar 1 = .ok (.iload_n 2, 1) := by decide +kernel
theorem dX3_bar_2 : decode cX3_bar 2 = .ok (.invokestatic 42, 3) := by decide +kernel
theorem dX3_bar_5 : decode cX3_bar 5 = .ok (.ifCond .ne 6, 3) := by decide +kernel
theorem dX3_bar_8 : decode cX3_bar 8 = .ok (.bipush (-2), 2) := by decide +kernel
theorem dX3_bar_10 : decode cX3_bar 10 = .ok (.ireturn, 1) := by decide +kernel
theorem dX3_bar_11 : decode cX3_bar 11 = .ok (.aload_n 0, 1) := by decide +kernel
theorem dX3_bar_12 : decode cX3_bar 12 = .ok (.getfield 18, 3) := by decide +kernel
theorem dX3_bar_15 : decode cX3_bar 15 = .ok (.getfield 46, 3) := by decide +kernel
theorem dX3_bar_18 : decode cX3_bar 18 = .ok (.bipush 24, 2) := by decide +kernel
theorem dX3_bar_20 : decode cX3_bar 20 = .ok (.if_icmp .lt 6, 3) := by decide +kernel
theorem dX3_bar_23 : decode cX3_bar 23 = .ok (.bipush (-4), 2) := by decide +kernel
theorem dX3_bar_25 : decode cX3_bar 25 = .ok (.ireturn, 1) := by decide +kernel
theorem dX3_bar_26 : decode cX3_bar 26 = .ok (.aload_n 0, 1) := by decide +kernel
theorem dX3_bar_27 : decode cX3_bar 27 = .ok (.iconst 0, 1) := by decide +kernel
theorem dX3_bar_28 : decode cX3_bar 28 = .ok (.putfield 38, 3) := by decide +kernel
theorem dX3_bar_31 : decode cX3_bar 31 = .ok (.aload_n 0, 1) := by decide +kernel
theorem dX3_bar_32 : decode cX3_bar 32 = .ok (.getfield 18, 3) := by decide +kernel
theorem dX3_bar_35 : decode cX3_bar 35 = .ok (.iload_n 1, 1) := by decide +kernel
theorem dX3_bar_36 : decode cX3_bar 36 = .ok (.iload_n 2, 1) := by decide +kernel
theorem dX3_bar_37 : decode cX3_bar 37 = .ok (.invokevirtual 50, 3) := by decide +kernel
theorem dX3_bar_40 : decode cX3_bar 40 = .ok (.ireturn, 1) := by decide +kernel
set_option maxRecDepth 20000 in
theorem ggX3_change_X0_hasBar : GoodIn wsX3_change wsX0_hasBar := goodIn_r _ [7, 8, 34, 35, 36, 37, 38, 39, 40, 41] rfl (by decide +kernel)
set_option maxRecDepth 20000 in
theorem gX3_change_X0_hasBar : GoodIn wsX3_change (wsV RX3 54 RX0 yX0_hasBar wsX0_hasBar) := goodIn_app (goodIn_of _ (by decide +kernel)) ggX3_change_X0_hasBar
set_option maxRecDepth 20000 in
theorem ggX3_change_X3_areWidths : GoodIn wsX3_change wsX3_areWidths := goodIn_r _ [12, 13, 14, 11, 15] rfl (by decide +kernel)
set_option maxRecDepth 20000 in
theorem gX3_change_X3_areWidths : GoodIn wsX3_change (va_wsS RX3 42 yX3_areWidths wsX3_areWidths) := goodIn_app (goodIn_of _ (by decide +kernel)) ggX3_change_X3_areWidths
set_option maxRecDepth 20000 in
theorem ggX3_change_X0_putWidths : GoodIn wsX3_change wsX0_putWidths := goodIn_r _ [19, 8, 20, 21, 22, 23, 24, 6, 25, 26, 27, 28, 29, 34, 35, 36, 37, 38, 39, 40, 41] rfl (by decide +kernel)
set_option maxRecDepth 20000 in
theorem gX3_change_X0_putWidths : GoodIn wsX3_change (wsV RX3 58 RX0 yX0_putWidths wsX0_putWidths) := goodIn_app (goodIn_of _ (by decide +kernel)) ggX3_change_X0_putWidths
theorem dX3_change_0 : decode cX3_change 0 = .ok (.aload_n 0, 1) := by decide +kernel
theorem dX3_change_1 : decode cX3_change 1 = .ok (.getfield 18, 3) := by decide +kernel
theorem dX3_change_4 : decode cX3_change 4 = .ok (.iload_n 1, 1) := by decide +kernel
theorem dX3_change_5 : decode cX3_change 5 = .ok (.invokevirtual 54, 3) := by decide +kernel
theorem dX3_change_8 : decode cX3_change 8 = .ok (.ifCond .ne 5, 3) := by decide +kernel
theorem dX3_change_11 : decode cX3_change 11 = .ok (.iconst (-1), 1) := by decide +kernel
theorem dX3_change_12 : decode cX3_change 12 = .ok (.ireturn, 1) := by decide +kernel
theorem dX3_change_13 : decode cX3_change 13 = .ok (.iload_n 2, 1) := by decide +kernel
theorem dX3_change_14 : decode cX3_change 14 = .ok (.iload_n 3, 1) := by decide +kernel
theorem dX3_change_15 : decode cX3_change 15 = .ok (.invokestatic 42, 3) := by decide +kernel
theorem dX3_change_18 : decode cX3_change 18 = .ok (.ifCond .ne 6, 3) := by decide +kernel
theorem dX3_change_21 : decode cX3_change 21 = .ok (.bipush (-2), 2) := by decide +kernel
theorem dX3_change_23 : decode cX3_change 23 = .ok (.ireturn, 1) := by decide +kernel
theorem dX3_change_24 : decode cX3_change 24 = .ok (.aload_n 0, 1) := by decide +kernel
theorem dX3_change_25 : decode cX3_change 25 = .ok (.iconst 0, 1) := by decide +kernel
theorem dX3_change_26 : decode cX3_change 26 = .ok (.putfield 38, 3) := by decide +kernel
theorem dX3_change_29 : decode cX3_change 29 = .ok (.aload_n 0, 1) := by decide +kernel
theorem dX3_change_30 : decode cX3_change 30 = .ok (.getfield 18, 3) := by decide +kernel
theorem dX3_change_33 : decode cX3_change 33 = .ok (.iload_n 1, 1) := by decide +kernel
theorem dX3_change_34 : decode cX3_change 34 = .ok (.iload_n 2, 1) := by decide +kernel
theorem dX3_change_35 : decode cX3_change 35 = .ok (.iload_n 3, 1) := by decide +kernel
theorem dX3_change_36 : decode cX3_change 36 = .ok (.invokevirtual 58, 3) := by decide +kernel
theorem dX3_change_39 : decode cX3_change 39 = .ok (.iconst 1, 1) := by decide +kernel
theorem dX3_change_40 : decode cX3_change 40 = .ok (.ireturn, 1) := by decide +kernel
set_option maxRecDepth 20000 in
theorem ggX3_mark_X0_hasBar : GoodIn wsX3_mark wsX0_hasBar := goodIn_r _ [7, 8, 26, 27, 28, 29, 30, 31, 32, 33] rfl (by decide +kernel)
set_option maxRecDepth 20000 in
theorem gX3_mark_X0_hasBar : GoodIn wsX3_mark (wsV RX3 54 RX0 yX0_hasBar wsX0_hasBar) := goodIn_app (goodIn_of _ (by decide +kernel)) ggX3_mark_X0_hasBar
set_option maxRecDepth 20000 in
theorem ggX3_mark_X3_isWithin : GoodIn wsX3_mark wsX3_isWithin := goodIn_r _ [12] rfl (by decide +kernel)
set_option maxRecDepth 20000 in
theorem gX3_mark_X3_isWithin : GoodIn wsX3_mark (va_wsS RX3 62 yX3_isWithin wsX3_isWithin) := goodIn_app (goodIn_of _ (by decide +kernel)) ggX3_mark_X3_isWithin
set_option maxRecDepth 20000 in
theorem ggX3_mark_X0_isMarked : GoodIn wsX3_mark wsX0_isMarked := goodIn_r _ [16, 17, 26, 27, 28, 29, 30, 31, 32, 33] rfl (by decide +kernel)
set_option maxRecDepth 20000 in
theorem gX3_mark_X0_isMarked : GoodIn wsX3_mark (wsV RX3 66 RX0 yX0_isMarked wsX0_isMarked) := goodIn_app (goodIn_of _ (by decide +kernel)) ggX3_mark_X0_isMarked
set_option maxRecDepth 20000 in
theorem ggX3_mark_X0_putMark : GoodIn wsX3_mark wsX0_putMark := goodIn_r _ [21, 17, 26, 27, 28, 29, 30, 31, 32, 33] rfl (by decide +kernel)
set_option maxRecDepth 20000 in
theorem gX3_mark_X0_putMark : GoodIn wsX3_mark (wsV RX3 69 RX0 yX0_putMark wsX0_putMark) := goodIn_app (goodIn_of _ (by decide +kernel)) ggX3_mark_X0_putMark
theorem dX3_mark_0 : decode cX3_mark 0 = .ok (.aload_n 0, 1) := by decide +kernel
theorem dX3_mark_1 : decode cX3_mark 1 = .ok (.getfield 18, 3) := by decide +kernel
theorem dX3_mark_4 : decode cX3_mark 4 = .ok (.iload_n 1, 1) := by decide +kernel
theorem dX3_mark_5 : decode cX3_mark 5 = .ok (.invokevirtual 54, 3) := by decide +kernel
theorem dX3_mark_8 : decode cX3_mark 8 = .ok (.ifCond .ne 5, 3) := by decide +kernel
theorem dX3_mark_11 : decode cX3_mark 11 = .ok (.iconst (-1), 1) := by decide +kernel
theorem dX3_mark_12 : decode cX3_mark 12 = .ok (.ireturn, 1) := by decide +kernel
theorem dX3_mark_13 : decode cX3_mark 13 = .ok (.iload_n 2, 1) := by decide +kernel
theorem dX3_mark_14 : decode cX3_mark 14 = .ok (.iconst 0, 1) := by decide +kernel
theorem dX3_mark_15 : decode cX3_mark 15 = .ok (.iconst 2, 1) := by decide +kernel
theorem dX3_mark_16 : decode cX3_mark 16 = .ok (.invokestatic 62, 3) := by decide +kernel
theorem dX3_mark_19 : decode cX3_mark 19 = .ok (.ifCond .ne 6, 3) := by decide +kernel
theorem dX3_mark_22 : decode cX3_mark 22 = .ok (.bipush (-2), 2) := by decide +kernel
theorem dX3_mark_24 : decode cX3_mark 24 = .ok (.ireturn, 1) := by decide +kernel
theorem dX3_mark_25 : decode cX3_mark 25 = .ok (.aload_n 0, 1) := by decide +kernel
theorem dX3_mark_26 : decode cX3_mark 26 = .ok (.iconst 0, 1) := by decide +kernel
theorem dX3_mark_27 : decode cX3_mark 27 = .ok (.putfield 38, 3) := by decide +kernel
theorem dX3_mark_30 : decode cX3_mark 30 = .ok (.aload_n 0, 1) := by decide +kernel
theorem dX3_mark_31 : decode cX3_mark 31 = .ok (.getfield 18, 3) := by decide +kernel
theorem dX3_mark_34 : decode cX3_mark 34 = .ok (.iload_n 1, 1) := by decide +kernel
theorem dX3_mark_35 : decode cX3_mark 35 = .ok (.iload_n 2, 1) := by decide +kernel
theorem dX3_mark_36 : decode cX3_mark 36 = .ok (.invokevirtual 66, 3) := by decide +kernel
theorem dX3_mark_39 : decode cX3_mark 39 = .ok (.istore 4, 2) := by decide +kernel
theorem dX3_mark_41 : decode cX3_mark 41 = .ok (.aload_n 0, 1) := by decide +kernel
theorem dX3_mark_42 : decode cX3_mark 42 = .ok (.getfield 18, 3) := by decide +kernel
theorem dX3_mark_45 : decode cX3_mark 45 = .ok (.iload_n 1, 1) := by decide +kernel
theorem dX3_mark_46 : decode cX3_mark 46 = .ok (.iload_n 2, 1) := by decide +kernel
theorem dX3_mark_47 : decode cX3_mark 47 = .ok (.iload_n 3, 1) := by decide +kernel
theorem dX3_mark_48 : decode cX3_mark 48 = .ok (.invokevirtual 69, 3) := by decide +kernel
theorem dX3_mark_51 : decode cX3_mark 51 = .ok (.iload 4, 2) := by decide +kernel
theorem dX3_mark_53 : decode cX3_mark 53 = .ok (.ifCond .eq 7, 3) := by decide +kernel
theorem dX3_mark_56 : decode cX3_mark 56 = .ok (.iconst 1, 1) := by decide +kernel
theorem dX3_mark_57 : decode cX3_mark 57 = .ok (.goto 4, 3) := by decide +kernel
theorem dX3_mark_60 : decode cX3_mark 60 = .ok (.iconst 0, 1) := by decide +kernel
theorem dX3_mark_61 : decode cX3_mark 61 = .ok (.ireturn, 1) := by decide +kernel
set_option maxRecDepth 20000 in
theorem ggX3_cost_X3_isWithin : GoodIn wsX3_cost wsX3_isWithin := goodIn_r _ [8] rfl (by decide +kernel)
set_option maxRecDepth 20000 in
theorem gX3_cost_X3_isWithin : GoodIn wsX3_cost (va_wsS RX3 62 yX3_isWithin wsX3_isWithin) := goodIn_app (goodIn_of _ (by decide +kernel)) ggX3_cost_X3_isWithin
theorem dX3_cost_0 : decode cX3_cost 0 = .ok (.iload_n 1, 1) := by decide +kernel
theorem dX3_cost_1 : decode cX3_cost 1 = .ok (.iconst 0, 1) := by decide +kernel
theorem dX3_cost_2 : decode cX3_cost 2 = .ok (.iconst 4, 1) := by decide +kernel
theorem dX3_cost_3 : decode cX3_cost 3 = .ok (.invokestatic 62, 3) := by decide +kernel
theorem dX3_cost_6 : decode cX3_cost 6 = .ok (.ifCond .eq 13, 3) := by decide +kernel
theorem dX3_cost_9 : decode cX3_cost 9 = .ok (.iload_n 2, 1) := by decide +kernel
theorem dX3_cost_10 : decode cX3_cost 10 = .ok (.iconst 0, 1) := by decide +kernel
theorem dX3_cost_11 : decode cX3_cost 11 = .ok (.ldc 73, 2) := by decide +kernel
theorem dX3_cost_13 : decode cX3_cost 13 = .ok (.invokestatic 62, 3) := by decide +kernel
theorem dX3_cost_16 : decode cX3_cost 16 = .ok (.ifCond .ne 6, 3) := by decide +kernel
theorem dX3_cost_19 : decode cX3_cost 19 = .ok (.bipush (-2), 2) := by decide +kernel
theorem dX3_cost_21 : decode cX3_cost 21 = .ok (.ireturn, 1) := by decide +kernel
theorem dX3_cost_22 : decode cX3_cost 22 = .ok (.aload_n 0, 1) := by decide +kernel
theorem dX3_cost_23 : decode cX3_cost 23 = .ok (.iconst 0, 1) := by decide +kernel
theorem dX3_cost_24 : decode cX3_cost 24 = .ok (.putfield 38, 3) := by decide +kernel
theorem dX3_cost_27 : decode cX3_cost 27 = .ok (.aload_n 0, 1) := by decide +kernel
theorem dX3_cost_28 : decode cX3_cost 28 = .ok (.getfield 18, 3) := by decide +kernel
theorem dX3_cost_31 : decode cX3_cost 31 = .ok (.getfield 74, 3) := by decide +kernel
theorem dX3_cost_34 : decode cX3_cost 34 = .ok (.iload_n 1, 1) := by decide +kernel
theorem dX3_cost_35 : decode cX3_cost 35 = .ok (.iaload, 1) := by decide +kernel
end
section
theorem dX3_cost_36 : decode cX3_cost 36 = .ok (.istore_n 3, 1) := by decide +kernel
theorem dX3_cost_37 : decode cX3_cost 37 = .ok (.aload_n 0, 1) := by decide +kernel
theorem dX3_cost_38 : decode cX3_cost 38 = .ok (.getfield 18, 3) := by decide +kernel
theorem dX3_cost_41 : decode cX3_cost 41 = .ok (.getfield 74, 3) := by decide +kernel
theorem dX3_cost_44 : decode cX3_cost 44 = .ok (.iload_n 1, 1) := by decide +kernel
theorem dX3_cost_45 : decode cX3_cost 45 = .ok (.iload_n 2, 1) := by decide +kernel
theorem dX3_cost_46 : decode cX3_cost 46 = .ok (.iastore, 1) := by decide +kernel
theorem dX3_cost_47 : decode cX3_cost 47 = .ok (.iload_n 3, 1) := by decide +kernel
theorem dX3_cost_48 : decode cX3_cost 48 = .ok (.ireturn, 1) := by decide +kernel
set_option maxRecDepth 20000 in
theorem ggX3_count_X3_isWithin : GoodIn wsX3_count wsX3_isWithin := goodIn_r _ [7] rfl (by decide +kernel)
set_option maxRecDepth 20000 in
theorem gX3_count_X3_isWithin : GoodIn wsX3_count (va_wsS RX3 62 yX3_isWithin wsX3_isWithin) := goodIn_app (goodIn_of _ (by decide +kernel)) ggX3_count_X3_isWithin
theorem dX3_count_0 : decode cX3_count 0 = .ok (.iload_n 1, 1) := by decide +kernel
theorem dX3_count_1 : decode cX3_count 1 = .ok (.iconst 0, 1) := by decide +kernel
theorem dX3_count_2 : decode cX3_count 2 = .ok (.bipush 24, 2) := by decide +kernel
theorem dX3_count_4 : decode cX3_count 4 = .ok (.invokestatic 62, 3) := by decide +kernel
theorem dX3_count_7 : decode cX3_count 7 = .ok (.ifCond .ne 6, 3) := by decide +kernel
theorem dX3_count_10 : decode cX3_count 10 = .ok (.bipush (-2), 2) := by decide +kernel
theorem dX3_count_12 : decode cX3_count 12 = .ok (.ireturn, 1) := by decide +kernel
theorem dX3_count_13 : decode cX3_count 13 = .ok (.aload_n 0, 1) := by decide +kernel
theorem dX3_count_14 : decode cX3_count 14 = .ok (.iconst 0, 1) := by decide +kernel
theorem dX3_count_15 : decode cX3_count 15 = .ok (.putfield 38, 3) := by decide +kernel
theorem dX3_count_18 : decode cX3_count 18 = .ok (.aload_n 0, 1) := by decide +kernel
theorem dX3_count_19 : decode cX3_count 19 = .ok (.getfield 18, 3) := by decide +kernel
theorem dX3_count_22 : decode cX3_count 22 = .ok (.getfield 78, 3) := by decide +kernel
theorem dX3_count_25 : decode cX3_count 25 = .ok (.istore_n 2, 1) := by decide +kernel
theorem dX3_count_26 : decode cX3_count 26 = .ok (.aload_n 0, 1) := by decide +kernel
theorem dX3_count_27 : decode cX3_count 27 = .ok (.getfield 18, 3) := by decide +kernel
theorem dX3_count_30 : decode cX3_count 30 = .ok (.iload_n 1, 1) := by decide +kernel
theorem dX3_count_31 : decode cX3_count 31 = .ok (.putfield 78, 3) := by decide +kernel
theorem dX3_count_34 : decode cX3_count 34 = .ok (.iload_n 2, 1) := by decide +kernel
theorem dX3_count_35 : decode cX3_count 35 = .ok (.ireturn, 1) := by decide +kernel
set_option maxRecDepth 20000 in
theorem ggX3_size_X3_isWithin : GoodIn wsX3_size wsX3_isWithin := goodIn_r _ [8] rfl (by decide +kernel)
set_option maxRecDepth 20000 in
theorem gX3_size_X3_isWithin : GoodIn wsX3_size (va_wsS RX3 62 yX3_isWithin wsX3_isWithin) := goodIn_app (goodIn_of _ (by decide +kernel)) ggX3_size_X3_isWithin
theorem dX3_size_0 : decode cX3_size 0 = .ok (.iload_n 1, 1) := by decide +kernel
theorem dX3_size_1 : decode cX3_size 1 = .ok (.ifCond .ne 38, 3) := by decide +kernel
theorem dX3_size_4 : decode cX3_size 4 = .ok (.iload_n 2, 1) := by decide +kernel
theorem dX3_size_5 : decode cX3_size 5 = .ok (.bipush 100, 2) := by decide +kernel
theorem dX3_size_7 : decode cX3_size 7 = .ok (.sipush 5000, 3) := by decide +kernel
theorem dX3_size_10 : decode cX3_size 10 = .ok (.invokestatic 62, 3) := by decide +kernel
theorem dX3_size_13 : decode cX3_size 13 = .ok (.ifCond .eq 26, 3) := by decide +kernel
theorem dX3_size_16 : decode cX3_size 16 = .ok (.aload_n 0, 1) := by decide +kernel
theorem dX3_size_17 : decode cX3_size 17 = .ok (.iconst 0, 1) := by decide +kernel
theorem dX3_size_18 : decode cX3_size 18 = .ok (.putfield 38, 3) := by decide +kernel
theorem dX3_size_21 : decode cX3_size 21 = .ok (.aload_n 0, 1) := by decide +kernel
theorem dX3_size_22 : decode cX3_size 22 = .ok (.getfield 18, 3) := by decide +kernel
theorem dX3_size_25 : decode cX3_size 25 = .ok (.getfield 81, 3) := by decide +kernel
theorem dX3_size_28 : decode cX3_size 28 = .ok (.istore_n 3, 1) := by decide +kernel
theorem dX3_size_29 : decode cX3_size 29 = .ok (.aload_n 0, 1) := by decide +kernel
theorem dX3_size_30 : decode cX3_size 30 = .ok (.getfield 18, 3) := by decide +kernel
theorem dX3_size_33 : decode cX3_size 33 = .ok (.iload_n 2, 1) := by decide +kernel
theorem dX3_size_34 : decode cX3_size 34 = .ok (.putfield 81, 3) := by decide +kernel
theorem dX3_size_37 : decode cX3_size 37 = .ok (.iload_n 3, 1) := by decide +kernel
theorem dX3_size_38 : decode cX3_size 38 = .ok (.ireturn, 1) := by decide +kernel
theorem dX3_size_39 : decode cX3_size 39 = .ok (.iload_n 1, 1) := by decide +kernel
theorem dX3_size_40 : decode cX3_size 40 = .ok (.iconst 1, 1) := by decide +kernel
theorem dX3_size_41 : decode cX3_size 41 = .ok (.if_icmp .ne 36, 3) := by decide +kernel
theorem dX3_size_44 : decode cX3_size 44 = .ok (.iload_n 2, 1) := by decide +kernel
theorem dX3_size_45 : decode cX3_size 45 = .ok (.iconst 1, 1) := by decide +kernel
theorem dX3_size_46 : decode cX3_size 46 = .ok (.bipush 8, 2) := by decide +kernel
theorem dX3_size_48 : decode cX3_size 48 = .ok (.invokestatic 62, 3) := by decide +kernel
theorem dX3_size_51 : decode cX3_size 51 = .ok (.ifCond .eq 26, 3) := by decide +kernel
theorem dX3_size_54 : decode cX3_size 54 = .ok (.aload_n 0, 1) := by decide +kernel
theorem dX3_size_55 : decode cX3_size 55 = .ok (.iconst 0, 1) := by decide +kernel
theorem dX3_size_56 : decode cX3_size 56 = .ok (.putfield 38, 3) := by decide +kernel
theorem dX3_size_59 : decode cX3_size 59 = .ok (.aload_n 0, 1) := by decide +kernel
theorem dX3_size_60 : decode cX3_size 60 = .ok (.getfield 18, 3) := by decide +kernel
theorem dX3_size_63 : decode cX3_size 63 = .ok (.getfield 84, 3) := by decide +kernel
theorem dX3_size_66 : decode cX3_size 66 = .ok (.istore_n 3, 1) := by decide +kernel
theorem dX3_size_67 : decode cX3_size 67 = .ok (.aload_n 0, 1) := by decide +kernel
theorem dX3_size_68 : decode cX3_size 68 = .ok (.getfield 18, 3) := by decide +kernel
theorem dX3_size_71 : decode cX3_size 71 = .ok (.iload_n 2, 1) := by decide +kernel
theorem dX3_size_72 : decode cX3_size 72 = .ok (.putfield 84, 3) := by decide +kernel
theorem dX3_size_75 : decode cX3_size 75 = .ok (.iload_n 3, 1) := by decide +kernel
theorem dX3_size_76 : decode cX3_size 76 = .ok (.ireturn, 1) := by decide +kernel
theorem dX3_size_77 : decode cX3_size 77 = .ok (.bipush (-2), 2) := by decide +kernel
theorem dX3_size_79 : decode cX3_size 79 = .ok (.ireturn, 1) := by decide +kernel
theorem dX3_bars_0 : decode cX3_bars 0 = .ok (.aload_n 0, 1) := by decide +kernel
theorem dX3_bars_1 : decode cX3_bars 1 = .ok (.getfield 18, 3) := by decide +kernel
theorem dX3_bars_4 : decode cX3_bars 4 = .ok (.getfield 46, 3) := by decide +kernel
theorem dX3_bars_7 : decode cX3_bars 7 = .ok (.ireturn, 1) := by decide +kernel
set_option maxRecDepth 20000 in
theorem ggX3_lines_X3_findBest : GoodIn wsX3_lines wsX3_findBest := goodIn_r _ [8, 9, 10, 1, 11, 12, 13, 14, 15, 16, 17, 18, 19, 20, 21, 22, 23, 24, 25, 26, 27, 28, 29, 30, 31, 32, 33, 34, 35, 36, 37, 38, 39, 40, 41, 42, 43, 44, 45, 46, 47, 48, 49, 50, 51, 52, 53, 54, 55, 56, 57, 58, 59, 60, 61, 62, 63, 64, 65, 66, 67, 68, 69, 70, 71, 72, 73, 74, 75, 76, 77, 78, 79, 80, 81, 82, 83, 84, 85, 86, 87, 88, 89, 90, 91, 92, 93, 94, 95, 96, 97, 98, 99, 100, 101, 102, 103, 104, 105, 106, 107, 108, 109, 110, 111, 112, 113, 114, 115, 116, 117, 118, 119, 120, 121, 122, 123, 124, 125, 126, 127, 128, 129, 130, 131, 132, 133, 134, 135, 136, 145, 146, 147, 148, 149, 150, 151, 152, 153, 154, 155, 156, 157, 158, 159, 137, 138, 139, 140, 141, 142, 143, 144] rfl (by decide +kernel)
set_option maxRecDepth 20000 in
theorem gX3_lines_X3_findBest : GoodIn wsX3_lines (wsV RX3 87 RX3 yX3_findBest wsX3_findBest) := goodIn_app (goodIn_of _ (by decide +kernel)) ggX3_lines_X3_findBest
theorem dX3_lines_0 : decode cX3_lines 0 = .ok (.aload_n 0, 1) := by decide +kernel
theorem dX3_lines_1 : decode cX3_lines 1 = .ok (.invokevirtual 87, 3) := by decide +kernel
theorem dX3_lines_4 : decode cX3_lines 4 = .ok (.aload_n 0, 1) := by decide +kernel
theorem dX3_lines_5 : decode cX3_lines 5 = .ok (.getfield 34, 3) := by decide +kernel
theorem dX3_lines_8 : decode cX3_lines 8 = .ok (.getfield 90, 3) := by decide +kernel
theorem dX3_lines_11 : decode cX3_lines 11 = .ok (.ifCond .eq 13, 3) := by decide +kernel
theorem dX3_lines_14 : decode cX3_lines 14 = .ok (.aload_n 0, 1) := by decide +kernel
theorem dX3_lines_15 : decode cX3_lines 15 = .ok (.getfield 34, 3) := by decide +kernel
theorem dX3_lines_18 : decode cX3_lines 18 = .ok (.getfield 93, 3) := by decide +kernel
theorem dX3_lines_21 : decode cX3_lines 21 = .ok (.goto 5, 3) := by decide +kernel
theorem dX3_lines_24 : decode cX3_lines 24 = .ok (.bipush (-3), 2) := by decide +kernel
theorem dX3_lines_26 : decode cX3_lines 26 = .ok (.ireturn, 1) := by decide +kernel
set_option maxRecDepth 20000 in
theorem ggX3_pages_X3_findBest : GoodIn wsX3_pages wsX3_findBest := goodIn_r _ [8, 9, 10, 1, 11, 12, 13, 14, 15, 16, 17, 18, 19, 20, 21, 22, 23, 24, 25, 26, 27, 28, 29, 30, 31, 32, 33, 34, 35, 36, 37, 38, 39, 40, 41, 42, 43, 44, 45, 46, 47, 48, 49, 50, 51, 52, 53, 54, 55, 56, 57, 58, 59, 60, 61, 62, 63, 64, 65, 66, 67, 68, 69, 70, 71, 72, 73, 74, 75, 76, 77, 78, 79, 80, 81, 82, 83, 84, 85, 86, 87, 88, 89, 90, 91, 92, 93, 94, 95, 96, 97, 98, 99, 100, 101, 102, 103, 104, 105, 106, 107, 108, 109, 110, 111, 112, 113, 114, 115, 116, 117, 118, 119, 120, 121, 122, 123, 124, 125, 126, 127, 128, 129, 130, 131, 132, 133, 134, 135, 136, 145, 146, 147, 148, 149, 150, 151, 152, 153, 154, 155, 156, 157, 158, 159, 137, 138, 139, 140, 141, 142, 143, 144] rfl (by decide +kernel)
set_option maxRecDepth 20000 in
theorem gX3_pages_X3_findBest : GoodIn wsX3_pages (wsV RX3 87 RX3 yX3_findBest wsX3_findBest) := goodIn_app (goodIn_of _ (by decide +kernel)) ggX3_pages_X3_findBest
theorem dX3_pages_0 : decode cX3_pages 0 = .ok (.aload_n 0, 1) := by decide +kernel
theorem dX3_pages_1 : decode cX3_pages 1 = .ok (.invokevirtual 87, 3) := by decide +kernel
theorem dX3_pages_4 : decode cX3_pages 4 = .ok (.aload_n 0, 1) := by decide +kernel
theorem dX3_pages_5 : decode cX3_pages 5 = .ok (.getfield 34, 3) := by decide +kernel
theorem dX3_pages_8 : decode cX3_pages 8 = .ok (.getfield 90, 3) := by decide +kernel
theorem dX3_pages_11 : decode cX3_pages 11 = .ok (.ifCond .eq 13, 3) := by decide +kernel
theorem dX3_pages_14 : decode cX3_pages 14 = .ok (.aload_n 0, 1) := by decide +kernel
theorem dX3_pages_15 : decode cX3_pages 15 = .ok (.getfield 34, 3) := by decide +kernel
theorem dX3_pages_18 : decode cX3_pages 18 = .ok (.getfield 96, 3) := by decide +kernel
theorem dX3_pages_21 : decode cX3_pages 21 = .ok (.goto 5, 3) := by decide +kernel
theorem dX3_pages_24 : decode cX3_pages 24 = .ok (.bipush (-3), 2) := by decide +kernel
theorem dX3_pages_26 : decode cX3_pages 26 = .ok (.ireturn, 1) := by decide +kernel
set_option maxRecDepth 20000 in
theorem ggX3_sum_X3_findBest : GoodIn wsX3_sum wsX3_findBest := goodIn_r _ [9, 10, 11, 1, 12, 13, 14, 15, 16, 17, 18, 19, 20, 21, 22, 23, 24, 25, 26, 27, 28, 29, 30, 31, 32, 33, 34, 35, 36, 37, 38, 39, 40, 41, 42, 43, 44, 45, 46, 47, 48, 49, 50, 51, 52, 53, 54, 55, 56, 57, 58, 59, 60, 61, 62, 63, 64, 65, 66, 67, 68, 69, 70, 71, 72, 73, 74, 75, 76, 77, 78, 79, 80, 81, 82, 83, 84, 85, 86, 87, 88, 89, 90, 91, 92, 93, 94, 95, 96, 97, 98, 99, 100, 101, 102, 103, 104, 105, 106, 107, 108, 109, 110, 111, 112, 113, 114, 115, 116, 117, 118, 119, 120, 121, 122, 123, 124, 125, 126, 127, 128, 129, 130, 131, 132, 133, 134, 135, 136, 137, 146, 147, 148, 149, 150, 151, 152, 153, 154, 155, 156, 157, 158, 159, 160, 138, 139, 140, 141, 142, 143, 144, 145] rfl (by decide +kernel)
set_option maxRecDepth 20000 in
theorem gX3_sum_X3_findBest : GoodIn wsX3_sum (wsV RX3 87 RX3 yX3_findBest wsX3_findBest) := goodIn_app (goodIn_of _ (by decide +kernel)) ggX3_sum_X3_findBest
theorem dX3_sum_0 : decode cX3_sum 0 = .ok (.aload_n 0, 1) := by decide +kernel
theorem dX3_sum_1 : decode cX3_sum 1 = .ok (.invokevirtual 87, 3) := by decide +kernel
theorem dX3_sum_4 : decode cX3_sum 4 = .ok (.aload_n 0, 1) := by decide +kernel
theorem dX3_sum_5 : decode cX3_sum 5 = .ok (.getfield 34, 3) := by decide +kernel
theorem dX3_sum_8 : decode cX3_sum 8 = .ok (.getfield 90, 3) := by decide +kernel
theorem dX3_sum_11 : decode cX3_sum 11 = .ok (.ifCond .eq 13, 3) := by decide +kernel
theorem dX3_sum_14 : decode cX3_sum 14 = .ok (.aload_n 0, 1) := by decide +kernel
theorem dX3_sum_15 : decode cX3_sum 15 = .ok (.getfield 34, 3) := by decide +kernel
theorem dX3_sum_18 : decode cX3_sum 18 = .ok (.getfield 99, 3) := by decide +kernel
theorem dX3_sum_21 : decode cX3_sum 21 = .ok (.goto 6, 3) := by decide +kernel
theorem dX3_sum_24 : decode cX3_sum 24 = .ok (.ldc2_w 103, 3) := by decide +kernel
theorem dX3_sum_27 : decode cX3_sum 27 = .ok (.lreturn, 1) := by decide +kernel
set_option maxRecDepth 20000 in
theorem ggX3_line_X3_findBest : GoodIn wsX3_line wsX3_findBest := goodIn_r _ [12, 13, 14, 1, 7, 15, 16, 17, 18, 19, 20, 21, 22, 23, 24, 25, 26, 27, 28, 29, 30, 31, 32, 33, 34, 35, 36, 37, 38, 39, 40, 41, 42, 43, 44, 45, 46, 47, 48, 49, 50, 51, 52, 53, 54, 55, 56, 57, 58, 59, 60, 61, 62, 63, 64, 65, 66, 67, 68, 69, 70, 71, 72, 73, 74, 75, 76, 77, 78, 79, 80, 81, 82, 83, 84, 85, 86, 87, 88, 89, 90, 91, 92, 93, 94, 95, 96, 97, 98, 99, 100, 101, 102, 103, 104, 105, 106, 107, 108, 109, 110, 111, 112, 113, 114, 115, 116, 117, 118, 119, 120, 121, 122, 123, 124, 125, 126, 127, 128, 129, 130, 131, 132, 133, 134, 135, 144, 145, 146, 147, 156, 157, 158, 159, 160, 161, 162, 163, 164, 165, 166, 167, 168, 169, 170, 148, 149, 150, 151, 152, 153, 154, 155] rfl (by decide +kernel)
set_option maxRecDepth 20000 in
theorem gX3_line_X3_findBest : GoodIn wsX3_line (wsV RX3 87 RX3 yX3_findBest wsX3_findBest) := goodIn_app (goodIn_of _ (by decide +kernel)) ggX3_line_X3_findBest
set_option maxRecDepth 20000 in
theorem ggX3_line_X3_isWithin : GoodIn wsX3_line wsX3_isWithin := goodIn_r _ [138] rfl (by decide +kernel)
set_option maxRecDepth 20000 in
theorem gX3_line_X3_isWithin : GoodIn wsX3_line (va_wsS RX3 62 yX3_isWithin wsX3_isWithin) := goodIn_app (goodIn_of _ (by decide +kernel)) ggX3_line_X3_isWithin
set_option maxRecDepth 20000 in
theorem ggX3_line_X2_lastBar : GoodIn wsX3_line wsX2_lastBar := goodIn_r _ [142, 117, 148, 149, 150, 151, 152, 153, 154, 155] rfl (by decide +kernel)
set_option maxRecDepth 20000 in
theorem gX3_line_X2_lastBar : GoodIn wsX3_line (wsV RX3 108 RX2 yX2_lastBar wsX2_lastBar) := goodIn_app (goodIn_of _ (by decide +kernel)) ggX3_line_X2_lastBar
set_option maxRecDepth 20000 in
theorem ggX3_line_X0_spare : GoodIn wsX3_line wsX0_spare := goodIn_r _ [65, 61, 66, 67, 68, 38, 69, 70, 156, 157, 158, 159, 160, 161, 162, 163] rfl (by decide +kernel)
set_option maxRecDepth 20000 in
theorem gX3_line_X0_spare : GoodIn wsX3_line (wsV RX3 115 RX0 yX0_spare wsX0_spare) := goodIn_app (goodIn_of _ (by decide +kernel)) ggX3_line_X0_spare
theorem dX3_line_0 : decode cX3_line 0 = .ok (.aload_n 0, 1) := by decide +kernel
theorem dX3_line_1 : decode cX3_line 1 = .ok (.invokevirtual 87, 3) := by decide +kernel
theorem dX3_line_4 : decode cX3_line 4 = .ok (.aload_n 0, 1) := by decide +kernel
theorem dX3_line_5 : decode cX3_line 5 = .ok (.getfield 34, 3) := by decide +kernel
theorem dX3_line_8 : decode cX3_line 8 = .ok (.getfield 90, 3) := by decide +kernel
theorem dX3_line_11 : decode cX3_line 11 = .ok (.ifCond .ne 6, 3) := by decide +kernel
theorem dX3_line_14 : decode cX3_line 14 = .ok (.bipush (-3), 2) := by decide +kernel
theorem dX3_line_16 : decode cX3_line 16 = .ok (.ireturn, 1) := by decide +kernel
theorem dX3_line_17 : decode cX3_line 17 = .ok (.iload_n 1, 1) := by decide +kernel
theorem dX3_line_18 : decode cX3_line 18 = .ok (.iconst 0, 1) := by decide +kernel
theorem dX3_line_19 : decode cX3_line 19 = .ok (.aload_n 0, 1) := by decide +kernel
theorem dX3_line_20 : decode cX3_line 20 = .ok (.getfield 34, 3) := by decide +kernel
theorem dX3_line_23 : decode cX3_line 23 = .ok (.getfield 93, 3) := by decide +kernel
theorem dX3_line_26 : decode cX3_line 26 = .ok (.iconst 1, 1) := by decide +kernel
theorem dX3_line_27 : decode cX3_line 27 = .ok (.isub, 1) := by decide +kernel
theorem dX3_line_28 : decode cX3_line 28 = .ok (.invokestatic 62, 3) := by decide +kernel
theorem dX3_line_31 : decode cX3_line 31 = .ok (.ifCond .ne 5, 3) := by decide +kernel
theorem dX3_line_34 : decode cX3_line 34 = .ok (.iconst (-1), 1) := by decide +kernel
theorem dX3_line_35 : decode cX3_line 35 = .ok (.ireturn, 1) := by decide +kernel
theorem dX3_line_36 : decode cX3_line 36 = .ok (.iload_n 2, 1) := by decide +kernel
theorem dX3_line_37 : decode cX3_line 37 = .ok (.tableswitch 88 0 3 #[31, 41, 50, 60], 31) := by decide +kernel
theorem dX3_line_68 : decode cX3_line 68 = .ok (.aload_n 0, 1) := by decide +kernel
theorem dX3_line_69 : decode cX3_line 69 = .ok (.getfield 34, 3) := by decide +kernel
theorem dX3_line_72 : decode cX3_line 72 = .ok (.getfield 105, 3) := by decide +kernel
theorem dX3_line_75 : decode cX3_line 75 = .ok (.iload_n 1, 1) := by decide +kernel
theorem dX3_line_76 : decode cX3_line 76 = .ok (.iaload, 1) := by decide +kernel
theorem dX3_line_77 : decode cX3_line 77 = .ok (.ireturn, 1) := by decide +kernel
theorem dX3_line_78 : decode cX3_line 78 = .ok (.aload_n 0, 1) := by decide +kernel
theorem dX3_line_79 : decode cX3_line 79 = .ok (.getfield 34, 3) := by decide +kernel
theorem dX3_line_82 : decode cX3_line 82 = .ok (.iload_n 1, 1) := by decide +kernel
theorem dX3_line_83 : decode cX3_line 83 = .ok (.invokevirtual 108, 3) := by decide +kernel
theorem dX3_line_86 : decode cX3_line 86 = .ok (.ireturn, 1) := by decide +kernel
theorem dX3_line_87 : decode cX3_line 87 = .ok (.aload_n 0, 1) := by decide +kernel
theorem dX3_line_88 : decode cX3_line 88 = .ok (.getfield 34, 3) := by decide +kernel
theorem dX3_line_91 : decode cX3_line 91 = .ok (.getfield 112, 3) := by decide +kernel
theorem dX3_line_94 : decode cX3_line 94 = .ok (.iload_n 1, 1) := by decide +kernel
theorem dX3_line_95 : decode cX3_line 95 = .ok (.iaload, 1) := by decide +kernel
theorem dX3_line_96 : decode cX3_line 96 = .ok (.ireturn, 1) := by decide +kernel
theorem dX3_line_97 : decode cX3_line 97 = .ok (.ldc 73, 2) := by decide +kernel
theorem dX3_line_99 : decode cX3_line 99 = .ok (.aload_n 0, 1) := by decide +kernel
theorem dX3_line_100 : decode cX3_line 100 = .ok (.getfield 18, 3) := by decide +kernel
theorem dX3_line_103 : decode cX3_line 103 = .ok (.aload_n 0, 1) := by decide +kernel
theorem dX3_line_104 : decode cX3_line 104 = .ok (.getfield 34, 3) := by decide +kernel
theorem dX3_line_107 : decode cX3_line 107 = .ok (.getfield 105, 3) := by decide +kernel
theorem dX3_line_110 : decode cX3_line 110 = .ok (.iload_n 1, 1) := by decide +kernel
theorem dX3_line_111 : decode cX3_line 111 = .ok (.iaload, 1) := by decide +kernel
theorem dX3_line_112 : decode cX3_line 112 = .ok (.aload_n 0, 1) := by decide +kernel
theorem dX3_line_113 : decode cX3_line 113 = .ok (.getfield 34, 3) := by decide +kernel
theorem dX3_line_116 : decode cX3_line 116 = .ok (.iload_n 1, 1) := by decide +kernel
theorem dX3_line_117 : decode cX3_line 117 = .ok (.invokevirtual 108, 3) := by decide +kernel
theorem dX3_line_120 : decode cX3_line 120 = .ok (.invokevirtual 115, 3) := by decide +kernel
theorem dX3_line_123 : decode cX3_line 123 = .ok (.iadd, 1) := by decide +kernel
theorem dX3_line_124 : decode cX3_line 124 = .ok (.ireturn, 1) := by decide +kernel
theorem dX3_line_125 : decode cX3_line 125 = .ok (.bipush (-2), 2) := by decide +kernel
theorem dX3_line_127 : decode cX3_line 127 = .ok (.ireturn, 1) := by decide +kernel
set_option maxRecDepth 20000 in
theorem ggX3_page_X3_findBest : GoodIn wsX3_page wsX3_findBest := goodIn_r _ [9, 10, 11, 1, 12, 13, 14, 15, 16, 17, 18, 19, 20, 21, 22, 23, 24, 25, 26, 27, 28, 29, 30, 31, 32, 33, 34, 35, 36, 37, 38, 39, 40, 41, 42, 43, 44, 45, 46, 47, 48, 49, 50, 51, 52, 53, 54, 55, 56, 57, 58, 59, 60, 61, 62, 63, 64, 65, 66, 67, 68, 69, 70, 71, 72, 73, 74, 75, 76, 77, 78, 79, 80, 81, 82, 83, 84, 85, 86, 87, 88, 89, 90, 91, 92, 93, 94, 95, 96, 97, 98, 99, 100, 101, 102, 103, 104, 105, 106, 107, 108, 109, 110, 111, 112, 113, 114, 115, 116, 117, 118, 119, 120, 121, 122, 123, 124, 125, 126, 127, 128, 129, 130, 131, 132, 133, 151, 152, 153, 154, 163, 164, 165, 166, 167, 168, 169, 170, 171, 172, 173, 174, 175, 176, 177, 155, 156, 157, 158, 159, 160, 161, 162] rfl (by decide +kernel)
set_option maxRecDepth 20000 in
theorem gX3_page_X3_findBest : GoodIn wsX3_page (wsV RX3 87 RX3 yX3_findBest wsX3_findBest) := goodIn_app (goodIn_of _ (by decide +kernel)) ggX3_page_X3_findBest
set_option maxRecDepth 20000 in
theorem ggX3_page_X3_isWithin : GoodIn wsX3_page wsX3_isWithin := goodIn_r _ [136] rfl (by decide +kernel)
set_option maxRecDepth 20000 in
theorem gX3_page_X3_isWithin : GoodIn wsX3_page (va_wsS RX3 62 yX3_isWithin wsX3_isWithin) := goodIn_app (goodIn_of _ (by decide +kernel)) ggX3_page_X3_isWithin
set_option maxRecDepth 20000 in
theorem ggX3_page_X2_linesOnPage : GoodIn wsX3_page wsX2_linesOnPage := goodIn_r _ [140, 116, 155, 156, 157, 158, 159, 160, 161, 162] rfl (by decide +kernel)
set_option maxRecDepth 20000 in
theorem gX3_page_X2_linesOnPage : GoodIn wsX3_page (wsV RX3 121 RX2 yX2_linesOnPage wsX2_linesOnPage) := goodIn_app (goodIn_of _ (by decide +kernel)) ggX3_page_X2_linesOnPage
set_option maxRecDepth 20000 in
theorem ggX3_page_X3_pagePrice : GoodIn wsX3_page wsX3_pagePrice := goodIn_r _ [144, 1, 3, 12, 4, 145, 146, 147, 148, 107, 149, 115, 150, 34, 35, 36, 37, 38, 39, 40, 41, 42, 43, 137, 138, 139, 140, 116, 151, 152, 153, 154, 155, 156, 157, 158, 159, 160, 161, 162, 163, 164, 165, 166, 167, 168, 169, 170] rfl (by decide +kernel)
set_option maxRecDepth 20000 in
theorem gX3_page_X3_pagePrice : GoodIn wsX3_page (wsV RX3 124 RX3 yX3_pagePrice wsX3_pagePrice) := goodIn_app (goodIn_of _ (by decide +kernel)) ggX3_page_X3_pagePrice
theorem dX3_page_0 : decode cX3_page 0 = .ok (.aload_n 0, 1) := by decide +kernel
theorem dX3_page_1 : decode cX3_page 1 = .ok (.invokevirtual 87, 3) := by decide +kernel
theorem dX3_page_4 : decode cX3_page 4 = .ok (.aload_n 0, 1) := by decide +kernel
theorem dX3_page_5 : decode cX3_page 5 = .ok (.getfield 34, 3) := by decide +kernel
theorem dX3_page_8 : decode cX3_page 8 = .ok (.getfield 90, 3) := by decide +kernel
theorem dX3_page_11 : decode cX3_page 11 = .ok (.ifCond .ne 6, 3) := by decide +kernel
theorem dX3_page_14 : decode cX3_page 14 = .ok (.bipush (-3), 2) := by decide +kernel
theorem dX3_page_16 : decode cX3_page 16 = .ok (.ireturn, 1) := by decide +kernel
theorem dX3_page_17 : decode cX3_page 17 = .ok (.iload_n 1, 1) := by decide +kernel
theorem dX3_page_18 : decode cX3_page 18 = .ok (.iconst 0, 1) := by decide +kernel
theorem dX3_page_19 : decode cX3_page 19 = .ok (.aload_n 0, 1) := by decide +kernel
theorem dX3_page_20 : decode cX3_page 20 = .ok (.getfield 34, 3) := by decide +kernel
theorem dX3_page_23 : decode cX3_page 23 = .ok (.getfield 96, 3) := by decide +kernel
theorem dX3_page_26 : decode cX3_page 26 = .ok (.iconst 1, 1) := by decide +kernel
theorem dX3_page_27 : decode cX3_page 27 = .ok (.isub, 1) := by decide +kernel
theorem dX3_page_28 : decode cX3_page 28 = .ok (.invokestatic 62, 3) := by decide +kernel
theorem dX3_page_31 : decode cX3_page 31 = .ok (.ifCond .ne 5, 3) := by decide +kernel
theorem dX3_page_34 : decode cX3_page 34 = .ok (.iconst (-1), 1) := by decide +kernel
theorem dX3_page_35 : decode cX3_page 35 = .ok (.ireturn, 1) := by decide +kernel
theorem dX3_page_36 : decode cX3_page 36 = .ok (.iload_n 2, 1) := by decide +kernel
theorem dX3_page_37 : decode cX3_page 37 = .ok (.tableswitch 52 0 2 #[27, 37, 46], 27) := by decide +kernel
theorem dX3_page_64 : decode cX3_page 64 = .ok (.aload_n 0, 1) := by decide +kernel
theorem dX3_page_65 : decode cX3_page 65 = .ok (.getfield 34, 3) := by decide +kernel
theorem dX3_page_68 : decode cX3_page 68 = .ok (.getfield 118, 3) := by decide +kernel
theorem dX3_page_71 : decode cX3_page 71 = .ok (.iload_n 1, 1) := by decide +kernel
theorem dX3_page_72 : decode cX3_page 72 = .ok (.iaload, 1) := by decide +kernel
theorem dX3_page_73 : decode cX3_page 73 = .ok (.ireturn, 1) := by decide +kernel
theorem dX3_page_74 : decode cX3_page 74 = .ok (.aload_n 0, 1) := by decide +kernel
theorem dX3_page_75 : decode cX3_page 75 = .ok (.getfield 34, 3) := by decide +kernel
theorem dX3_page_78 : decode cX3_page 78 = .ok (.iload_n 1, 1) := by decide +kernel
theorem dX3_page_79 : decode cX3_page 79 = .ok (.invokevirtual 121, 3) := by decide +kernel
theorem dX3_page_82 : decode cX3_page 82 = .ok (.ireturn, 1) := by decide +kernel
theorem dX3_page_83 : decode cX3_page 83 = .ok (.aload_n 0, 1) := by decide +kernel
theorem dX3_page_84 : decode cX3_page 84 = .ok (.iload_n 1, 1) := by decide +kernel
theorem dX3_page_85 : decode cX3_page 85 = .ok (.invokevirtual 124, 3) := by decide +kernel
theorem dX3_page_88 : decode cX3_page 88 = .ok (.ireturn, 1) := by decide +kernel
theorem dX3_page_89 : decode cX3_page 89 = .ok (.bipush (-2), 2) := by decide +kernel
theorem dX3_page_91 : decode cX3_page 91 = .ok (.ireturn, 1) := by decide +kernel
set_option maxRecDepth 20000 in
theorem ggX3_set_X0_hasBar : GoodIn wsX3_set wsX0_hasBar := goodIn_r _ [10, 11, 168, 169, 170, 171, 172, 173, 174, 175] rfl (by decide +kernel)
set_option maxRecDepth 20000 in
theorem gX3_set_X0_hasBar : GoodIn wsX3_set (wsV RX3 54 RX0 yX0_hasBar wsX0_hasBar) := goodIn_app (goodIn_of _ (by decide +kernel)) ggX3_set_X0_hasBar
set_option maxRecDepth 20000 in
theorem ggX3_set_X3_isWithin : GoodIn wsX3_set wsX3_isWithin := goodIn_r _ [15] rfl (by decide +kernel)
set_option maxRecDepth 20000 in
theorem gX3_set_X3_isWithin : GoodIn wsX3_set (va_wsS RX3 62 yX3_isWithin wsX3_isWithin) := goodIn_app (goodIn_of _ (by decide +kernel)) ggX3_set_X3_isWithin
set_option maxRecDepth 20000 in
theorem ggX3_set_X3_findBest : GoodIn wsX3_set wsX3_findBest := goodIn_r _ [19, 20, 21, 2, 1, 22, 23, 24, 25, 26, 27, 28, 29, 30, 31, 32, 33, 34, 35, 36, 37, 38, 39, 40, 41, 42, 43, 44, 9, 45, 46, 47, 48, 49, 50, 51, 52, 53, 54, 55, 56, 11, 57, 58, 59, 60, 61, 62, 63, 64, 65, 66, 67, 68, 69, 70, 71, 72, 73, 74, 75, 76, 77, 78, 79, 80, 81, 82, 83, 84, 85, 86, 87, 88, 89, 90, 91, 92, 93, 94, 95, 96, 97, 98, 99, 100, 101, 102, 103, 104, 105, 106, 107, 108, 109, 110, 111, 112, 113, 114, 115, 116, 117, 118, 119, 120, 121, 122, 123, 124, 125, 126, 127, 128, 129, 130, 131, 132, 133, 134, 135, 136, 137, 138, 139, 140, 156, 157, 158, 159, 168, 169, 170, 171, 172, 173, 174, 175, 176, 177, 178, 179, 180, 181, 182, 160, 161, 162, 163, 164, 165, 166, 167] rfl (by decide +kernel)
set_option maxRecDepth 20000 in
theorem gX3_set_X3_findBest : GoodIn wsX3_set (wsV RX3 87 RX3 yX3_findBest wsX3_findBest) := goodIn_app (goodIn_of _ (by decide +kernel)) ggX3_set_X3_findBest
set_option maxRecDepth 20000 in
theorem ggX3_set_X2_lastBar : GoodIn wsX3_set wsX2_lastBar := goodIn_r _ [144, 122, 160, 161, 162, 163, 164, 165, 166, 167] rfl (by decide +kernel)
set_option maxRecDepth 20000 in
theorem gX3_set_X2_lastBar : GoodIn wsX3_set (wsV RX3 108 RX2 yX2_lastBar wsX2_lastBar) := goodIn_app (goodIn_of _ (by decide +kernel)) ggX3_set_X2_lastBar
set_option maxRecDepth 20000 in
theorem ggX3_set_X0_setAhead : GoodIn wsX3_set wsX0_setAhead := goodIn_r _ [148, 65, 75, 61, 62, 63, 9, 64, 66, 67, 68, 69, 70, 71, 72, 73, 74, 149, 150, 151, 152, 153, 154, 155, 168, 169, 170, 171, 172, 173, 174, 175] rfl (by decide +kernel)
set_option maxRecDepth 20000 in
theorem gX3_set_X0_setAhead : GoodIn wsX3_set (wsV RX3 130 RX0 yX0_setAhead wsX0_setAhead) := goodIn_app (goodIn_of _ (by decide +kernel)) ggX3_set_X0_setAhead
theorem dX3_set_0 : decode cX3_set 0 = .ok (.aload_n 0, 1) := by decide +kernel
theorem dX3_set_1 : decode cX3_set 1 = .ok (.getfield 18, 3) := by decide +kernel
theorem dX3_set_4 : decode cX3_set 4 = .ok (.iload_n 1, 1) := by decide +kernel
theorem dX3_set_5 : decode cX3_set 5 = .ok (.invokevirtual 54, 3) := by decide +kernel
theorem dX3_set_8 : decode cX3_set 8 = .ok (.ifCond .ne 5, 3) := by decide +kernel
theorem dX3_set_11 : decode cX3_set 11 = .ok (.iconst (-1), 1) := by decide +kernel
theorem dX3_set_12 : decode cX3_set 12 = .ok (.ireturn, 1) := by decide +kernel
theorem dX3_set_13 : decode cX3_set 13 = .ok (.iload_n 2, 1) := by decide +kernel
theorem dX3_set_14 : decode cX3_set 14 = .ok (.iconst 0, 1) := by decide +kernel
theorem dX3_set_15 : decode cX3_set 15 = .ok (.iconst 2, 1) := by decide +kernel
theorem dX3_set_16 : decode cX3_set 16 = .ok (.invokestatic 62, 3) := by decide +kernel
theorem dX3_set_19 : decode cX3_set 19 = .ok (.ifCond .ne 6, 3) := by decide +kernel
theorem dX3_set_22 : decode cX3_set 22 = .ok (.bipush (-2), 2) := by decide +kernel
theorem dX3_set_24 : decode cX3_set 24 = .ok (.ireturn, 1) := by decide +kernel
theorem dX3_set_25 : decode cX3_set 25 = .ok (.aload_n 0, 1) := by decide +kernel
theorem dX3_set_26 : decode cX3_set 26 = .ok (.invokevirtual 87, 3) := by decide +kernel
theorem dX3_set_29 : decode cX3_set 29 = .ok (.aload_n 0, 1) := by decide +kernel
theorem dX3_set_30 : decode cX3_set 30 = .ok (.getfield 34, 3) := by decide +kernel
theorem dX3_set_33 : decode cX3_set 33 = .ok (.getfield 90, 3) := by decide +kernel
theorem dX3_set_36 : decode cX3_set 36 = .ok (.ifCond .ne 6, 3) := by decide +kernel
theorem dX3_set_39 : decode cX3_set 39 = .ok (.bipush (-3), 2) := by decide +kernel
theorem dX3_set_41 : decode cX3_set 41 = .ok (.ireturn, 1) := by decide +kernel
theorem dX3_set_42 : decode cX3_set 42 = .ok (.aload_n 0, 1) := by decide +kernel
theorem dX3_set_43 : decode cX3_set 43 = .ok (.getfield 34, 3) := by decide +kernel
theorem dX3_set_46 : decode cX3_set 46 = .ok (.getfield 127, 3) := by decide +kernel
theorem dX3_set_49 : decode cX3_set 49 = .ok (.iload_n 1, 1) := by decide +kernel
theorem dX3_set_50 : decode cX3_set 50 = .ok (.iaload, 1) := by decide +kernel
theorem dX3_set_51 : decode cX3_set 51 = .ok (.istore_n 3, 1) := by decide +kernel
theorem dX3_set_52 : decode cX3_set 52 = .ok (.iload_n 2, 1) := by decide +kernel
theorem dX3_set_53 : decode cX3_set 53 = .ok (.ifCond .ne 5, 3) := by decide +kernel
theorem dX3_set_56 : decode cX3_set 56 = .ok (.iload_n 3, 1) := by decide +kernel
theorem dX3_set_57 : decode cX3_set 57 = .ok (.ireturn, 1) := by decide +kernel
theorem dX3_set_58 : decode cX3_set 58 = .ok (.aload_n 0, 1) := by decide +kernel
theorem dX3_set_59 : decode cX3_set 59 = .ok (.getfield 34, 3) := by decide +kernel
theorem dX3_set_62 : decode cX3_set 62 = .ok (.getfield 105, 3) := by decide +kernel
theorem dX3_set_65 : decode cX3_set 65 = .ok (.iload_n 3, 1) := by decide +kernel
theorem dX3_set_66 : decode cX3_set 66 = .ok (.iaload, 1) := by decide +kernel
theorem dX3_set_67 : decode cX3_set 67 = .ok (.istore 4, 2) := by decide +kernel
theorem dX3_set_69 : decode cX3_set 69 = .ok (.aload_n 0, 1) := by decide +kernel
theorem dX3_set_70 : decode cX3_set 70 = .ok (.getfield 34, 3) := by decide +kernel
theorem dX3_set_73 : decode cX3_set 73 = .ok (.iload_n 3, 1) := by decide +kernel
theorem dX3_set_74 : decode cX3_set 74 = .ok (.invokevirtual 108, 3) := by decide +kernel
theorem dX3_set_77 : decode cX3_set 77 = .ok (.istore 5, 2) := by decide +kernel
theorem dX3_set_79 : decode cX3_set 79 = .ok (.aload_n 0, 1) := by decide +kernel
theorem dX3_set_80 : decode cX3_set 80 = .ok (.getfield 18, 3) := by decide +kernel
theorem dX3_set_83 : decode cX3_set 83 = .ok (.iload 4, 2) := by decide +kernel
theorem dX3_set_85 : decode cX3_set 85 = .ok (.iload 5, 2) := by decide +kernel
theorem dX3_set_87 : decode cX3_set 87 = .ok (.iload_n 1, 1) := by decide +kernel
theorem dX3_set_88 : decode cX3_set 88 = .ok (.invokevirtual 130, 3) := by decide +kernel
theorem dX3_set_91 : decode cX3_set 91 = .ok (.istore 6, 2) := by decide +kernel
theorem dX3_set_93 : decode cX3_set 93 = .ok (.iload_n 2, 1) := by decide +kernel
theorem dX3_set_94 : decode cX3_set 94 = .ok (.iconst 2, 1) := by decide +kernel
theorem dX3_set_95 : decode cX3_set 95 = .ok (.if_icmp .ne 8, 3) := by decide +kernel
theorem dX3_set_98 : decode cX3_set 98 = .ok (.iload 6, 2) := by decide +kernel
theorem dX3_set_100 : decode cX3_set 100 = .ok (.goto 20, 3) := by decide +kernel
theorem dX3_set_103 : decode cX3_set 103 = .ok (.aload_n 0, 1) := by decide +kernel
theorem dX3_set_104 : decode cX3_set 104 = .ok (.getfield 18, 3) := by decide +kernel
theorem dX3_set_107 : decode cX3_set 107 = .ok (.iload 4, 2) := by decide +kernel
theorem dX3_set_109 : decode cX3_set 109 = .ok (.iload 5, 2) := by decide +kernel
theorem dX3_set_111 : decode cX3_set 111 = .ok (.iload_n 1, 1) := by decide +kernel
theorem dX3_set_112 : decode cX3_set 112 = .ok (.iconst 1, 1) := by decide +kernel
theorem dX3_set_113 : decode cX3_set 113 = .ok (.iadd, 1) := by decide +kernel
theorem dX3_set_114 : decode cX3_set 114 = .ok (.invokevirtual 130, 3) := by decide +kernel
theorem dX3_set_117 : decode cX3_set 117 = .ok (.iload 6, 2) := by decide +kernel
theorem dX3_set_119 : decode cX3_set 119 = .ok (.isub, 1) := by decide +kernel
theorem dX3_set_120 : decode cX3_set 120 = .ok (.ireturn, 1) := by decide +kernel
set_option maxRecDepth 20000 in
theorem ggX3_ends_X0_hasBar : GoodIn wsX3_ends wsX0_hasBar := goodIn_r _ [9, 10, 153, 154, 155, 156, 157, 158, 159, 160] rfl (by decide +kernel)
set_option maxRecDepth 20000 in
theorem gX3_ends_X0_hasBar : GoodIn wsX3_ends (wsV RX3 54 RX0 yX0_hasBar wsX0_hasBar) := goodIn_app (goodIn_of _ (by decide +kernel)) ggX3_ends_X0_hasBar
set_option maxRecDepth 20000 in
theorem ggX3_ends_X3_findBest : GoodIn wsX3_ends wsX3_findBest := goodIn_r _ [15, 16, 17, 2, 1, 18, 19, 20, 21, 22, 23, 24, 25, 26, 27, 28, 29, 30, 31, 32, 33, 34, 35, 36, 37, 38, 39, 40, 8, 41, 42, 43, 44, 45, 46, 47, 48, 49, 50, 51, 52, 10, 53, 54, 55, 56, 57, 58, 59, 60, 61, 62, 63, 64, 65, 66, 67, 68, 69, 70, 71, 72, 73, 74, 75, 76, 77, 78, 79, 80, 81, 82, 83, 84, 85, 86, 87, 88, 89, 90, 91, 92, 93, 94, 95, 96, 97, 98, 99, 100, 101, 102, 103, 104, 105, 106, 107, 108, 109, 110, 111, 112, 113, 114, 115, 116, 117, 118, 119, 120, 121, 122, 123, 124, 125, 126, 127, 128, 129, 130, 131, 132, 133, 134, 135, 136, 141, 142, 143, 144, 153, 154, 155, 156, 157, 158, 159, 160, 161, 162, 163, 164, 165, 166, 167, 145, 146, 147, 148, 149, 150, 151, 152] rfl (by decide +kernel)
set_option maxRecDepth 20000 in
theorem gX3_ends_X3_findBest : GoodIn wsX3_ends (wsV RX3 87 RX3 yX3_findBest wsX3_findBest) := goodIn_app (goodIn_of _ (by decide +kernel)) ggX3_ends_X3_findBest
set_option maxRecDepth 20000 in
theorem ggX3_ends_X2_lastBar : GoodIn wsX3_ends wsX2_lastBar := goodIn_r _ [140, 118, 145, 146, 147, 148, 149, 150, 151, 152] rfl (by decide +kernel)
set_option maxRecDepth 20000 in
theorem gX3_ends_X2_lastBar : GoodIn wsX3_ends (wsV RX3 108 RX2 yX2_lastBar wsX2_lastBar) := goodIn_app (goodIn_of _ (by decide +kernel)) ggX3_ends_X2_lastBar
theorem dX3_ends_0 : decode cX3_ends 0 = .ok (.aload_n 0, 1) := by decide +kernel
theorem dX3_ends_1 : decode cX3_ends 1 = .ok (.getfield 18, 3) := by decide +kernel
theorem dX3_ends_4 : decode cX3_ends 4 = .ok (.iload_n 1, 1) := by decide +kernel
theorem dX3_ends_5 : decode cX3_ends 5 = .ok (.invokevirtual 54, 3) := by decide +kernel
theorem dX3_ends_8 : decode cX3_ends 8 = .ok (.ifCond .ne 5, 3) := by decide +kernel
theorem dX3_ends_11 : decode cX3_ends 11 = .ok (.iconst 0, 1) := by decide +kernel
theorem dX3_ends_12 : decode cX3_ends 12 = .ok (.ireturn, 1) := by decide +kernel
theorem dX3_ends_13 : decode cX3_ends 13 = .ok (.aload_n 0, 1) := by decide +kernel
theorem dX3_ends_14 : decode cX3_ends 14 = .ok (.invokevirtual 87, 3) := by decide +kernel
theorem dX3_ends_17 : decode cX3_ends 17 = .ok (.aload_n 0, 1) := by decide +kernel
theorem dX3_ends_18 : decode cX3_ends 18 = .ok (.getfield 34, 3) := by decide +kernel
theorem dX3_ends_21 : decode cX3_ends 21 = .ok (.getfield 90, 3) := by decide +kernel
theorem dX3_ends_24 : decode cX3_ends 24 = .ok (.ifCond .eq 27, 3) := by decide +kernel
theorem dX3_ends_27 : decode cX3_ends 27 = .ok (.aload_n 0, 1) := by decide +kernel
theorem dX3_ends_28 : decode cX3_ends 28 = .ok (.getfield 34, 3) := by decide +kernel
theorem dX3_ends_31 : decode cX3_ends 31 = .ok (.aload_n 0, 1) := by decide +kernel
theorem dX3_ends_32 : decode cX3_ends 32 = .ok (.getfield 34, 3) := by decide +kernel
theorem dX3_ends_35 : decode cX3_ends 35 = .ok (.getfield 127, 3) := by decide +kernel
theorem dX3_ends_38 : decode cX3_ends 38 = .ok (.iload_n 1, 1) := by decide +kernel
theorem dX3_ends_39 : decode cX3_ends 39 = .ok (.iaload, 1) := by decide +kernel
theorem dX3_ends_40 : decode cX3_ends 40 = .ok (.invokevirtual 108, 3) := by decide +kernel
theorem dX3_ends_43 : decode cX3_ends 43 = .ok (.iload_n 1, 1) := by decide +kernel
theorem dX3_ends_44 : decode cX3_ends 44 = .ok (.if_icmp .ne 7, 3) := by decide +kernel
theorem dX3_ends_47 : decode cX3_ends 47 = .ok (.iconst 1, 1) := by decide +kernel
theorem dX3_ends_48 : decode cX3_ends 48 = .ok (.goto 4, 3) := by decide +kernel
theorem dX3_ends_51 : decode cX3_ends 51 = .ok (.iconst 0, 1) := by decide +kernel
theorem dX3_ends_52 : decode cX3_ends 52 = .ok (.ireturn, 1) := by decide +kernel
set_option maxRecDepth 20000 in
theorem ggX3_badness_X0_hasBar : GoodIn wsX3_badness wsX0_hasBar := goodIn_r _ [7, 8, 43, 44, 45, 46, 47, 48, 49, 50] rfl (by decide +kernel)
set_option maxRecDepth 20000 in
theorem gX3_badness_X0_hasBar : GoodIn wsX3_badness (wsV RX3 54 RX0 yX0_hasBar wsX0_hasBar) := goodIn_app (goodIn_of _ (by decide +kernel)) ggX3_badness_X0_hasBar
set_option maxRecDepth 20000 in
theorem ggX3_badness_X0_linePrice : GoodIn wsX3_badness wsX0_linePrice := goodIn_r _ [12, 13, 14, 8, 15, 16, 17, 6, 18, 19, 20, 21, 22, 23, 24, 25, 26, 27, 28, 29, 30, 31, 32, 33, 34, 35, 36, 37, 38, 43, 44, 45, 46, 47, 48, 49, 50] rfl (by decide +kernel)
set_option maxRecDepth 20000 in
theorem gX3_badness_X0_linePrice : GoodIn wsX3_badness (wsV RX3 133 RX0 yX0_linePrice wsX0_linePrice) := goodIn_app (goodIn_of _ (by decide +kernel)) ggX3_badness_X0_linePrice
theorem dX3_badness_0 : decode cX3_badness 0 = .ok (.aload_n 0, 1) := by decide +kernel
theorem dX3_badness_1 : decode cX3_badness 1 = .ok (.getfield 18, 3) := by decide +kernel
theorem dX3_badness_4 : decode cX3_badness 4 = .ok (.iload_n 1, 1) := by decide +kernel
theorem dX3_badness_5 : decode cX3_badness 5 = .ok (.invokevirtual 54, 3) := by decide +kernel
theorem dX3_badness_8 : decode cX3_badness 8 = .ok (.ifCond .eq 19, 3) := by decide +kernel
theorem dX3_badness_11 : decode cX3_badness 11 = .ok (.aload_n 0, 1) := by decide +kernel
theorem dX3_badness_12 : decode cX3_badness 12 = .ok (.getfield 18, 3) := by decide +kernel
theorem dX3_badness_15 : decode cX3_badness 15 = .ok (.iload_n 2, 1) := by decide +kernel
theorem dX3_badness_16 : decode cX3_badness 16 = .ok (.invokevirtual 54, 3) := by decide +kernel
theorem dX3_badness_19 : decode cX3_badness 19 = .ok (.ifCond .eq 8, 3) := by decide +kernel
theorem dX3_badness_22 : decode cX3_badness 22 = .ok (.iload_n 2, 1) := by decide +kernel
theorem dX3_badness_23 : decode cX3_badness 23 = .ok (.iload_n 1, 1) := by decide +kernel
theorem dX3_badness_24 : decode cX3_badness 24 = .ok (.if_icmp .ge 7, 3) := by decide +kernel
theorem dX3_badness_27 : decode cX3_badness 27 = .ok (.ldc2_w 103, 3) := by decide +kernel
theorem dX3_badness_30 : decode cX3_badness 30 = .ok (.lreturn, 1) := by decide +kernel
theorem dX3_badness_31 : decode cX3_badness 31 = .ok (.aload_n 0, 1) := by decide +kernel
theorem dX3_badness_32 : decode cX3_badness 32 = .ok (.getfield 18, 3) := by decide +kernel
theorem dX3_badness_35 : decode cX3_badness 35 = .ok (.iload_n 1, 1) := by decide +kernel
theorem dX3_badness_36 : decode cX3_badness 36 = .ok (.iload_n 2, 1) := by decide +kernel
theorem dX3_badness_37 : decode cX3_badness 37 = .ok (.invokevirtual 133, 3) := by decide +kernel
theorem dX3_badness_40 : decode cX3_badness 40 = .ok (.lreturn, 1) := by decide +kernel
set_option maxRecDepth 20000 in
theorem ggX3_would_X0_hasBar : GoodIn wsX3_would wsX0_hasBar := goodIn_r _ [8, 9, 119, 120, 121, 122, 123, 124, 125, 126] rfl (by decide +kernel)
set_option maxRecDepth 20000 in
theorem gX3_would_X0_hasBar : GoodIn wsX3_would (wsV RX3 54 RX0 yX0_hasBar wsX0_hasBar) := goodIn_app (goodIn_of _ (by decide +kernel)) ggX3_would_X0_hasBar
set_option maxRecDepth 20000 in
theorem ggX3_would_X3_isWithin : GoodIn wsX3_would wsX3_isWithin := goodIn_r _ [13] rfl (by decide +kernel)
set_option maxRecDepth 20000 in
theorem gX3_would_X3_isWithin : GoodIn wsX3_would (va_wsS RX3 62 yX3_isWithin wsX3_isWithin) := goodIn_app (goodIn_of _ (by decide +kernel)) ggX3_would_X3_isWithin
set_option maxRecDepth 20000 in
theorem ggX3_would_X0_isMarked : GoodIn wsX3_would wsX0_isMarked := goodIn_r _ [17, 18, 119, 120, 121, 122, 123, 124, 125, 126] rfl (by decide +kernel)
set_option maxRecDepth 20000 in
theorem gX3_would_X0_isMarked : GoodIn wsX3_would (wsV RX3 66 RX0 yX0_isMarked wsX0_isMarked) := goodIn_app (goodIn_of _ (by decide +kernel)) ggX3_would_X0_isMarked
set_option maxRecDepth 20000 in
theorem ggX3_would_X0_putMark : GoodIn wsX3_would wsX0_putMark := goodIn_r _ [22, 18, 119, 120, 121, 122, 123, 124, 125, 126] rfl (by decide +kernel)
set_option maxRecDepth 20000 in
theorem gX3_would_X0_putMark : GoodIn wsX3_would (wsV RX3 69 RX0 yX0_putMark wsX0_putMark) := goodIn_app (goodIn_of _ (by decide +kernel)) ggX3_would_X0_putMark
set_option maxRecDepth 20000 in
theorem ggX3_would_X1_run : GoodIn wsX3_would wsX1_run := goodIn_r _ [27, 28, 29, 30, 31, 32, 33, 34, 35, 36, 37, 38, 26, 39, 40, 41, 42, 43, 44, 7, 45, 46, 47, 15, 16, 17, 18, 48, 49, 50, 51, 52, 9, 53, 54, 55, 56, 57, 58, 59, 60, 61, 62, 63, 64, 65, 66, 67, 68, 69, 70, 71, 72, 73, 74, 75, 76, 77, 78, 79, 80, 81, 82, 83, 84, 85, 86, 87, 88, 89, 90, 91, 92, 93, 94, 95, 96, 97, 98, 99, 100, 101, 102, 103, 104, 105, 106, 127, 128, 129, 130, 131, 132, 133, 119, 120, 121, 122, 123, 124, 125, 126] rfl (by decide +kernel)
set_option maxRecDepth 20000 in
theorem gX3_would_X1_run : GoodIn wsX3_would (wsV RX3 137 RX1 yX1_run wsX1_run) := goodIn_app (goodIn_of _ (by decide +kernel)) ggX3_would_X1_run
set_option maxRecDepth 20000 in
theorem ggX3_would_X1_foundTotal : GoodIn wsX3_would wsX1_foundTotal := goodIn_r _ [110, 33, 86, 85, 111, 112, 113, 26, 114, 32, 127, 128, 129, 130, 131, 132, 133] rfl (by decide +kernel)
set_option maxRecDepth 20000 in
theorem gX3_would_X1_foundTotal : GoodIn wsX3_would (wsV RX3 140 RX1 yX1_foundTotal wsX1_foundTotal) := goodIn_app (goodIn_of _ (by decide +kernel)) ggX3_would_X1_foundTotal
theorem dX3_would_0 : decode cX3_would 0 = .ok (.aload_n 0, 1) := by decide +kernel
theorem dX3_would_1 : decode cX3_would 1 = .ok (.getfield 18, 3) := by decide +kernel
theorem dX3_would_4 : decode cX3_would 4 = .ok (.iload_n 1, 1) := by decide +kernel
theorem dX3_would_5 : decode cX3_would 5 = .ok (.invokevirtual 54, 3) := by decide +kernel
theorem dX3_would_8 : decode cX3_would 8 = .ok (.ifCond .eq 12, 3) := by decide +kernel
theorem dX3_would_11 : decode cX3_would 11 = .ok (.iload_n 2, 1) := by decide +kernel
theorem dX3_would_12 : decode cX3_would 12 = .ok (.iconst 0, 1) := by decide +kernel
theorem dX3_would_13 : decode cX3_would 13 = .ok (.iconst 2, 1) := by decide +kernel
theorem dX3_would_14 : decode cX3_would 14 = .ok (.invokestatic 62, 3) := by decide +kernel
theorem dX3_would_17 : decode cX3_would 17 = .ok (.ifCond .ne 7, 3) := by decide +kernel
theorem dX3_would_20 : decode cX3_would 20 = .ok (.ldc2_w 103, 3) := by decide +kernel
theorem dX3_would_23 : decode cX3_would 23 = .ok (.lreturn, 1) := by decide +kernel
theorem dX3_would_24 : decode cX3_would 24 = .ok (.aload_n 0, 1) := by decide +kernel
theorem dX3_would_25 : decode cX3_would 25 = .ok (.getfield 18, 3) := by decide +kernel
theorem dX3_would_28 : decode cX3_would 28 = .ok (.iload_n 1, 1) := by decide +kernel
end
section
theorem dX3_would_29 : decode cX3_would 29 = .ok (.iload_n 2, 1) := by decide +kernel
theorem dX3_would_30 : decode cX3_would 30 = .ok (.invokevirtual 66, 3) := by decide +kernel
theorem dX3_would_33 : decode cX3_would 33 = .ok (.istore_n 3, 1) := by decide +kernel
theorem dX3_would_34 : decode cX3_would 34 = .ok (.aload_n 0, 1) := by decide +kernel
theorem dX3_would_35 : decode cX3_would 35 = .ok (.getfield 18, 3) := by decide +kernel
theorem dX3_would_38 : decode cX3_would 38 = .ok (.iload_n 1, 1) := by decide +kernel
theorem dX3_would_39 : decode cX3_would 39 = .ok (.iload_n 2, 1) := by decide +kernel
theorem dX3_would_40 : decode cX3_would 40 = .ok (.iconst 1, 1) := by decide +kernel
theorem dX3_would_41 : decode cX3_would 41 = .ok (.invokevirtual 69, 3) := by decide +kernel
theorem dX3_would_44 : decode cX3_would 44 = .ok (.aload_n 0, 1) := by decide +kernel
theorem dX3_would_45 : decode cX3_would 45 = .ok (.getfield 27, 3) := by decide +kernel
theorem dX3_would_48 : decode cX3_would 48 = .ok (.invokevirtual 137, 3) := by decide +kernel
theorem dX3_would_51 : decode cX3_would 51 = .ok (.aload_n 0, 1) := by decide +kernel
theorem dX3_would_52 : decode cX3_would 52 = .ok (.getfield 18, 3) := by decide +kernel
theorem dX3_would_55 : decode cX3_would 55 = .ok (.iload_n 1, 1) := by decide +kernel
theorem dX3_would_56 : decode cX3_would 56 = .ok (.iload_n 2, 1) := by decide +kernel
theorem dX3_would_57 : decode cX3_would 57 = .ok (.iload_n 3, 1) := by decide +kernel
theorem dX3_would_58 : decode cX3_would 58 = .ok (.invokevirtual 69, 3) := by decide +kernel
theorem dX3_would_61 : decode cX3_would 61 = .ok (.aload_n 0, 1) := by decide +kernel
theorem dX3_would_62 : decode cX3_would 62 = .ok (.getfield 27, 3) := by decide +kernel
theorem dX3_would_65 : decode cX3_would 65 = .ok (.invokevirtual 140, 3) := by decide +kernel
theorem dX3_would_68 : decode cX3_would 68 = .ok (.lreturn, 1) := by decide +kernel
set_option maxRecDepth 20000 in
theorem ggX3_findBest_X1_run : GoodIn wsX3_findBest wsX1_run := goodIn_r _ [10, 11, 12, 13, 14, 15, 16, 17, 18, 19, 20, 21, 9, 22, 23, 24, 25, 26, 27, 28, 29, 30, 31, 32, 33, 34, 35, 36, 37, 38, 39, 40, 41, 42, 43, 44, 45, 46, 47, 48, 49, 50, 51, 52, 53, 54, 55, 56, 57, 58, 59, 60, 61, 62, 63, 64, 65, 66, 67, 68, 69, 70, 71, 72, 73, 74, 75, 76, 77, 78, 79, 80, 81, 82, 83, 84, 85, 86, 87, 88, 89, 90, 91, 92, 93, 94, 95, 138, 139, 140, 141, 142, 143, 144, 130, 131, 132, 133, 134, 135, 136, 137] rfl (by decide +kernel)
set_option maxRecDepth 20000 in
theorem gX3_findBest_X1_run : GoodIn wsX3_findBest (wsV RX3 137 RX1 yX1_run wsX1_run) := goodIn_app (goodIn_of _ (by decide +kernel)) ggX3_findBest_X1_run
set_option maxRecDepth 20000 in
theorem ggX3_findBest_X2_take : GoodIn wsX3_findBest wsX2_take := goodIn_r _ [100, 101, 102, 103, 104, 105, 106, 107, 108, 109, 110, 111, 9, 112, 16, 15, 113, 114, 115, 116, 75, 74, 117, 118, 119, 120, 121, 11, 78, 79, 80, 122, 123, 124, 125, 81, 82, 83, 145, 146, 147, 148, 149, 150, 151, 152, 138, 139, 140, 141, 142, 143, 144] rfl (by decide +kernel)
set_option maxRecDepth 20000 in
theorem gX3_findBest_X2_take : GoodIn wsX3_findBest (wsV RX3 144 RX2 yX2_take wsX2_take) := goodIn_app (goodIn_of _ (by decide +kernel)) ggX3_findBest_X2_take
theorem dX3_findBest_0 : decode cX3_findBest 0 = .ok (.aload_n 0, 1) := by decide +kernel
theorem dX3_findBest_1 : decode cX3_findBest 1 = .ok (.getfield 38, 3) := by decide +kernel
theorem dX3_findBest_4 : decode cX3_findBest 4 = .ok (.ifCond .eq 4, 3) := by decide +kernel
theorem dX3_findBest_7 : decode cX3_findBest 7 = .ok (.return_, 1) := by decide +kernel
theorem dX3_findBest_8 : decode cX3_findBest 8 = .ok (.aload_n 0, 1) := by decide +kernel
theorem dX3_findBest_9 : decode cX3_findBest 9 = .ok (.getfield 27, 3) := by decide +kernel
theorem dX3_findBest_12 : decode cX3_findBest 12 = .ok (.invokevirtual 137, 3) := by decide +kernel
theorem dX3_findBest_15 : decode cX3_findBest 15 = .ok (.aload_n 0, 1) := by decide +kernel
theorem dX3_findBest_16 : decode cX3_findBest 16 = .ok (.getfield 34, 3) := by decide +kernel
theorem dX3_findBest_19 : decode cX3_findBest 19 = .ok (.aload_n 0, 1) := by decide +kernel
theorem dX3_findBest_20 : decode cX3_findBest 20 = .ok (.getfield 27, 3) := by decide +kernel
theorem dX3_findBest_23 : decode cX3_findBest 23 = .ok (.aload_n 0, 1) := by decide +kernel
theorem dX3_findBest_24 : decode cX3_findBest 24 = .ok (.getfield 18, 3) := by decide +kernel
theorem dX3_findBest_27 : decode cX3_findBest 27 = .ok (.getfield 46, 3) := by decide +kernel
theorem dX3_findBest_30 : decode cX3_findBest 30 = .ok (.invokevirtual 144, 3) := by decide +kernel
theorem dX3_findBest_33 : decode cX3_findBest 33 = .ok (.aload_n 0, 1) := by decide +kernel
theorem dX3_findBest_34 : decode cX3_findBest 34 = .ok (.iconst 1, 1) := by decide +kernel
theorem dX3_findBest_35 : decode cX3_findBest 35 = .ok (.putfield 38, 3) := by decide +kernel
theorem dX3_findBest_38 : decode cX3_findBest 38 = .ok (.return_, 1) := by decide +kernel
set_option maxRecDepth 20000 in
theorem ggX3_pagePrice_X2_lastBar : GoodIn wsX3_pagePrice wsX2_lastBar := goodIn_r _ [10, 11, 32, 33, 34, 35, 36, 37, 38, 39] rfl (by decide +kernel)
set_option maxRecDepth 20000 in
theorem gX3_pagePrice_X2_lastBar : GoodIn wsX3_pagePrice (wsV RX3 108 RX2 yX2_lastBar wsX2_lastBar) := goodIn_app (goodIn_of _ (by decide +kernel)) ggX3_pagePrice_X2_lastBar
set_option maxRecDepth 20000 in
theorem ggX3_pagePrice_X0_turnPrice : GoodIn wsX3_pagePrice wsX0_turnPrice := goodIn_r _ [16, 17, 18, 19, 20, 15, 21, 22, 40, 41, 42, 43, 44, 45, 46, 47] rfl (by decide +kernel)
set_option maxRecDepth 20000 in
theorem gX3_pagePrice_X0_turnPrice : GoodIn wsX3_pagePrice (wsV RX3 148 RX0 yX0_turnPrice wsX0_turnPrice) := goodIn_app (goodIn_of _ (by decide +kernel)) ggX3_pagePrice_X0_turnPrice
set_option maxRecDepth 20000 in
theorem ggX3_pagePrice_X2_linesOnPage : GoodIn wsX3_pagePrice wsX2_linesOnPage := goodIn_r _ [26, 27, 32, 33, 34, 35, 36, 37, 38, 39] rfl (by decide +kernel)
set_option maxRecDepth 20000 in
theorem gX3_pagePrice_X2_linesOnPage : GoodIn wsX3_pagePrice (wsV RX3 121 RX2 yX2_linesOnPage wsX2_linesOnPage) := goodIn_app (goodIn_of _ (by decide +kernel)) ggX3_pagePrice_X2_linesOnPage
theorem dX3_pagePrice_0 : decode cX3_pagePrice 0 = .ok (.iload_n 1, 1) := by decide +kernel
theorem dX3_pagePrice_1 : decode cX3_pagePrice 1 = .ok (.aload_n 0, 1) := by decide +kernel
theorem dX3_pagePrice_2 : decode cX3_pagePrice 2 = .ok (.getfield 34, 3) := by decide +kernel
theorem dX3_pagePrice_5 : decode cX3_pagePrice 5 = .ok (.getfield 96, 3) := by decide +kernel
theorem dX3_pagePrice_8 : decode cX3_pagePrice 8 = .ok (.iconst 1, 1) := by decide +kernel
theorem dX3_pagePrice_9 : decode cX3_pagePrice 9 = .ok (.isub, 1) := by decide +kernel
theorem dX3_pagePrice_10 : decode cX3_pagePrice 10 = .ok (.if_icmp .ge 31, 3) := by decide +kernel
theorem dX3_pagePrice_13 : decode cX3_pagePrice 13 = .ok (.aload_n 0, 1) := by decide +kernel
theorem dX3_pagePrice_14 : decode cX3_pagePrice 14 = .ok (.getfield 18, 3) := by decide +kernel
theorem dX3_pagePrice_17 : decode cX3_pagePrice 17 = .ok (.aload_n 0, 1) := by decide +kernel
theorem dX3_pagePrice_18 : decode cX3_pagePrice 18 = .ok (.getfield 34, 3) := by decide +kernel
theorem dX3_pagePrice_21 : decode cX3_pagePrice 21 = .ok (.aload_n 0, 1) := by decide +kernel
theorem dX3_pagePrice_22 : decode cX3_pagePrice 22 = .ok (.getfield 34, 3) := by decide +kernel
theorem dX3_pagePrice_25 : decode cX3_pagePrice 25 = .ok (.getfield 118, 3) := by decide +kernel
theorem dX3_pagePrice_28 : decode cX3_pagePrice 28 = .ok (.iload_n 1, 1) := by decide +kernel
theorem dX3_pagePrice_29 : decode cX3_pagePrice 29 = .ok (.iconst 1, 1) := by decide +kernel
theorem dX3_pagePrice_30 : decode cX3_pagePrice 30 = .ok (.iadd, 1) := by decide +kernel
theorem dX3_pagePrice_31 : decode cX3_pagePrice 31 = .ok (.iaload, 1) := by decide +kernel
theorem dX3_pagePrice_32 : decode cX3_pagePrice 32 = .ok (.iconst 1, 1) := by decide +kernel
theorem dX3_pagePrice_33 : decode cX3_pagePrice 33 = .ok (.isub, 1) := by decide +kernel
theorem dX3_pagePrice_34 : decode cX3_pagePrice 34 = .ok (.invokevirtual 108, 3) := by decide +kernel
theorem dX3_pagePrice_37 : decode cX3_pagePrice 37 = .ok (.invokevirtual 148, 3) := by decide +kernel
theorem dX3_pagePrice_40 : decode cX3_pagePrice 40 = .ok (.ireturn, 1) := by decide +kernel
theorem dX3_pagePrice_41 : decode cX3_pagePrice 41 = .ok (.iload_n 1, 1) := by decide +kernel
theorem dX3_pagePrice_42 : decode cX3_pagePrice 42 = .ok (.ifCond .le 27, 3) := by decide +kernel
theorem dX3_pagePrice_45 : decode cX3_pagePrice 45 = .ok (.aload_n 0, 1) := by decide +kernel
theorem dX3_pagePrice_46 : decode cX3_pagePrice 46 = .ok (.getfield 34, 3) := by decide +kernel
theorem dX3_pagePrice_49 : decode cX3_pagePrice 49 = .ok (.iload_n 1, 1) := by decide +kernel
theorem dX3_pagePrice_50 : decode cX3_pagePrice 50 = .ok (.invokevirtual 121, 3) := by decide +kernel
theorem dX3_pagePrice_53 : decode cX3_pagePrice 53 = .ok (.iconst 1, 1) := by decide +kernel
theorem dX3_pagePrice_54 : decode cX3_pagePrice 54 = .ok (.if_icmp .ne 15, 3) := by decide +kernel
theorem dX3_pagePrice_57 : decode cX3_pagePrice 57 = .ok (.aload_n 0, 1) := by decide +kernel
theorem dX3_pagePrice_58 : decode cX3_pagePrice 58 = .ok (.getfield 18, 3) := by decide +kernel
theorem dX3_pagePrice_61 : decode cX3_pagePrice 61 = .ok (.getfield 74, 3) := by decide +kernel
theorem dX3_pagePrice_64 : decode cX3_pagePrice 64 = .ok (.iconst 2, 1) := by decide +kernel
theorem dX3_pagePrice_65 : decode cX3_pagePrice 65 = .ok (.iaload, 1) := by decide +kernel
theorem dX3_pagePrice_66 : decode cX3_pagePrice 66 = .ok (.goto 4, 3) := by decide +kernel
theorem dX3_pagePrice_69 : decode cX3_pagePrice 69 = .ok (.iconst 0, 1) := by decide +kernel
theorem dX3_pagePrice_70 : decode cX3_pagePrice 70 = .ok (.ireturn, 1) := by decide +kernel
set_option maxRecDepth 20000 in
theorem ggX3_areWidths_X3_isWithin : GoodIn wsX3_areWidths wsX3_isWithin := goodIn_r _ [4] rfl (by decide +kernel)
set_option maxRecDepth 20000 in
theorem gX3_areWidths_X3_isWithin : GoodIn wsX3_areWidths (va_wsS RX3 62 yX3_isWithin wsX3_isWithin) := goodIn_app (goodIn_of _ (by decide +kernel)) ggX3_areWidths_X3_isWithin
theorem dX3_areWidths_0 : decode cX3_areWidths 0 = .ok (.iload_n 1, 1) := by decide +kernel
theorem dX3_areWidths_1 : decode cX3_areWidths 1 = .ok (.iconst 1, 1) := by decide +kernel
theorem dX3_areWidths_2 : decode cX3_areWidths 2 = .ok (.sipush 400, 3) := by decide +kernel
theorem dX3_areWidths_5 : decode cX3_areWidths 5 = .ok (.invokestatic 62, 3) := by decide +kernel
theorem dX3_areWidths_8 : decode cX3_areWidths 8 = .ok (.ifCond .eq 16, 3) := by decide +kernel
theorem dX3_areWidths_11 : decode cX3_areWidths 11 = .ok (.iload_n 0, 1) := by decide +kernel
theorem dX3_areWidths_12 : decode cX3_areWidths 12 = .ok (.iconst 1, 1) := by decide +kernel
theorem dX3_areWidths_13 : decode cX3_areWidths 13 = .ok (.iload_n 1, 1) := by decide +kernel
theorem dX3_areWidths_14 : decode cX3_areWidths 14 = .ok (.invokestatic 62, 3) := by decide +kernel
theorem dX3_areWidths_17 : decode cX3_areWidths 17 = .ok (.ifCond .eq 7, 3) := by decide +kernel
theorem dX3_areWidths_20 : decode cX3_areWidths 20 = .ok (.iconst 1, 1) := by decide +kernel
theorem dX3_areWidths_21 : decode cX3_areWidths 21 = .ok (.goto 4, 3) := by decide +kernel
theorem dX3_areWidths_24 : decode cX3_areWidths 24 = .ok (.iconst 0, 1) := by decide +kernel
theorem dX3_areWidths_25 : decode cX3_areWidths 25 = .ok (.ireturn, 1) := by decide +kernel
theorem dX3_isWithin_0 : decode cX3_isWithin 0 = .ok (.iload_n 0, 1) := by decide +kernel
theorem dX3_isWithin_1 : decode cX3_isWithin 1 = .ok (.iload_n 1, 1) := by decide +kernel
theorem dX3_isWithin_2 : decode cX3_isWithin 2 = .ok (.if_icmp .lt 12, 3) := by decide +kernel
theorem dX3_isWithin_5 : decode cX3_isWithin 5 = .ok (.iload_n 0, 1) := by decide +kernel
theorem dX3_isWithin_6 : decode cX3_isWithin 6 = .ok (.iload_n 2, 1) := by decide +kernel
theorem dX3_isWithin_7 : decode cX3_isWithin 7 = .ok (.if_icmp .gt 7, 3) := by decide +kernel
theorem dX3_isWithin_10 : decode cX3_isWithin 10 = .ok (.iconst 1, 1) := by decide +kernel
theorem dX3_isWithin_11 : decode cX3_isWithin 11 = .ok (.goto 4, 3) := by decide +kernel
theorem dX3_isWithin_14 : decode cX3_isWithin 14 = .ok (.iconst 0, 1) := by decide +kernel
theorem dX3_isWithin_15 : decode cX3_isWithin 15 = .ok (.ireturn, 1) := by decide +kernel
theorem dX3_nearest_0 : decode cX3_nearest 0 = .ok (.iload_n 1, 1) := by decide +kernel
theorem dX3_nearest_1 : decode cX3_nearest 1 = .ok (.iload_n 2, 1) := by decide +kernel
theorem dX3_nearest_2 : decode cX3_nearest 2 = .ok (.iload_n 0, 1) := by decide +kernel
theorem dX3_nearest_3 : decode cX3_nearest 3 = .ok (.invokestatic 151, 3) := by decide +kernel
theorem dX3_nearest_6 : decode cX3_nearest 6 = .ok (.invokestatic 156, 3) := by decide +kernel
theorem dX3_nearest_9 : decode cX3_nearest 9 = .ok (.ireturn, 1) := by decide +kernel
theorem dX4_init_0 : decode cX4_init 0 = .ok (.aload_n 0, 1) := by decide +kernel
theorem dX4_init_1 : decode cX4_init 1 = .ok (.invokespecial 1, 3) := by decide +kernel
theorem dX4_init_4 : decode cX4_init 4 = .ok (.aload_n 0, 1) := by decide +kernel
theorem dX4_init_5 : decode cX4_init 5 = .ok (.bipush 24, 2) := by decide +kernel
theorem dX4_init_7 : decode cX4_init 7 = .ok (.newarray .int, 2) := by decide +kernel
theorem dX4_init_9 : decode cX4_init 9 = .ok (.putfield 7, 3) := by decide +kernel
theorem dX4_init_12 : decode cX4_init 12 = .ok (.aload_n 0, 1) := by decide +kernel
theorem dX4_init_13 : decode cX4_init 13 = .ok (.bipush 24, 2) := by decide +kernel
theorem dX4_init_15 : decode cX4_init 15 = .ok (.newarray .int, 2) := by decide +kernel
theorem dX4_init_17 : decode cX4_init 17 = .ok (.putfield 13, 3) := by decide +kernel
theorem dX4_init_20 : decode cX4_init 20 = .ok (.aload_n 0, 1) := by decide +kernel
theorem dX4_init_21 : decode cX4_init 21 = .ok (.bipush 72, 2) := by decide +kernel
theorem dX4_init_23 : decode cX4_init 23 = .ok (.newarray .boolean, 2) := by decide +kernel
theorem dX4_init_25 : decode cX4_init 25 = .ok (.putfield 16, 3) := by decide +kernel
theorem dX4_init_28 : decode cX4_init 28 = .ok (.aload_n 0, 1) := by decide +kernel
theorem dX4_init_29 : decode cX4_init 29 = .ok (.iconst 5, 1) := by decide +kernel
theorem dX4_init_30 : decode cX4_init 30 = .ok (.newarray .long, 2) := by decide +kernel
theorem dX4_init_32 : decode cX4_init 32 = .ok (.putfield 20, 3) := by decide +kernel
theorem dX4_init_35 : decode cX4_init 35 = .ok (.aload_n 0, 1) := by decide +kernel
theorem dX4_init_36 : decode cX4_init 36 = .ok (.sipush 11250, 3) := by decide +kernel
theorem dX4_init_39 : decode cX4_init 39 = .ok (.newarray .long, 2) := by decide +kernel
theorem dX4_init_41 : decode cX4_init 41 = .ok (.putfield 24, 3) := by decide +kernel
theorem dX4_init_44 : decode cX4_init 44 = .ok (.aload_n 0, 1) := by decide +kernel
theorem dX4_init_45 : decode cX4_init 45 = .ok (.bipush 25, 2) := by decide +kernel
theorem dX4_init_47 : decode cX4_init 47 = .ok (.newarray .int, 2) := by decide +kernel
theorem dX4_init_49 : decode cX4_init 49 = .ok (.putfield 27, 3) := by decide +kernel
theorem dX4_init_52 : decode cX4_init 52 = .ok (.aload_n 0, 1) := by decide +kernel
theorem dX4_init_53 : decode cX4_init 53 = .ok (.bipush 25, 2) := by decide +kernel
theorem dX4_init_55 : decode cX4_init 55 = .ok (.newarray .int, 2) := by decide +kernel
theorem dX4_init_57 : decode cX4_init 57 = .ok (.putfield 30, 3) := by decide +kernel
theorem dX4_init_60 : decode cX4_init 60 = .ok (.aload_n 0, 1) := by decide +kernel
theorem dX4_init_61 : decode cX4_init 61 = .ok (.bipush 18, 2) := by decide +kernel
theorem dX4_init_63 : decode cX4_init 63 = .ok (.newarray .long, 2) := by decide +kernel
theorem dX4_init_65 : decode cX4_init 65 = .ok (.putfield 33, 3) := by decide +kernel
theorem dX4_init_68 : decode cX4_init 68 = .ok (.aload_n 0, 1) := by decide +kernel
theorem dX4_init_69 : decode cX4_init 69 = .ok (.bipush 18, 2) := by decide +kernel
theorem dX4_init_71 : decode cX4_init 71 = .ok (.newarray .long, 2) := by decide +kernel
theorem dX4_init_73 : decode cX4_init 73 = .ok (.putfield 36, 3) := by decide +kernel
theorem dX4_init_76 : decode cX4_init 76 = .ok (.aload_n 0, 1) := by decide +kernel
theorem dX4_init_77 : decode cX4_init 77 = .ok (.bipush 25, 2) := by decide +kernel
theorem dX4_init_79 : decode cX4_init 79 = .ok (.newarray .long, 2) := by decide +kernel
theorem dX4_init_81 : decode cX4_init 81 = .ok (.putfield 39, 3) := by decide +kernel
theorem dX4_init_84 : decode cX4_init 84 = .ok (.aload_n 0, 1) := by decide +kernel
theorem dX4_init_85 : decode cX4_init 85 = .ok (.iload_n 1, 1) := by decide +kernel
theorem dX4_init_86 : decode cX4_init 86 = .ok (.bipush 100, 2) := by decide +kernel
theorem dX4_init_88 : decode cX4_init 88 = .ok (.if_icmp .ge 8, 3) := by decide +kernel
theorem dX4_init_91 : decode cX4_init 91 = .ok (.bipush 100, 2) := by decide +kernel
theorem dX4_init_93 : decode cX4_init 93 = .ok (.goto 17, 3) := by decide +kernel
theorem dX4_init_96 : decode cX4_init 96 = .ok (.iload_n 1, 1) := by decide +kernel
theorem dX4_init_97 : decode cX4_init 97 = .ok (.sipush 5000, 3) := by decide +kernel
theorem dX4_init_100 : decode cX4_init 100 = .ok (.if_icmp .le 9, 3) := by decide +kernel
theorem dX4_init_103 : decode cX4_init 103 = .ok (.sipush 5000, 3) := by decide +kernel
theorem dX4_init_106 : decode cX4_init 106 = .ok (.goto 4, 3) := by decide +kernel
theorem dX4_init_109 : decode cX4_init 109 = .ok (.iload_n 1, 1) := by decide +kernel
theorem dX4_init_110 : decode cX4_init 110 = .ok (.putfield 42, 3) := by decide +kernel
theorem dX4_init_113 : decode cX4_init 113 = .ok (.aload_n 0, 1) := by decide +kernel
theorem dX4_init_114 : decode cX4_init 114 = .ok (.iload_n 2, 1) := by decide +kernel
theorem dX4_init_115 : decode cX4_init 115 = .ok (.iconst 1, 1) := by decide +kernel
theorem dX4_init_116 : decode cX4_init 116 = .ok (.if_icmp .ge 7, 3) := by decide +kernel
theorem dX4_init_119 : decode cX4_init 119 = .ok (.iconst 1, 1) := by decide +kernel
theorem dX4_init_120 : decode cX4_init 120 = .ok (.goto 15, 3) := by decide +kernel
theorem dX4_init_123 : decode cX4_init 123 = .ok (.iload_n 2, 1) := by decide +kernel
theorem dX4_init_124 : decode cX4_init 124 = .ok (.bipush 8, 2) := by decide +kernel
theorem dX4_init_126 : decode cX4_init 126 = .ok (.if_icmp .le 8, 3) := by decide +kernel
theorem dX4_init_129 : decode cX4_init 129 = .ok (.bipush 8, 2) := by decide +kernel
theorem dX4_init_131 : decode cX4_init 131 = .ok (.goto 4, 3) := by decide +kernel
theorem dX4_init_134 : decode cX4_init 134 = .ok (.iload_n 2, 1) := by decide +kernel
theorem dX4_init_135 : decode cX4_init 135 = .ok (.putfield 46, 3) := by decide +kernel
theorem dX4_init_138 : decode cX4_init 138 = .ok (.aload_n 0, 1) := by decide +kernel
theorem dX4_init_139 : decode cX4_init 139 = .ok (.getfield 20, 3) := by decide +kernel
theorem dX4_init_142 : decode cX4_init 142 = .ok (.iconst 0, 1) := by decide +kernel
theorem dX4_init_143 : decode cX4_init 143 = .ok (.ldc2_w 49, 3) := by decide +kernel
theorem dX4_init_146 : decode cX4_init 146 = .ok (.lastore, 1) := by decide +kernel
theorem dX4_init_147 : decode cX4_init 147 = .ok (.aload_n 0, 1) := by decide +kernel
theorem dX4_init_148 : decode cX4_init 148 = .ok (.getfield 20, 3) := by decide +kernel
theorem dX4_init_151 : decode cX4_init 151 = .ok (.iconst 1, 1) := by decide +kernel
theorem dX4_init_152 : decode cX4_init 152 = .ok (.ldc2_w 51, 3) := by decide +kernel
theorem dX4_init_155 : decode cX4_init 155 = .ok (.lastore, 1) := by decide +kernel
theorem dX4_init_156 : decode cX4_init 156 = .ok (.aload_n 0, 1) := by decide +kernel
theorem dX4_init_157 : decode cX4_init 157 = .ok (.getfield 20, 3) := by decide +kernel
theorem dX4_init_160 : decode cX4_init 160 = .ok (.iconst 2, 1) := by decide +kernel
theorem dX4_init_161 : decode cX4_init 161 = .ok (.ldc2_w 53, 3) := by decide +kernel
theorem dX4_init_164 : decode cX4_init 164 = .ok (.lastore, 1) := by decide +kernel
theorem dX4_init_165 : decode cX4_init 165 = .ok (.aload_n 0, 1) := by decide +kernel
theorem dX4_init_166 : decode cX4_init 166 = .ok (.getfield 20, 3) := by decide +kernel
theorem dX4_init_169 : decode cX4_init 169 = .ok (.iconst 3, 1) := by decide +kernel
theorem dX4_init_170 : decode cX4_init 170 = .ok (.ldc2_w 55, 3) := by decide +kernel
theorem dX4_init_173 : decode cX4_init 173 = .ok (.lastore, 1) := by decide +kernel
theorem dX4_init_174 : decode cX4_init 174 = .ok (.aload_n 0, 1) := by decide +kernel
theorem dX4_init_175 : decode cX4_init 175 = .ok (.getfield 20, 3) := by decide +kernel
theorem dX4_init_178 : decode cX4_init 178 = .ok (.iconst 4, 1) := by decide +kernel
theorem dX4_init_179 : decode cX4_init 179 = .ok (.lconst 1, 1) := by decide +kernel
theorem dX4_init_180 : decode cX4_init 180 = .ok (.lastore, 1) := by decide +kernel
theorem dX4_init_181 : decode cX4_init 181 = .ok (.return_, 1) := by decide +kernel
theorem dX4_in_0 : decode cX4_in 0 = .ok (.iload_n 0, 1) := by decide +kernel
theorem dX4_in_1 : decode cX4_in 1 = .ok (.iload_n 1, 1) := by decide +kernel
theorem dX4_in_2 : decode cX4_in 2 = .ok (.if_icmp .lt 12, 3) := by decide +kernel
theorem dX4_in_5 : decode cX4_in 5 = .ok (.iload_n 0, 1) := by decide +kernel
theorem dX4_in_6 : decode cX4_in 6 = .ok (.iload_n 2, 1) := by decide +kernel
theorem dX4_in_7 : decode cX4_in 7 = .ok (.if_icmp .gt 7, 3) := by decide +kernel
theorem dX4_in_10 : decode cX4_in 10 = .ok (.iconst 1, 1) := by decide +kernel
theorem dX4_in_11 : decode cX4_in 11 = .ok (.goto 4, 3) := by decide +kernel
theorem dX4_in_14 : decode cX4_in 14 = .ok (.iconst 0, 1) := by decide +kernel
theorem dX4_in_15 : decode cX4_in 15 = .ok (.ireturn, 1) := by decide +kernel
set_option maxRecDepth 20000 in
theorem ggX4_isBar_X4_in : GoodIn wsX4_isBar wsX4_in := goodIn_r _ [5] rfl (by decide +kernel)
set_option maxRecDepth 20000 in
theorem gX4_isBar_X4_in : GoodIn wsX4_isBar (va_wsS RX4 60 yX4_in wsX4_in) := goodIn_app (goodIn_of _ (by decide +kernel)) ggX4_isBar_X4_in
theorem dX4_isBar_0 : decode cX4_isBar 0 = .ok (.iload_n 1, 1) := by decide +kernel
theorem dX4_isBar_1 : decode cX4_isBar 1 = .ok (.iconst 0, 1) := by decide +kernel
theorem dX4_isBar_2 : decode cX4_isBar 2 = .ok (.aload_n 0, 1) := by decide +kernel
theorem dX4_isBar_3 : decode cX4_isBar 3 = .ok (.getfield 57, 3) := by decide +kernel
theorem dX4_isBar_6 : decode cX4_isBar 6 = .ok (.iconst 1, 1) := by decide +kernel
theorem dX4_isBar_7 : decode cX4_isBar 7 = .ok (.isub, 1) := by decide +kernel
theorem dX4_isBar_8 : decode cX4_isBar 8 = .ok (.invokestatic 60, 3) := by decide +kernel
theorem dX4_isBar_11 : decode cX4_isBar 11 = .ok (.ireturn, 1) := by decide +kernel
set_option maxRecDepth 20000 in
theorem ggX4_areWidths_X4_in : GoodIn wsX4_areWidths wsX4_in := goodIn_r _ [4] rfl (by decide +kernel)
set_option maxRecDepth 20000 in
theorem gX4_areWidths_X4_in : GoodIn wsX4_areWidths (va_wsS RX4 60 yX4_in wsX4_in) := goodIn_app (goodIn_of _ (by decide +kernel)) ggX4_areWidths_X4_in
theorem dX4_areWidths_0 : decode cX4_areWidths 0 = .ok (.iload_n 0, 1) := by decide +kernel
theorem dX4_areWidths_1 : decode cX4_areWidths 1 = .ok (.iconst 1, 1) := by decide +kernel
theorem dX4_areWidths_2 : decode cX4_areWidths 2 = .ok (.sipush 400, 3) := by decide +kernel
theorem dX4_areWidths_5 : decode cX4_areWidths 5 = .ok (.invokestatic 60, 3) := by decide +kernel
theorem dX4_areWidths_8 : decode cX4_areWidths 8 = .ok (.ifCond .eq 18, 3) := by decide +kernel
theorem dX4_areWidths_11 : decode cX4_areWidths 11 = .ok (.iload_n 1, 1) := by decide +kernel
theorem dX4_areWidths_12 : decode cX4_areWidths 12 = .ok (.iload_n 0, 1) := by decide +kernel
theorem dX4_areWidths_13 : decode cX4_areWidths 13 = .ok (.sipush 400, 3) := by decide +kernel
theorem dX4_areWidths_16 : decode cX4_areWidths 16 = .ok (.invokestatic 60, 3) := by decide +kernel
theorem dX4_areWidths_19 : decode cX4_areWidths 19 = .ok (.ifCond .eq 7, 3) := by decide +kernel
theorem dX4_areWidths_22 : decode cX4_areWidths 22 = .ok (.iconst 1, 1) := by decide +kernel
theorem dX4_areWidths_23 : decode cX4_areWidths 23 = .ok (.goto 4, 3) := by decide +kernel
theorem dX4_areWidths_26 : decode cX4_areWidths 26 = .ok (.iconst 0, 1) := by decide +kernel
theorem dX4_areWidths_27 : decode cX4_areWidths 27 = .ok (.ireturn, 1) := by decide +kernel
set_option maxRecDepth 20000 in
theorem ggX4_bar_X4_areWidths : GoodIn wsX4_bar wsX4_areWidths := goodIn_r _ [8, 9, 10, 7, 11] rfl (by decide +kernel)
set_option maxRecDepth 20000 in
theorem gX4_bar_X4_areWidths : GoodIn wsX4_bar (va_wsS RX4 64 yX4_areWidths wsX4_areWidths) := goodIn_app (goodIn_of _ (by decide +kernel)) ggX4_bar_X4_areWidths
theorem dX4_bar_0 : decode cX4_bar 0 = .ok (.iload_n 1, 1) := by decide +kernel
theorem dX4_bar_1 : decode cX4_bar 1 = .ok (.iload_n 2, 1) := by decide +kernel
theorem dX4_bar_2 : decode cX4_bar 2 = .ok (.invokestatic 64, 3) := by decide +kernel
theorem dX4_bar_5 : decode cX4_bar 5 = .ok (.ifCond .ne 6, 3) := by decide +kernel
theorem dX4_bar_8 : decode cX4_bar 8 = .ok (.bipush (-2), 2) := by decide +kernel
theorem dX4_bar_10 : decode cX4_bar 10 = .ok (.ireturn, 1) := by decide +kernel
theorem dX4_bar_11 : decode cX4_bar 11 = .ok (.aload_n 0, 1) := by decide +kernel
theorem dX4_bar_12 : decode cX4_bar 12 = .ok (.getfield 57, 3) := by decide +kernel
theorem dX4_bar_15 : decode cX4_bar 15 = .ok (.bipush 24, 2) := by decide +kernel
theorem dX4_bar_17 : decode cX4_bar 17 = .ok (.if_icmp .ne 6, 3) := by decide +kernel
theorem dX4_bar_20 : decode cX4_bar 20 = .ok (.bipush (-4), 2) := by decide +kernel
theorem dX4_bar_22 : decode cX4_bar 22 = .ok (.ireturn, 1) := by decide +kernel
theorem dX4_bar_23 : decode cX4_bar 23 = .ok (.aload_n 0, 1) := by decide +kernel
theorem dX4_bar_24 : decode cX4_bar 24 = .ok (.getfield 7, 3) := by decide +kernel
theorem dX4_bar_27 : decode cX4_bar 27 = .ok (.aload_n 0, 1) := by decide +kernel
theorem dX4_bar_28 : decode cX4_bar 28 = .ok (.getfield 57, 3) := by decide +kernel
theorem dX4_bar_31 : decode cX4_bar 31 = .ok (.iload_n 1, 1) := by decide +kernel
theorem dX4_bar_32 : decode cX4_bar 32 = .ok (.iastore, 1) := by decide +kernel
theorem dX4_bar_33 : decode cX4_bar 33 = .ok (.aload_n 0, 1) := by decide +kernel
theorem dX4_bar_34 : decode cX4_bar 34 = .ok (.getfield 13, 3) := by decide +kernel
theorem dX4_bar_37 : decode cX4_bar 37 = .ok (.aload_n 0, 1) := by decide +kernel
theorem dX4_bar_38 : decode cX4_bar 38 = .ok (.getfield 57, 3) := by decide +kernel
theorem dX4_bar_41 : decode cX4_bar 41 = .ok (.iload_n 2, 1) := by decide +kernel
theorem dX4_bar_42 : decode cX4_bar 42 = .ok (.iastore, 1) := by decide +kernel
theorem dX4_bar_43 : decode cX4_bar 43 = .ok (.aload_n 0, 1) := by decide +kernel
theorem dX4_bar_44 : decode cX4_bar 44 = .ok (.dup, 1) := by decide +kernel
theorem dX4_bar_45 : decode cX4_bar 45 = .ok (.getfield 57, 3) := by decide +kernel
theorem dX4_bar_48 : decode cX4_bar 48 = .ok (.iconst 1, 1) := by decide +kernel
theorem dX4_bar_49 : decode cX4_bar 49 = .ok (.iadd, 1) := by decide +kernel
theorem dX4_bar_50 : decode cX4_bar 50 = .ok (.putfield 57, 3) := by decide +kernel
theorem dX4_bar_53 : decode cX4_bar 53 = .ok (.aload_n 0, 1) := by decide +kernel
theorem dX4_bar_54 : decode cX4_bar 54 = .ok (.iconst 0, 1) := by decide +kernel
theorem dX4_bar_55 : decode cX4_bar 55 = .ok (.putfield 68, 3) := by decide +kernel
theorem dX4_bar_58 : decode cX4_bar 58 = .ok (.aload_n 0, 1) := by decide +kernel
theorem dX4_bar_59 : decode cX4_bar 59 = .ok (.getfield 57, 3) := by decide +kernel
theorem dX4_bar_62 : decode cX4_bar 62 = .ok (.iconst 1, 1) := by decide +kernel
theorem dX4_bar_63 : decode cX4_bar 63 = .ok (.isub, 1) := by decide +kernel
theorem dX4_bar_64 : decode cX4_bar 64 = .ok (.ireturn, 1) := by decide +kernel
set_option maxRecDepth 20000 in
theorem ggX4_change_X4_isBar : GoodIn wsX4_change wsX4_isBar := goodIn_r _ [8, 9, 10, 11, 7, 12, 16, 17, 18, 19, 20, 21, 22, 23, 24, 25, 26, 27, 28, 29, 30, 31, 32, 33] rfl (by decide +kernel)
set_option maxRecDepth 20000 in
theorem gX4_change_X4_isBar : GoodIn wsX4_change (wsV RX4 72 RX4 yX4_isBar wsX4_isBar) := goodIn_app (goodIn_of _ (by decide +kernel)) ggX4_change_X4_isBar
set_option maxRecDepth 20000 in
theorem ggX4_change_X4_areWidths : GoodIn wsX4_change wsX4_areWidths := goodIn_r _ [15, 10, 11, 7, 12] rfl (by decide +kernel)
set_option maxRecDepth 20000 in
theorem gX4_change_X4_areWidths : GoodIn wsX4_change (va_wsS RX4 64 yX4_areWidths wsX4_areWidths) := goodIn_app (goodIn_of _ (by decide +kernel)) ggX4_change_X4_areWidths
theorem dX4_change_0 : decode cX4_change 0 = .ok (.aload_n 0, 1) := by decide +kernel
theorem dX4_change_1 : decode cX4_change 1 = .ok (.iload_n 1, 1) := by decide +kernel
theorem dX4_change_2 : decode cX4_change 2 = .ok (.invokevirtual 72, 3) := by decide +kernel
theorem dX4_change_5 : decode cX4_change 5 = .ok (.ifCond .ne 5, 3) := by decide +kernel
theorem dX4_change_8 : decode cX4_change 8 = .ok (.iconst (-1), 1) := by decide +kernel
theorem dX4_change_9 : decode cX4_change 9 = .ok (.ireturn, 1) := by decide +kernel
theorem dX4_change_10 : decode cX4_change 10 = .ok (.iload_n 2, 1) := by decide +kernel
theorem dX4_change_11 : decode cX4_change 11 = .ok (.iload_n 3, 1) := by decide +kernel
theorem dX4_change_12 : decode cX4_change 12 = .ok (.invokestatic 64, 3) := by decide +kernel
theorem dX4_change_15 : decode cX4_change 15 = .ok (.ifCond .ne 6, 3) := by decide +kernel
theorem dX4_change_18 : decode cX4_change 18 = .ok (.bipush (-2), 2) := by decide +kernel
theorem dX4_change_20 : decode cX4_change 20 = .ok (.ireturn, 1) := by decide +kernel
theorem dX4_change_21 : decode cX4_change 21 = .ok (.aload_n 0, 1) := by decide +kernel
theorem dX4_change_22 : decode cX4_change 22 = .ok (.getfield 7, 3) := by decide +kernel
theorem dX4_change_25 : decode cX4_change 25 = .ok (.iload_n 1, 1) := by decide +kernel
theorem dX4_change_26 : decode cX4_change 26 = .ok (.iload_n 2, 1) := by decide +kernel
theorem dX4_change_27 : decode cX4_change 27 = .ok (.iastore, 1) := by decide +kernel
theorem dX4_change_28 : decode cX4_change 28 = .ok (.aload_n 0, 1) := by decide +kernel
theorem dX4_change_29 : decode cX4_change 29 = .ok (.getfield 13, 3) := by decide +kernel
theorem dX4_change_32 : decode cX4_change 32 = .ok (.iload_n 1, 1) := by decide +kernel
theorem dX4_change_33 : decode cX4_change 33 = .ok (.iload_n 3, 1) := by decide +kernel
theorem dX4_change_34 : decode cX4_change 34 = .ok (.iastore, 1) := by decide +kernel
theorem dX4_change_35 : decode cX4_change 35 = .ok (.aload_n 0, 1) := by decide +kernel
theorem dX4_change_36 : decode cX4_change 36 = .ok (.iconst 0, 1) := by decide +kernel
theorem dX4_change_37 : decode cX4_change 37 = .ok (.putfield 68, 3) := by decide +kernel
theorem dX4_change_40 : decode cX4_change 40 = .ok (.iconst 1, 1) := by decide +kernel
theorem dX4_change_41 : decode cX4_change 41 = .ok (.ireturn, 1) := by decide +kernel
set_option maxRecDepth 20000 in
theorem ggX4_mark_X4_isBar : GoodIn wsX4_mark wsX4_isBar := goodIn_r _ [7, 8, 9, 10, 6, 11, 12, 13, 14, 15, 16, 17, 18, 19, 20, 21, 22, 23, 24, 25, 26, 27, 28, 29] rfl (by decide +kernel)
set_option maxRecDepth 20000 in
theorem gX4_mark_X4_isBar : GoodIn wsX4_mark (wsV RX4 72 RX4 yX4_isBar wsX4_isBar) := goodIn_app (goodIn_of _ (by decide +kernel)) ggX4_mark_X4_isBar
set_option maxRecDepth 20000 in
theorem ggX4_mark_X4_in : GoodIn wsX4_mark wsX4_in := goodIn_r _ [11] rfl (by decide +kernel)
set_option maxRecDepth 20000 in
theorem gX4_mark_X4_in : GoodIn wsX4_mark (va_wsS RX4 60 yX4_in wsX4_in) := goodIn_app (goodIn_of _ (by decide +kernel)) ggX4_mark_X4_in
theorem dX4_mark_0 : decode cX4_mark 0 = .ok (.aload_n 0, 1) := by decide +kernel
theorem dX4_mark_1 : decode cX4_mark 1 = .ok (.iload_n 1, 1) := by decide +kernel
theorem dX4_mark_2 : decode cX4_mark 2 = .ok (.invokevirtual 72, 3) := by decide +kernel
theorem dX4_mark_5 : decode cX4_mark 5 = .ok (.ifCond .ne 5, 3) := by decide +kernel
theorem dX4_mark_8 : decode cX4_mark 8 = .ok (.iconst (-1), 1) := by decide +kernel
theorem dX4_mark_9 : decode cX4_mark 9 = .ok (.ireturn, 1) := by decide +kernel
theorem dX4_mark_10 : decode cX4_mark 10 = .ok (.iload_n 2, 1) := by decide +kernel
theorem dX4_mark_11 : decode cX4_mark 11 = .ok (.iconst 0, 1) := by decide +kernel
theorem dX4_mark_12 : decode cX4_mark 12 = .ok (.iconst 2, 1) := by decide +kernel
theorem dX4_mark_13 : decode cX4_mark 13 = .ok (.invokestatic 60, 3) := by decide +kernel
theorem dX4_mark_16 : decode cX4_mark 16 = .ok (.ifCond .ne 6, 3) := by decide +kernel
theorem dX4_mark_19 : decode cX4_mark 19 = .ok (.bipush (-2), 2) := by decide +kernel
theorem dX4_mark_21 : decode cX4_mark 21 = .ok (.ireturn, 1) := by decide +kernel
theorem dX4_mark_22 : decode cX4_mark 22 = .ok (.aload_n 0, 1) := by decide +kernel
theorem dX4_mark_23 : decode cX4_mark 23 = .ok (.getfield 16, 3) := by decide +kernel
theorem dX4_mark_26 : decode cX4_mark 26 = .ok (.iconst 3, 1) := by decide +kernel
theorem dX4_mark_27 : decode cX4_mark 27 = .ok (.iload_n 1, 1) := by decide +kernel
theorem dX4_mark_28 : decode cX4_mark 28 = .ok (.imul, 1) := by decide +kernel
theorem dX4_mark_29 : decode cX4_mark 29 = .ok (.iload_n 2, 1) := by decide +kernel
theorem dX4_mark_30 : decode cX4_mark 30 = .ok (.iadd, 1) := by decide +kernel
theorem dX4_mark_31 : decode cX4_mark 31 = .ok (.baload, 1) := by decide +kernel
theorem dX4_mark_32 : decode cX4_mark 32 = .ok (.ifCond .eq 7, 3) := by decide +kernel
theorem dX4_mark_35 : decode cX4_mark 35 = .ok (.iconst 1, 1) := by decide +kernel
theorem dX4_mark_36 : decode cX4_mark 36 = .ok (.goto 4, 3) := by decide +kernel
theorem dX4_mark_39 : decode cX4_mark 39 = .ok (.iconst 0, 1) := by decide +kernel
theorem dX4_mark_40 : decode cX4_mark 40 = .ok (.istore 4, 2) := by decide +kernel
theorem dX4_mark_42 : decode cX4_mark 42 = .ok (.aload_n 0, 1) := by decide +kernel
theorem dX4_mark_43 : decode cX4_mark 43 = .ok (.getfield 16, 3) := by decide +kernel
theorem dX4_mark_46 : decode cX4_mark 46 = .ok (.iconst 3, 1) := by decide +kernel
theorem dX4_mark_47 : decode cX4_mark 47 = .ok (.iload_n 1, 1) := by decide +kernel
theorem dX4_mark_48 : decode cX4_mark 48 = .ok (.imul, 1) := by decide +kernel
theorem dX4_mark_49 : decode cX4_mark 49 = .ok (.iload_n 2, 1) := by decide +kernel
theorem dX4_mark_50 : decode cX4_mark 50 = .ok (.iadd, 1) := by decide +kernel
theorem dX4_mark_51 : decode cX4_mark 51 = .ok (.iload_n 3, 1) := by decide +kernel
theorem dX4_mark_52 : decode cX4_mark 52 = .ok (.bastore, 1) := by decide +kernel
theorem dX4_mark_53 : decode cX4_mark 53 = .ok (.aload_n 0, 1) := by decide +kernel
theorem dX4_mark_54 : decode cX4_mark 54 = .ok (.iconst 0, 1) := by decide +kernel
theorem dX4_mark_55 : decode cX4_mark 55 = .ok (.putfield 68, 3) := by decide +kernel
theorem dX4_mark_58 : decode cX4_mark 58 = .ok (.iload 4, 2) := by decide +kernel
theorem dX4_mark_60 : decode cX4_mark 60 = .ok (.ireturn, 1) := by decide +kernel
set_option maxRecDepth 20000 in
theorem ggX4_cost_X4_in : GoodIn wsX4_cost wsX4_in := goodIn_r _ [7] rfl (by decide +kernel)
set_option maxRecDepth 20000 in
theorem gX4_cost_X4_in : GoodIn wsX4_cost (va_wsS RX4 60 yX4_in wsX4_in) := goodIn_app (goodIn_of _ (by decide +kernel)) ggX4_cost_X4_in
theorem dX4_cost_0 : decode cX4_cost 0 = .ok (.iload_n 1, 1) := by decide +kernel
theorem dX4_cost_1 : decode cX4_cost 1 = .ok (.iconst 0, 1) := by decide +kernel
theorem dX4_cost_2 : decode cX4_cost 2 = .ok (.iconst 4, 1) := by decide +kernel
theorem dX4_cost_3 : decode cX4_cost 3 = .ok (.invokestatic 60, 3) := by decide +kernel
theorem dX4_cost_6 : decode cX4_cost 6 = .ok (.ifCond .eq 13, 3) := by decide +kernel
theorem dX4_cost_9 : decode cX4_cost 9 = .ok (.iload_n 2, 1) := by decide +kernel
theorem dX4_cost_10 : decode cX4_cost 10 = .ok (.iconst 0, 1) := by decide +kernel
theorem dX4_cost_11 : decode cX4_cost 11 = .ok (.ldc 76, 2) := by decide +kernel
theorem dX4_cost_13 : decode cX4_cost 13 = .ok (.invokestatic 60, 3) := by decide +kernel
theorem dX4_cost_16 : decode cX4_cost 16 = .ok (.ifCond .ne 6, 3) := by decide +kernel
theorem dX4_cost_19 : decode cX4_cost 19 = .ok (.bipush (-2), 2) := by decide +kernel
theorem dX4_cost_21 : decode cX4_cost 21 = .ok (.ireturn, 1) := by decide +kernel
theorem dX4_cost_22 : decode cX4_cost 22 = .ok (.aload_n 0, 1) := by decide +kernel
theorem dX4_cost_23 : decode cX4_cost 23 = .ok (.getfield 20, 3) := by decide +kernel
theorem dX4_cost_26 : decode cX4_cost 26 = .ok (.iload_n 1, 1) := by decide +kernel
theorem dX4_cost_27 : decode cX4_cost 27 = .ok (.laload, 1) := by decide +kernel
theorem dX4_cost_28 : decode cX4_cost 28 = .ok (.l2i, 1) := by decide +kernel
theorem dX4_cost_29 : decode cX4_cost 29 = .ok (.istore_n 3, 1) := by decide +kernel
theorem dX4_cost_30 : decode cX4_cost 30 = .ok (.aload_n 0, 1) := by decide +kernel
theorem dX4_cost_31 : decode cX4_cost 31 = .ok (.getfield 20, 3) := by decide +kernel
theorem dX4_cost_34 : decode cX4_cost 34 = .ok (.iload_n 1, 1) := by decide +kernel
theorem dX4_cost_35 : decode cX4_cost 35 = .ok (.iload_n 2, 1) := by decide +kernel
theorem dX4_cost_36 : decode cX4_cost 36 = .ok (.i2l, 1) := by decide +kernel
theorem dX4_cost_37 : decode cX4_cost 37 = .ok (.lastore, 1) := by decide +kernel
theorem dX4_cost_38 : decode cX4_cost 38 = .ok (.aload_n 0, 1) := by decide +kernel
theorem dX4_cost_39 : decode cX4_cost 39 = .ok (.iconst 0, 1) := by decide +kernel
theorem dX4_cost_40 : decode cX4_cost 40 = .ok (.putfield 68, 3) := by decide +kernel
theorem dX4_cost_43 : decode cX4_cost 43 = .ok (.iload_n 3, 1) := by decide +kernel
theorem dX4_cost_44 : decode cX4_cost 44 = .ok (.ireturn, 1) := by decide +kernel
set_option maxRecDepth 20000 in
theorem ggX4_count_X4_in : GoodIn wsX4_count wsX4_in := goodIn_r _ [6] rfl (by decide +kernel)
set_option maxRecDepth 20000 in
theorem gX4_count_X4_in : GoodIn wsX4_count (va_wsS RX4 60 yX4_in wsX4_in) := goodIn_app (goodIn_of _ (by decide +kernel)) ggX4_count_X4_in
theorem dX4_count_0 : decode cX4_count 0 = .ok (.iload_n 1, 1) := by decide +kernel
theorem dX4_count_1 : decode cX4_count 1 = .ok (.iconst 0, 1) := by decide +kernel
theorem dX4_count_2 : decode cX4_count 2 = .ok (.bipush 24, 2) := by decide +kernel
theorem dX4_count_4 : decode cX4_count 4 = .ok (.invokestatic 60, 3) := by decide +kernel
theorem dX4_count_7 : decode cX4_count 7 = .ok (.ifCond .ne 6, 3) := by decide +kernel
theorem dX4_count_10 : decode cX4_count 10 = .ok (.bipush (-2), 2) := by decide +kernel
theorem dX4_count_12 : decode cX4_count 12 = .ok (.ireturn, 1) := by decide +kernel
theorem dX4_count_13 : decode cX4_count 13 = .ok (.aload_n 0, 1) := by decide +kernel
theorem dX4_count_14 : decode cX4_count 14 = .ok (.getfield 77, 3) := by decide +kernel
theorem dX4_count_17 : decode cX4_count 17 = .ok (.istore_n 2, 1) := by decide +kernel
theorem dX4_count_18 : decode cX4_count 18 = .ok (.aload_n 0, 1) := by decide +kernel
theorem dX4_count_19 : decode cX4_count 19 = .ok (.iload_n 1, 1) := by decide +kernel
theorem dX4_count_20 : decode cX4_count 20 = .ok (.putfield 77, 3) := by decide +kernel
theorem dX4_count_23 : decode cX4_count 23 = .ok (.aload_n 0, 1) := by decide +kernel
theorem dX4_count_24 : decode cX4_count 24 = .ok (.iconst 0, 1) := by decide +kernel
theorem dX4_count_25 : decode cX4_count 25 = .ok (.putfield 68, 3) := by decide +kernel
theorem dX4_count_28 : decode cX4_count 28 = .ok (.iload_n 2, 1) := by decide +kernel
theorem dX4_count_29 : decode cX4_count 29 = .ok (.ireturn, 1) := by decide +kernel
set_option maxRecDepth 20000 in
theorem ggX4_size_X4_in : GoodIn wsX4_size wsX4_in := goodIn_r _ [7] rfl (by decide +kernel)
set_option maxRecDepth 20000 in
theorem gX4_size_X4_in : GoodIn wsX4_size (va_wsS RX4 60 yX4_in wsX4_in) := goodIn_app (goodIn_of _ (by decide +kernel)) ggX4_size_X4_in
end
section
theorem dX4_size_0 : decode cX4_size 0 = .ok (.iload_n 1, 1) := by decide +kernel
theorem dX4_size_1 : decode cX4_size 1 = .ok (.ifCond .ne 15, 3) := by decide +kernel
theorem dX4_size_4 : decode cX4_size 4 = .ok (.iload_n 2, 1) := by decide +kernel
theorem dX4_size_5 : decode cX4_size 5 = .ok (.bipush 100, 2) := by decide +kernel
theorem dX4_size_7 : decode cX4_size 7 = .ok (.sipush 5000, 3) := by decide +kernel
theorem dX4_size_10 : decode cX4_size 10 = .ok (.invokestatic 60, 3) := by decide +kernel
theorem dX4_size_13 : decode cX4_size 13 = .ok (.goto 23, 3) := by decide +kernel
theorem dX4_size_16 : decode cX4_size 16 = .ok (.iload_n 1, 1) := by decide +kernel
theorem dX4_size_17 : decode cX4_size 17 = .ok (.iconst 1, 1) := by decide +kernel
theorem dX4_size_18 : decode cX4_size 18 = .ok (.if_icmp .ne 17, 3) := by decide +kernel
theorem dX4_size_21 : decode cX4_size 21 = .ok (.iload_n 2, 1) := by decide +kernel
theorem dX4_size_22 : decode cX4_size 22 = .ok (.iconst 1, 1) := by decide +kernel
theorem dX4_size_23 : decode cX4_size 23 = .ok (.bipush 8, 2) := by decide +kernel
theorem dX4_size_25 : decode cX4_size 25 = .ok (.invokestatic 60, 3) := by decide +kernel
theorem dX4_size_28 : decode cX4_size 28 = .ok (.ifCond .eq 7, 3) := by decide +kernel
theorem dX4_size_31 : decode cX4_size 31 = .ok (.iconst 1, 1) := by decide +kernel
theorem dX4_size_32 : decode cX4_size 32 = .ok (.goto 4, 3) := by decide +kernel
theorem dX4_size_35 : decode cX4_size 35 = .ok (.iconst 0, 1) := by decide +kernel
theorem dX4_size_36 : decode cX4_size 36 = .ok (.istore_n 3, 1) := by decide +kernel
theorem dX4_size_37 : decode cX4_size 37 = .ok (.iload_n 3, 1) := by decide +kernel
theorem dX4_size_38 : decode cX4_size 38 = .ok (.ifCond .ne 6, 3) := by decide +kernel
theorem dX4_size_41 : decode cX4_size 41 = .ok (.bipush (-2), 2) := by decide +kernel
theorem dX4_size_43 : decode cX4_size 43 = .ok (.ireturn, 1) := by decide +kernel
theorem dX4_size_44 : decode cX4_size 44 = .ok (.iload_n 1, 1) := by decide +kernel
theorem dX4_size_45 : decode cX4_size 45 = .ok (.ifCond .ne 10, 3) := by decide +kernel
theorem dX4_size_48 : decode cX4_size 48 = .ok (.aload_n 0, 1) := by decide +kernel
theorem dX4_size_49 : decode cX4_size 49 = .ok (.getfield 42, 3) := by decide +kernel
theorem dX4_size_52 : decode cX4_size 52 = .ok (.goto 7, 3) := by decide +kernel
theorem dX4_size_55 : decode cX4_size 55 = .ok (.aload_n 0, 1) := by decide +kernel
theorem dX4_size_56 : decode cX4_size 56 = .ok (.getfield 46, 3) := by decide +kernel
theorem dX4_size_59 : decode cX4_size 59 = .ok (.istore 4, 2) := by decide +kernel
theorem dX4_size_61 : decode cX4_size 61 = .ok (.aload_n 0, 1) := by decide +kernel
theorem dX4_size_62 : decode cX4_size 62 = .ok (.iload_n 1, 1) := by decide +kernel
theorem dX4_size_63 : decode cX4_size 63 = .ok (.ifCond .ne 7, 3) := by decide +kernel
theorem dX4_size_66 : decode cX4_size 66 = .ok (.iload_n 2, 1) := by decide +kernel
theorem dX4_size_67 : decode cX4_size 67 = .ok (.goto 7, 3) := by decide +kernel
theorem dX4_size_70 : decode cX4_size 70 = .ok (.aload_n 0, 1) := by decide +kernel
theorem dX4_size_71 : decode cX4_size 71 = .ok (.getfield 42, 3) := by decide +kernel
theorem dX4_size_74 : decode cX4_size 74 = .ok (.putfield 42, 3) := by decide +kernel
theorem dX4_size_77 : decode cX4_size 77 = .ok (.aload_n 0, 1) := by decide +kernel
theorem dX4_size_78 : decode cX4_size 78 = .ok (.iload_n 1, 1) := by decide +kernel
theorem dX4_size_79 : decode cX4_size 79 = .ok (.iconst 1, 1) := by decide +kernel
theorem dX4_size_80 : decode cX4_size 80 = .ok (.if_icmp .ne 7, 3) := by decide +kernel
theorem dX4_size_83 : decode cX4_size 83 = .ok (.iload_n 2, 1) := by decide +kernel
theorem dX4_size_84 : decode cX4_size 84 = .ok (.goto 7, 3) := by decide +kernel
theorem dX4_size_87 : decode cX4_size 87 = .ok (.aload_n 0, 1) := by decide +kernel
theorem dX4_size_88 : decode cX4_size 88 = .ok (.getfield 46, 3) := by decide +kernel
theorem dX4_size_91 : decode cX4_size 91 = .ok (.putfield 46, 3) := by decide +kernel
theorem dX4_size_94 : decode cX4_size 94 = .ok (.aload_n 0, 1) := by decide +kernel
theorem dX4_size_95 : decode cX4_size 95 = .ok (.iconst 0, 1) := by decide +kernel
theorem dX4_size_96 : decode cX4_size 96 = .ok (.putfield 68, 3) := by decide +kernel
theorem dX4_size_99 : decode cX4_size 99 = .ok (.iload 4, 2) := by decide +kernel
theorem dX4_size_101 : decode cX4_size 101 = .ok (.ireturn, 1) := by decide +kernel
theorem dX4_bars_0 : decode cX4_bars 0 = .ok (.aload_n 0, 1) := by decide +kernel
theorem dX4_bars_1 : decode cX4_bars 1 = .ok (.getfield 57, 3) := by decide +kernel
theorem dX4_bars_4 : decode cX4_bars 4 = .ok (.ireturn, 1) := by decide +kernel
theorem dX4_total_0 : decode cX4_total 0 = .ok (.iconst 0, 1) := by decide +kernel
theorem dX4_total_1 : decode cX4_total 1 = .ok (.istore 4, 2) := by decide +kernel
theorem dX4_total_3 : decode cX4_total 3 = .ok (.iload_n 2, 1) := by decide +kernel
theorem dX4_total_4 : decode cX4_total 4 = .ok (.istore 5, 2) := by decide +kernel
theorem dX4_total_6 : decode cX4_total 6 = .ok (.iload 5, 2) := by decide +kernel
theorem dX4_total_8 : decode cX4_total 8 = .ok (.iload_n 3, 1) := by decide +kernel
theorem dX4_total_9 : decode cX4_total 9 = .ok (.if_icmp .gt 18, 3) := by decide +kernel
theorem dX4_total_12 : decode cX4_total 12 = .ok (.iload 4, 2) := by decide +kernel
theorem dX4_total_14 : decode cX4_total 14 = .ok (.aload_n 1, 1) := by decide +kernel
theorem dX4_total_15 : decode cX4_total 15 = .ok (.iload 5, 2) := by decide +kernel
theorem dX4_total_17 : decode cX4_total 17 = .ok (.iaload, 1) := by decide +kernel
theorem dX4_total_18 : decode cX4_total 18 = .ok (.iadd, 1) := by decide +kernel
theorem dX4_total_19 : decode cX4_total 19 = .ok (.istore 4, 2) := by decide +kernel
theorem dX4_total_21 : decode cX4_total 21 = .ok (.iinc 5 1, 3) := by decide +kernel
theorem dX4_total_24 : decode cX4_total 24 = .ok (.goto (-18), 3) := by decide +kernel
theorem dX4_total_27 : decode cX4_total 27 = .ok (.iload 4, 2) := by decide +kernel
theorem dX4_total_29 : decode cX4_total 29 = .ok (.ireturn, 1) := by decide +kernel
set_option maxRecDepth 20000 in
theorem ggX4_mayBe_X4_total : GoodIn wsX4_mayBe wsX4_total := goodIn_r _ [9] rfl (by decide +kernel)
set_option maxRecDepth 20000 in
theorem gX4_mayBe_X4_total : GoodIn wsX4_mayBe (wsV RX4 80 RX4 yX4_total wsX4_total) := goodIn_app (goodIn_of _ (by decide +kernel)) ggX4_mayBe_X4_total
theorem dX4_mayBe_0 : decode cX4_mayBe 0 = .ok (.iload_n 1, 1) := by decide +kernel
theorem dX4_mayBe_1 : decode cX4_mayBe 1 = .ok (.istore_n 3, 1) := by decide +kernel
theorem dX4_mayBe_2 : decode cX4_mayBe 2 = .ok (.iload_n 3, 1) := by decide +kernel
theorem dX4_mayBe_3 : decode cX4_mayBe 3 = .ok (.iload_n 2, 1) := by decide +kernel
theorem dX4_mayBe_4 : decode cX4_mayBe 4 = .ok (.if_icmp .ge 24, 3) := by decide +kernel
theorem dX4_mayBe_7 : decode cX4_mayBe 7 = .ok (.aload_n 0, 1) := by decide +kernel
theorem dX4_mayBe_8 : decode cX4_mayBe 8 = .ok (.getfield 16, 3) := by decide +kernel
theorem dX4_mayBe_11 : decode cX4_mayBe 11 = .ok (.iconst 3, 1) := by decide +kernel
theorem dX4_mayBe_12 : decode cX4_mayBe 12 = .ok (.iload_n 3, 1) := by decide +kernel
theorem dX4_mayBe_13 : decode cX4_mayBe 13 = .ok (.imul, 1) := by decide +kernel
theorem dX4_mayBe_14 : decode cX4_mayBe 14 = .ok (.iconst 0, 1) := by decide +kernel
theorem dX4_mayBe_15 : decode cX4_mayBe 15 = .ok (.iadd, 1) := by decide +kernel
theorem dX4_mayBe_16 : decode cX4_mayBe 16 = .ok (.baload, 1) := by decide +kernel
theorem dX4_mayBe_17 : decode cX4_mayBe 17 = .ok (.ifCond .eq 5, 3) := by decide +kernel
theorem dX4_mayBe_20 : decode cX4_mayBe 20 = .ok (.iconst 0, 1) := by decide +kernel
theorem dX4_mayBe_21 : decode cX4_mayBe 21 = .ok (.ireturn, 1) := by decide +kernel
theorem dX4_mayBe_22 : decode cX4_mayBe 22 = .ok (.iinc 3 1, 3) := by decide +kernel
theorem dX4_mayBe_25 : decode cX4_mayBe 25 = .ok (.goto (-23), 3) := by decide +kernel
theorem dX4_mayBe_28 : decode cX4_mayBe 28 = .ok (.aload_n 0, 1) := by decide +kernel
theorem dX4_mayBe_29 : decode cX4_mayBe 29 = .ok (.getfield 16, 3) := by decide +kernel
theorem dX4_mayBe_32 : decode cX4_mayBe 32 = .ok (.iconst 3, 1) := by decide +kernel
theorem dX4_mayBe_33 : decode cX4_mayBe 33 = .ok (.iload_n 2, 1) := by decide +kernel
theorem dX4_mayBe_34 : decode cX4_mayBe 34 = .ok (.imul, 1) := by decide +kernel
theorem dX4_mayBe_35 : decode cX4_mayBe 35 = .ok (.iconst 1, 1) := by decide +kernel
theorem dX4_mayBe_36 : decode cX4_mayBe 36 = .ok (.iadd, 1) := by decide +kernel
theorem dX4_mayBe_37 : decode cX4_mayBe 37 = .ok (.baload, 1) := by decide +kernel
theorem dX4_mayBe_38 : decode cX4_mayBe 38 = .ok (.ifCond .eq 26, 3) := by decide +kernel
theorem dX4_mayBe_41 : decode cX4_mayBe 41 = .ok (.aload_n 0, 1) := by decide +kernel
theorem dX4_mayBe_42 : decode cX4_mayBe 42 = .ok (.getfield 16, 3) := by decide +kernel
theorem dX4_mayBe_45 : decode cX4_mayBe 45 = .ok (.iconst 3, 1) := by decide +kernel
theorem dX4_mayBe_46 : decode cX4_mayBe 46 = .ok (.iload_n 2, 1) := by decide +kernel
theorem dX4_mayBe_47 : decode cX4_mayBe 47 = .ok (.imul, 1) := by decide +kernel
theorem dX4_mayBe_48 : decode cX4_mayBe 48 = .ok (.iconst 0, 1) := by decide +kernel
theorem dX4_mayBe_49 : decode cX4_mayBe 49 = .ok (.iadd, 1) := by decide +kernel
theorem dX4_mayBe_50 : decode cX4_mayBe 50 = .ok (.baload, 1) := by decide +kernel
theorem dX4_mayBe_51 : decode cX4_mayBe 51 = .ok (.ifCond .ne 13, 3) := by decide +kernel
theorem dX4_mayBe_54 : decode cX4_mayBe 54 = .ok (.iload_n 2, 1) := by decide +kernel
theorem dX4_mayBe_55 : decode cX4_mayBe 55 = .ok (.aload_n 0, 1) := by decide +kernel
theorem dX4_mayBe_56 : decode cX4_mayBe 56 = .ok (.getfield 57, 3) := by decide +kernel
theorem dX4_mayBe_59 : decode cX4_mayBe 59 = .ok (.iconst 1, 1) := by decide +kernel
theorem dX4_mayBe_60 : decode cX4_mayBe 60 = .ok (.isub, 1) := by decide +kernel
theorem dX4_mayBe_61 : decode cX4_mayBe 61 = .ok (.if_icmp .ne 7, 3) := by decide +kernel
theorem dX4_mayBe_64 : decode cX4_mayBe 64 = .ok (.iconst 1, 1) := by decide +kernel
theorem dX4_mayBe_65 : decode cX4_mayBe 65 = .ok (.goto 4, 3) := by decide +kernel
theorem dX4_mayBe_68 : decode cX4_mayBe 68 = .ok (.iconst 0, 1) := by decide +kernel
theorem dX4_mayBe_69 : decode cX4_mayBe 69 = .ok (.istore_n 3, 1) := by decide +kernel
theorem dX4_mayBe_70 : decode cX4_mayBe 70 = .ok (.iload_n 3, 1) := by decide +kernel
theorem dX4_mayBe_71 : decode cX4_mayBe 71 = .ok (.ifCond .eq 29, 3) := by decide +kernel
theorem dX4_mayBe_74 : decode cX4_mayBe 74 = .ok (.iload_n 1, 1) := by decide +kernel
theorem dX4_mayBe_75 : decode cX4_mayBe 75 = .ok (.iload_n 2, 1) := by decide +kernel
theorem dX4_mayBe_76 : decode cX4_mayBe 76 = .ok (.if_icmp .eq 20, 3) := by decide +kernel
theorem dX4_mayBe_79 : decode cX4_mayBe 79 = .ok (.aload_n 0, 1) := by decide +kernel
theorem dX4_mayBe_80 : decode cX4_mayBe 80 = .ok (.aload_n 0, 1) := by decide +kernel
theorem dX4_mayBe_81 : decode cX4_mayBe 81 = .ok (.getfield 7, 3) := by decide +kernel
theorem dX4_mayBe_84 : decode cX4_mayBe 84 = .ok (.iload_n 1, 1) := by decide +kernel
theorem dX4_mayBe_85 : decode cX4_mayBe 85 = .ok (.iload_n 2, 1) := by decide +kernel
theorem dX4_mayBe_86 : decode cX4_mayBe 86 = .ok (.invokevirtual 80, 3) := by decide +kernel
theorem dX4_mayBe_89 : decode cX4_mayBe 89 = .ok (.aload_n 0, 1) := by decide +kernel
theorem dX4_mayBe_90 : decode cX4_mayBe 90 = .ok (.getfield 42, 3) := by decide +kernel
theorem dX4_mayBe_93 : decode cX4_mayBe 93 = .ok (.if_icmp .gt 7, 3) := by decide +kernel
theorem dX4_mayBe_96 : decode cX4_mayBe 96 = .ok (.iconst 1, 1) := by decide +kernel
theorem dX4_mayBe_97 : decode cX4_mayBe 97 = .ok (.goto 4, 3) := by decide +kernel
theorem dX4_mayBe_100 : decode cX4_mayBe 100 = .ok (.iconst 0, 1) := by decide +kernel
theorem dX4_mayBe_101 : decode cX4_mayBe 101 = .ok (.ireturn, 1) := by decide +kernel
set_option maxRecDepth 20000 in
theorem ggX4_off_X4_total : GoodIn wsX4_off wsX4_total := goodIn_r _ [7] rfl (by decide +kernel)
set_option maxRecDepth 20000 in
theorem gX4_off_X4_total : GoodIn wsX4_off (wsV RX4 80 RX4 yX4_total wsX4_total) := goodIn_app (goodIn_of _ (by decide +kernel)) ggX4_off_X4_total
theorem dX4_off_0 : decode cX4_off 0 = .ok (.aload_n 0, 1) := by decide +kernel
theorem dX4_off_1 : decode cX4_off 1 = .ok (.getfield 42, 3) := by decide +kernel
theorem dX4_off_4 : decode cX4_off 4 = .ok (.aload_n 0, 1) := by decide +kernel
theorem dX4_off_5 : decode cX4_off 5 = .ok (.aload_n 0, 1) := by decide +kernel
theorem dX4_off_6 : decode cX4_off 6 = .ok (.getfield 13, 3) := by decide +kernel
theorem dX4_off_9 : decode cX4_off 9 = .ok (.iload_n 1, 1) := by decide +kernel
theorem dX4_off_10 : decode cX4_off 10 = .ok (.iload_n 2, 1) := by decide +kernel
theorem dX4_off_11 : decode cX4_off 11 = .ok (.invokevirtual 80, 3) := by decide +kernel
theorem dX4_off_14 : decode cX4_off 14 = .ok (.isub, 1) := by decide +kernel
theorem dX4_off_15 : decode cX4_off 15 = .ok (.ireturn, 1) := by decide +kernel
set_option maxRecDepth 20000 in
theorem ggX4_isOver_X4_total : GoodIn wsX4_isOver wsX4_total := goodIn_r _ [7] rfl (by decide +kernel)
set_option maxRecDepth 20000 in
theorem gX4_isOver_X4_total : GoodIn wsX4_isOver (wsV RX4 80 RX4 yX4_total wsX4_total) := goodIn_app (goodIn_of _ (by decide +kernel)) ggX4_isOver_X4_total
theorem dX4_isOver_0 : decode cX4_isOver 0 = .ok (.aload_n 0, 1) := by decide +kernel
theorem dX4_isOver_1 : decode cX4_isOver 1 = .ok (.aload_n 0, 1) := by decide +kernel
theorem dX4_isOver_2 : decode cX4_isOver 2 = .ok (.getfield 7, 3) := by decide +kernel
theorem dX4_isOver_5 : decode cX4_isOver 5 = .ok (.iload_n 1, 1) := by decide +kernel
theorem dX4_isOver_6 : decode cX4_isOver 6 = .ok (.iload_n 2, 1) := by decide +kernel
theorem dX4_isOver_7 : decode cX4_isOver 7 = .ok (.invokevirtual 80, 3) := by decide +kernel
theorem dX4_isOver_10 : decode cX4_isOver 10 = .ok (.aload_n 0, 1) := by decide +kernel
theorem dX4_isOver_11 : decode cX4_isOver 11 = .ok (.getfield 42, 3) := by decide +kernel
theorem dX4_isOver_14 : decode cX4_isOver 14 = .ok (.if_icmp .le 7, 3) := by decide +kernel
theorem dX4_isOver_17 : decode cX4_isOver 17 = .ok (.iconst 1, 1) := by decide +kernel
theorem dX4_isOver_18 : decode cX4_isOver 18 = .ok (.goto 4, 3) := by decide +kernel
theorem dX4_isOver_21 : decode cX4_isOver 21 = .ok (.iconst 0, 1) := by decide +kernel
theorem dX4_isOver_22 : decode cX4_isOver 22 = .ok (.ireturn, 1) := by decide +kernel
set_option maxRecDepth 20000 in
theorem ggX4_costOf_X4_off : GoodIn wsX4_costOf wsX4_off := goodIn_r _ [7, 8, 9, 10, 11, 12, 6, 13, 19, 20, 21, 22, 23, 24, 25, 26, 27, 28, 29, 30, 31, 32, 33, 34, 35, 36] rfl (by decide +kernel)
set_option maxRecDepth 20000 in
theorem gX4_costOf_X4_off : GoodIn wsX4_costOf (wsV RX4 84 RX4 yX4_off wsX4_off) := goodIn_app (goodIn_of _ (by decide +kernel)) ggX4_costOf_X4_off
set_option maxRecDepth 20000 in
theorem ggX4_costOf_X4_isOver : GoodIn wsX4_costOf wsX4_isOver := goodIn_r _ [17, 18, 8, 10, 11, 12, 6, 13, 19, 20, 21, 22, 23, 24, 25, 26, 27, 28, 29, 30, 31, 32, 33, 34, 35, 36] rfl (by decide +kernel)
set_option maxRecDepth 20000 in
theorem gX4_costOf_X4_isOver : GoodIn wsX4_costOf (wsV RX4 88 RX4 yX4_isOver wsX4_isOver) := goodIn_app (goodIn_of _ (by decide +kernel)) ggX4_costOf_X4_isOver
theorem dX4_costOf_0 : decode cX4_costOf 0 = .ok (.aload_n 0, 1) := by decide +kernel
theorem dX4_costOf_1 : decode cX4_costOf 1 = .ok (.iload_n 1, 1) := by decide +kernel
theorem dX4_costOf_2 : decode cX4_costOf 2 = .ok (.iload_n 2, 1) := by decide +kernel
theorem dX4_costOf_3 : decode cX4_costOf 3 = .ok (.invokevirtual 84, 3) := by decide +kernel
theorem dX4_costOf_6 : decode cX4_costOf 6 = .ok (.i2l, 1) := by decide +kernel
theorem dX4_costOf_7 : decode cX4_costOf 7 = .ok (.lstore_n 3, 1) := by decide +kernel
theorem dX4_costOf_8 : decode cX4_costOf 8 = .ok (.aload_n 0, 1) := by decide +kernel
theorem dX4_costOf_9 : decode cX4_costOf 9 = .ok (.iload_n 1, 1) := by decide +kernel
theorem dX4_costOf_10 : decode cX4_costOf 10 = .ok (.iload_n 2, 1) := by decide +kernel
theorem dX4_costOf_11 : decode cX4_costOf 11 = .ok (.invokevirtual 88, 3) := by decide +kernel
theorem dX4_costOf_14 : decode cX4_costOf 14 = .ok (.ifCond .eq 10, 3) := by decide +kernel
theorem dX4_costOf_17 : decode cX4_costOf 17 = .ok (.aload_n 0, 1) := by decide +kernel
theorem dX4_costOf_18 : decode cX4_costOf 18 = .ok (.getfield 20, 3) := by decide +kernel
theorem dX4_costOf_21 : decode cX4_costOf 21 = .ok (.iconst 3, 1) := by decide +kernel
theorem dX4_costOf_22 : decode cX4_costOf 22 = .ok (.laload, 1) := by decide +kernel
theorem dX4_costOf_23 : decode cX4_costOf 23 = .ok (.lreturn, 1) := by decide +kernel
theorem dX4_costOf_24 : decode cX4_costOf 24 = .ok (.lload_n 3, 1) := by decide +kernel
theorem dX4_costOf_25 : decode cX4_costOf 25 = .ok (.lconst 0, 1) := by decide +kernel
theorem dX4_costOf_26 : decode cX4_costOf 26 = .ok (.lcmp, 1) := by decide +kernel
theorem dX4_costOf_27 : decode cX4_costOf 27 = .ok (.ifCond .ge 16, 3) := by decide +kernel
theorem dX4_costOf_30 : decode cX4_costOf 30 = .ok (.aload_n 0, 1) := by decide +kernel
theorem dX4_costOf_31 : decode cX4_costOf 31 = .ok (.getfield 20, 3) := by decide +kernel
theorem dX4_costOf_34 : decode cX4_costOf 34 = .ok (.iconst 0, 1) := by decide +kernel
theorem dX4_costOf_35 : decode cX4_costOf 35 = .ok (.laload, 1) := by decide +kernel
theorem dX4_costOf_36 : decode cX4_costOf 36 = .ok (.lload_n 3, 1) := by decide +kernel
theorem dX4_costOf_37 : decode cX4_costOf 37 = .ok (.lmul, 1) := by decide +kernel
theorem dX4_costOf_38 : decode cX4_costOf 38 = .ok (.lload_n 3, 1) := by decide +kernel
theorem dX4_costOf_39 : decode cX4_costOf 39 = .ok (.lmul, 1) := by decide +kernel
theorem dX4_costOf_40 : decode cX4_costOf 40 = .ok (.goto 27, 3) := by decide +kernel
theorem dX4_costOf_43 : decode cX4_costOf 43 = .ok (.iload_n 2, 1) := by decide +kernel
theorem dX4_costOf_44 : decode cX4_costOf 44 = .ok (.aload_n 0, 1) := by decide +kernel
theorem dX4_costOf_45 : decode cX4_costOf 45 = .ok (.getfield 57, 3) := by decide +kernel
theorem dX4_costOf_48 : decode cX4_costOf 48 = .ok (.iconst 1, 1) := by decide +kernel
theorem dX4_costOf_49 : decode cX4_costOf 49 = .ok (.isub, 1) := by decide +kernel
theorem dX4_costOf_50 : decode cX4_costOf 50 = .ok (.if_icmp .ne 7, 3) := by decide +kernel
theorem dX4_costOf_53 : decode cX4_costOf 53 = .ok (.lconst 0, 1) := by decide +kernel
theorem dX4_costOf_54 : decode cX4_costOf 54 = .ok (.goto 13, 3) := by decide +kernel
theorem dX4_costOf_57 : decode cX4_costOf 57 = .ok (.aload_n 0, 1) := by decide +kernel
theorem dX4_costOf_58 : decode cX4_costOf 58 = .ok (.getfield 20, 3) := by decide +kernel
theorem dX4_costOf_61 : decode cX4_costOf 61 = .ok (.iconst 4, 1) := by decide +kernel
theorem dX4_costOf_62 : decode cX4_costOf 62 = .ok (.laload, 1) := by decide +kernel
theorem dX4_costOf_63 : decode cX4_costOf 63 = .ok (.lload_n 3, 1) := by decide +kernel
theorem dX4_costOf_64 : decode cX4_costOf 64 = .ok (.lmul, 1) := by decide +kernel
theorem dX4_costOf_65 : decode cX4_costOf 65 = .ok (.lload_n 3, 1) := by decide +kernel
theorem dX4_costOf_66 : decode cX4_costOf 66 = .ok (.lmul, 1) := by decide +kernel
theorem dX4_costOf_67 : decode cX4_costOf 67 = .ok (.lreturn, 1) := by decide +kernel
theorem dX4_place_0 : decode cX4_place 0 = .ok (.iload_n 0, 1) := by decide +kernel
theorem dX4_place_1 : decode cX4_place 1 = .ok (.bipush 9, 2) := by decide +kernel
theorem dX4_place_3 : decode cX4_place 3 = .ok (.imul, 1) := by decide +kernel
theorem dX4_place_4 : decode cX4_place 4 = .ok (.iload_n 1, 1) := by decide +kernel
theorem dX4_place_5 : decode cX4_place 5 = .ok (.iadd, 1) := by decide +kernel
theorem dX4_place_6 : decode cX4_place 6 = .ok (.bipush 25, 2) := by decide +kernel
theorem dX4_place_8 : decode cX4_place 8 = .ok (.imul, 1) := by decide +kernel
theorem dX4_place_9 : decode cX4_place 9 = .ok (.iload_n 2, 1) := by decide +kernel
theorem dX4_place_10 : decode cX4_place 10 = .ok (.iadd, 1) := by decide +kernel
theorem dX4_place_11 : decode cX4_place 11 = .ok (.iconst 2, 1) := by decide +kernel
theorem dX4_place_12 : decode cX4_place 12 = .ok (.imul, 1) := by decide +kernel
theorem dX4_place_13 : decode cX4_place 13 = .ok (.iload_n 3, 1) := by decide +kernel
theorem dX4_place_14 : decode cX4_place 14 = .ok (.ifCond .eq 7, 3) := by decide +kernel
theorem dX4_place_17 : decode cX4_place 17 = .ok (.iconst 1, 1) := by decide +kernel
theorem dX4_place_18 : decode cX4_place 18 = .ok (.goto 4, 3) := by decide +kernel
theorem dX4_place_21 : decode cX4_place 21 = .ok (.iconst 0, 1) := by decide +kernel
theorem dX4_place_22 : decode cX4_place 22 = .ok (.iadd, 1) := by decide +kernel
theorem dX4_place_23 : decode cX4_place 23 = .ok (.ireturn, 1) := by decide +kernel
theorem dX4_turnAt_0 : decode cX4_turnAt 0 = .ok (.aload_n 0, 1) := by decide +kernel
theorem dX4_turnAt_1 : decode cX4_turnAt 1 = .ok (.getfield 16, 3) := by decide +kernel
theorem dX4_turnAt_4 : decode cX4_turnAt 4 = .ok (.iconst 3, 1) := by decide +kernel
theorem dX4_turnAt_5 : decode cX4_turnAt 5 = .ok (.iload_n 1, 1) := by decide +kernel
theorem dX4_turnAt_6 : decode cX4_turnAt 6 = .ok (.iconst 1, 1) := by decide +kernel
theorem dX4_turnAt_7 : decode cX4_turnAt 7 = .ok (.isub, 1) := by decide +kernel
theorem dX4_turnAt_8 : decode cX4_turnAt 8 = .ok (.imul, 1) := by decide +kernel
theorem dX4_turnAt_9 : decode cX4_turnAt 9 = .ok (.iconst 2, 1) := by decide +kernel
theorem dX4_turnAt_10 : decode cX4_turnAt 10 = .ok (.iadd, 1) := by decide +kernel
theorem dX4_turnAt_11 : decode cX4_turnAt 11 = .ok (.baload, 1) := by decide +kernel
theorem dX4_turnAt_12 : decode cX4_turnAt 12 = .ok (.ifCond .eq 7, 3) := by decide +kernel
theorem dX4_turnAt_15 : decode cX4_turnAt 15 = .ok (.lconst 0, 1) := by decide +kernel
theorem dX4_turnAt_16 : decode cX4_turnAt 16 = .ok (.goto 9, 3) := by decide +kernel
theorem dX4_turnAt_19 : decode cX4_turnAt 19 = .ok (.aload_n 0, 1) := by decide +kernel
theorem dX4_turnAt_20 : decode cX4_turnAt 20 = .ok (.getfield 20, 3) := by decide +kernel
theorem dX4_turnAt_23 : decode cX4_turnAt 23 = .ok (.iconst 1, 1) := by decide +kernel
theorem dX4_turnAt_24 : decode cX4_turnAt 24 = .ok (.laload, 1) := by decide +kernel
theorem dX4_turnAt_25 : decode cX4_turnAt 25 = .ok (.lreturn, 1) := by decide +kernel
set_option maxRecDepth 20000 in
theorem ggX4_restOf_X4_mayBe : GoodIn wsX4_restOf wsX4_mayBe := goodIn_r _ [13, 14, 1, 15, 16, 17, 18, 19, 12, 20, 41, 42, 43, 44, 45, 46, 47, 48, 49, 50, 51, 52, 53, 54, 55, 56, 57, 58] rfl (by decide +kernel)
set_option maxRecDepth 20000 in
theorem gX4_restOf_X4_mayBe : GoodIn wsX4_restOf (wsV RX4 95 RX4 yX4_mayBe wsX4_mayBe) := goodIn_app (goodIn_of _ (by decide +kernel)) ggX4_restOf_X4_mayBe
set_option maxRecDepth 20000 in
theorem ggX4_restOf_X4_costOf : GoodIn wsX4_restOf wsX4_costOf := goodIn_r _ [24, 5, 1, 25, 26, 27, 12, 28, 16, 29, 17, 18, 19, 20, 30, 31, 32, 33, 15, 41, 42, 43, 44, 45, 46, 47, 48, 49, 50, 51, 52, 53, 54, 55, 56, 57, 58] rfl (by decide +kernel)
set_option maxRecDepth 20000 in
theorem gX4_restOf_X4_costOf : GoodIn wsX4_restOf (wsV RX4 98 RX4 yX4_costOf wsX4_costOf) := goodIn_app (goodIn_of _ (by decide +kernel)) ggX4_restOf_X4_costOf
set_option maxRecDepth 20000 in
theorem ggX4_restOf_X4_place : GoodIn wsX4_restOf wsX4_place := goodIn_r _ [36] rfl (by decide +kernel)
set_option maxRecDepth 20000 in
theorem gX4_restOf_X4_place : GoodIn wsX4_restOf (va_wsS RX4 102 yX4_place wsX4_place) := goodIn_app (goodIn_of _ (by decide +kernel)) ggX4_restOf_X4_place
set_option maxRecDepth 20000 in
theorem ggX4_restOf_X4_turnAt : GoodIn wsX4_restOf wsX4_turnAt := goodIn_r _ [40, 14, 5, 41, 42, 43, 44, 45, 46, 47, 48, 49, 50, 51, 52, 53, 54, 55, 56, 57, 58] rfl (by decide +kernel)
set_option maxRecDepth 20000 in
theorem gX4_restOf_X4_turnAt : GoodIn wsX4_restOf (wsV RX4 106 RX4 yX4_turnAt wsX4_turnAt) := goodIn_app (goodIn_of _ (by decide +kernel)) ggX4_restOf_X4_turnAt
theorem dX4_restOf_0 : decode cX4_restOf 0 = .ok (.iload_n 1, 1) := by decide +kernel
theorem dX4_restOf_1 : decode cX4_restOf 1 = .ok (.aload_n 0, 1) := by decide +kernel
theorem dX4_restOf_2 : decode cX4_restOf 2 = .ok (.getfield 57, 3) := by decide +kernel
theorem dX4_restOf_5 : decode cX4_restOf 5 = .ok (.if_icmp .ne 61, 3) := by decide +kernel
theorem dX4_restOf_8 : decode cX4_restOf 8 = .ok (.aload_n 0, 1) := by decide +kernel
theorem dX4_restOf_9 : decode cX4_restOf 9 = .ok (.getfield 77, 3) := by decide +kernel
theorem dX4_restOf_12 : decode cX4_restOf 12 = .ok (.ifCond .eq 11, 3) := by decide +kernel
theorem dX4_restOf_15 : decode cX4_restOf 15 = .ok (.iload_n 3, 1) := by decide +kernel
theorem dX4_restOf_16 : decode cX4_restOf 16 = .ok (.aload_n 0, 1) := by decide +kernel
theorem dX4_restOf_17 : decode cX4_restOf 17 = .ok (.getfield 77, 3) := by decide +kernel
theorem dX4_restOf_20 : decode cX4_restOf 20 = .ok (.if_icmp .ne 7, 3) := by decide +kernel
theorem dX4_restOf_23 : decode cX4_restOf 23 = .ok (.iconst 1, 1) := by decide +kernel
theorem dX4_restOf_24 : decode cX4_restOf 24 = .ok (.goto 4, 3) := by decide +kernel
theorem dX4_restOf_27 : decode cX4_restOf 27 = .ok (.iconst 0, 1) := by decide +kernel
theorem dX4_restOf_28 : decode cX4_restOf 28 = .ok (.istore 5, 2) := by decide +kernel
theorem dX4_restOf_30 : decode cX4_restOf 30 = .ok (.iload 5, 2) := by decide +kernel
theorem dX4_restOf_32 : decode cX4_restOf 32 = .ok (.ifCond .ne 9, 3) := by decide +kernel
theorem dX4_restOf_35 : decode cX4_restOf 35 = .ok (.ldc2_w 91, 3) := by decide +kernel
theorem dX4_restOf_38 : decode cX4_restOf 38 = .ok (.goto 27, 3) := by decide +kernel
theorem dX4_restOf_41 : decode cX4_restOf 41 = .ok (.iload_n 2, 1) := by decide +kernel
theorem dX4_restOf_42 : decode cX4_restOf 42 = .ok (.iconst 1, 1) := by decide +kernel
theorem dX4_restOf_43 : decode cX4_restOf 43 = .ok (.if_icmp .ne 21, 3) := by decide +kernel
theorem dX4_restOf_46 : decode cX4_restOf 46 = .ok (.iload 4, 2) := by decide +kernel
theorem dX4_restOf_48 : decode cX4_restOf 48 = .ok (.ifCond .ne 16, 3) := by decide +kernel
theorem dX4_restOf_51 : decode cX4_restOf 51 = .ok (.ldc2_w 93, 3) := by decide +kernel
theorem dX4_restOf_54 : decode cX4_restOf 54 = .ok (.aload_n 0, 1) := by decide +kernel
theorem dX4_restOf_55 : decode cX4_restOf 55 = .ok (.getfield 20, 3) := by decide +kernel
theorem dX4_restOf_58 : decode cX4_restOf 58 = .ok (.iconst 2, 1) := by decide +kernel
theorem dX4_restOf_59 : decode cX4_restOf 59 = .ok (.laload, 1) := by decide +kernel
theorem dX4_restOf_60 : decode cX4_restOf 60 = .ok (.lmul, 1) := by decide +kernel
theorem dX4_restOf_61 : decode cX4_restOf 61 = .ok (.goto 4, 3) := by decide +kernel
theorem dX4_restOf_64 : decode cX4_restOf 64 = .ok (.lconst 0, 1) := by decide +kernel
theorem dX4_restOf_65 : decode cX4_restOf 65 = .ok (.lreturn, 1) := by decide +kernel
theorem dX4_restOf_66 : decode cX4_restOf 66 = .ok (.ldc2_w 91, 3) := by decide +kernel
theorem dX4_restOf_69 : decode cX4_restOf 69 = .ok (.lstore 5, 2) := by decide +kernel
theorem dX4_restOf_71 : decode cX4_restOf 71 = .ok (.aload_n 0, 1) := by decide +kernel
theorem dX4_restOf_72 : decode cX4_restOf 72 = .ok (.getfield 77, 3) := by decide +kernel
theorem dX4_restOf_75 : decode cX4_restOf 75 = .ok (.ifCond .ne 7, 3) := by decide +kernel
theorem dX4_restOf_78 : decode cX4_restOf 78 = .ok (.iconst 0, 1) := by decide +kernel
theorem dX4_restOf_79 : decode cX4_restOf 79 = .ok (.goto 6, 3) := by decide +kernel
theorem dX4_restOf_82 : decode cX4_restOf 82 = .ok (.iload_n 3, 1) := by decide +kernel
theorem dX4_restOf_83 : decode cX4_restOf 83 = .ok (.iconst 1, 1) := by decide +kernel
theorem dX4_restOf_84 : decode cX4_restOf 84 = .ok (.iadd, 1) := by decide +kernel
theorem dX4_restOf_85 : decode cX4_restOf 85 = .ok (.istore 7, 2) := by decide +kernel
theorem dX4_restOf_87 : decode cX4_restOf 87 = .ok (.iload_n 1, 1) := by decide +kernel
theorem dX4_restOf_88 : decode cX4_restOf 88 = .ok (.istore 8, 2) := by decide +kernel
theorem dX4_restOf_90 : decode cX4_restOf 90 = .ok (.iload 8, 2) := by decide +kernel
theorem dX4_restOf_92 : decode cX4_restOf 92 = .ok (.aload_n 0, 1) := by decide +kernel
theorem dX4_restOf_93 : decode cX4_restOf 93 = .ok (.getfield 57, 3) := by decide +kernel
theorem dX4_restOf_96 : decode cX4_restOf 96 = .ok (.if_icmp .ge 176, 3) := by decide +kernel
theorem dX4_restOf_99 : decode cX4_restOf 99 = .ok (.iload 7, 2) := by decide +kernel
theorem dX4_restOf_101 : decode cX4_restOf 101 = .ok (.bipush 25, 2) := by decide +kernel
theorem dX4_restOf_103 : decode cX4_restOf 103 = .ok (.if_icmp .ge 169, 3) := by decide +kernel
theorem dX4_restOf_106 : decode cX4_restOf 106 = .ok (.aload_n 0, 1) := by decide +kernel
theorem dX4_restOf_107 : decode cX4_restOf 107 = .ok (.iload_n 1, 1) := by decide +kernel
theorem dX4_restOf_108 : decode cX4_restOf 108 = .ok (.iload 8, 2) := by decide +kernel
theorem dX4_restOf_110 : decode cX4_restOf 110 = .ok (.invokevirtual 95, 3) := by decide +kernel
theorem dX4_restOf_113 : decode cX4_restOf 113 = .ok (.ifCond .eq 153, 3) := by decide +kernel
theorem dX4_restOf_116 : decode cX4_restOf 116 = .ok (.ldc2_w 93, 3) := by decide +kernel
theorem dX4_restOf_119 : decode cX4_restOf 119 = .ok (.aload_n 0, 1) := by decide +kernel
theorem dX4_restOf_120 : decode cX4_restOf 120 = .ok (.iload_n 1, 1) := by decide +kernel
theorem dX4_restOf_121 : decode cX4_restOf 121 = .ok (.iload 8, 2) := by decide +kernel
theorem dX4_restOf_123 : decode cX4_restOf 123 = .ok (.invokevirtual 98, 3) := by decide +kernel
theorem dX4_restOf_126 : decode cX4_restOf 126 = .ok (.lmul, 1) := by decide +kernel
theorem dX4_restOf_127 : decode cX4_restOf 127 = .ok (.lconst 1, 1) := by decide +kernel
theorem dX4_restOf_128 : decode cX4_restOf 128 = .ok (.ladd, 1) := by decide +kernel
theorem dX4_restOf_129 : decode cX4_restOf 129 = .ok (.lstore 9, 2) := by decide +kernel
theorem dX4_restOf_131 : decode cX4_restOf 131 = .ok (.iload_n 2, 1) := by decide +kernel
theorem dX4_restOf_132 : decode cX4_restOf 132 = .ok (.aload_n 0, 1) := by decide +kernel
theorem dX4_restOf_133 : decode cX4_restOf 133 = .ok (.getfield 46, 3) := by decide +kernel
theorem dX4_restOf_136 : decode cX4_restOf 136 = .ok (.if_icmp .ge 25, 3) := by decide +kernel
theorem dX4_restOf_139 : decode cX4_restOf 139 = .ok (.aload_n 0, 1) := by decide +kernel
theorem dX4_restOf_140 : decode cX4_restOf 140 = .ok (.getfield 24, 3) := by decide +kernel
theorem dX4_restOf_143 : decode cX4_restOf 143 = .ok (.iload 8, 2) := by decide +kernel
theorem dX4_restOf_145 : decode cX4_restOf 145 = .ok (.iconst 1, 1) := by decide +kernel
theorem dX4_restOf_146 : decode cX4_restOf 146 = .ok (.iadd, 1) := by decide +kernel
theorem dX4_restOf_147 : decode cX4_restOf 147 = .ok (.iload_n 2, 1) := by decide +kernel
theorem dX4_restOf_148 : decode cX4_restOf 148 = .ok (.iconst 1, 1) := by decide +kernel
theorem dX4_restOf_149 : decode cX4_restOf 149 = .ok (.iadd, 1) := by decide +kernel
theorem dX4_restOf_150 : decode cX4_restOf 150 = .ok (.iload 7, 2) := by decide +kernel
theorem dX4_restOf_152 : decode cX4_restOf 152 = .ok (.iload 4, 2) := by decide +kernel
theorem dX4_restOf_154 : decode cX4_restOf 154 = .ok (.invokestatic 102, 3) := by decide +kernel
theorem dX4_restOf_157 : decode cX4_restOf 157 = .ok (.laload, 1) := by decide +kernel
theorem dX4_restOf_158 : decode cX4_restOf 158 = .ok (.goto 6, 3) := by decide +kernel
theorem dX4_restOf_161 : decode cX4_restOf 161 = .ok (.ldc2_w 91, 3) := by decide +kernel
theorem dX4_restOf_164 : decode cX4_restOf 164 = .ok (.lstore 11, 2) := by decide +kernel
theorem dX4_restOf_166 : decode cX4_restOf 166 = .ok (.aload_n 0, 1) := by decide +kernel
theorem dX4_restOf_167 : decode cX4_restOf 167 = .ok (.getfield 24, 3) := by decide +kernel
theorem dX4_restOf_170 : decode cX4_restOf 170 = .ok (.iload 8, 2) := by decide +kernel
theorem dX4_restOf_172 : decode cX4_restOf 172 = .ok (.iconst 1, 1) := by decide +kernel
theorem dX4_restOf_173 : decode cX4_restOf 173 = .ok (.iadd, 1) := by decide +kernel
theorem dX4_restOf_174 : decode cX4_restOf 174 = .ok (.iconst 1, 1) := by decide +kernel
theorem dX4_restOf_175 : decode cX4_restOf 175 = .ok (.iload 7, 2) := by decide +kernel
theorem dX4_restOf_177 : decode cX4_restOf 177 = .ok (.iconst 0, 1) := by decide +kernel
theorem dX4_restOf_178 : decode cX4_restOf 178 = .ok (.invokestatic 102, 3) := by decide +kernel
theorem dX4_restOf_181 : decode cX4_restOf 181 = .ok (.laload, 1) := by decide +kernel
theorem dX4_restOf_182 : decode cX4_restOf 182 = .ok (.lstore 13, 2) := by decide +kernel
theorem dX4_restOf_184 : decode cX4_restOf 184 = .ok (.lload 13, 2) := by decide +kernel
theorem dX4_restOf_186 : decode cX4_restOf 186 = .ok (.ldc2_w 91, 3) := by decide +kernel
theorem dX4_restOf_189 : decode cX4_restOf 189 = .ok (.lcmp, 1) := by decide +kernel
theorem dX4_restOf_190 : decode cX4_restOf 190 = .ok (.ifCond .ne 9, 3) := by decide +kernel
theorem dX4_restOf_193 : decode cX4_restOf 193 = .ok (.ldc2_w 91, 3) := by decide +kernel
theorem dX4_restOf_196 : decode cX4_restOf 196 = .ok (.goto 19, 3) := by decide +kernel
theorem dX4_restOf_199 : decode cX4_restOf 199 = .ok (.lload 13, 2) := by decide +kernel
theorem dX4_restOf_201 : decode cX4_restOf 201 = .ok (.ldc2_w 93, 3) := by decide +kernel
theorem dX4_restOf_204 : decode cX4_restOf 204 = .ok (.aload_n 0, 1) := by decide +kernel
theorem dX4_restOf_205 : decode cX4_restOf 205 = .ok (.iload_n 1, 1) := by decide +kernel
theorem dX4_restOf_206 : decode cX4_restOf 206 = .ok (.invokevirtual 106, 3) := by decide +kernel
theorem dX4_restOf_209 : decode cX4_restOf 209 = .ok (.lmul, 1) := by decide +kernel
theorem dX4_restOf_210 : decode cX4_restOf 210 = .ok (.ladd, 1) := by decide +kernel
theorem dX4_restOf_211 : decode cX4_restOf 211 = .ok (.ldc2_w 110, 3) := by decide +kernel
theorem dX4_restOf_214 : decode cX4_restOf 214 = .ok (.ladd, 1) := by decide +kernel
theorem dX4_restOf_215 : decode cX4_restOf 215 = .ok (.lstore 13, 2) := by decide +kernel
theorem dX4_restOf_217 : decode cX4_restOf 217 = .ok (.lload 11, 2) := by decide +kernel
theorem dX4_restOf_219 : decode cX4_restOf 219 = .ok (.lload 13, 2) := by decide +kernel
theorem dX4_restOf_221 : decode cX4_restOf 221 = .ok (.lcmp, 1) := by decide +kernel
theorem dX4_restOf_222 : decode cX4_restOf 222 = .ok (.ifCond .ge 8, 3) := by decide +kernel
theorem dX4_restOf_225 : decode cX4_restOf 225 = .ok (.lload 11, 2) := by decide +kernel
theorem dX4_restOf_227 : decode cX4_restOf 227 = .ok (.goto 5, 3) := by decide +kernel
theorem dX4_restOf_230 : decode cX4_restOf 230 = .ok (.lload 13, 2) := by decide +kernel
theorem dX4_restOf_232 : decode cX4_restOf 232 = .ok (.lstore 15, 2) := by decide +kernel
theorem dX4_restOf_234 : decode cX4_restOf 234 = .ok (.lload 15, 2) := by decide +kernel
theorem dX4_restOf_236 : decode cX4_restOf 236 = .ok (.ldc2_w 91, 3) := by decide +kernel
theorem dX4_restOf_239 : decode cX4_restOf 239 = .ok (.lcmp, 1) := by decide +kernel
theorem dX4_restOf_240 : decode cX4_restOf 240 = .ok (.ifCond .eq 22, 3) := by decide +kernel
theorem dX4_restOf_243 : decode cX4_restOf 243 = .ok (.lload 15, 2) := by decide +kernel
theorem dX4_restOf_245 : decode cX4_restOf 245 = .ok (.lload 9, 2) := by decide +kernel
theorem dX4_restOf_247 : decode cX4_restOf 247 = .ok (.ladd, 1) := by decide +kernel
theorem dX4_restOf_248 : decode cX4_restOf 248 = .ok (.lload 5, 2) := by decide +kernel
theorem dX4_restOf_250 : decode cX4_restOf 250 = .ok (.lcmp, 1) := by decide +kernel
theorem dX4_restOf_251 : decode cX4_restOf 251 = .ok (.ifCond .ge 11, 3) := by decide +kernel
theorem dX4_restOf_254 : decode cX4_restOf 254 = .ok (.lload 15, 2) := by decide +kernel
theorem dX4_restOf_256 : decode cX4_restOf 256 = .ok (.lload 9, 2) := by decide +kernel
theorem dX4_restOf_258 : decode cX4_restOf 258 = .ok (.ladd, 1) := by decide +kernel
theorem dX4_restOf_259 : decode cX4_restOf 259 = .ok (.goto 5, 3) := by decide +kernel
theorem dX4_restOf_262 : decode cX4_restOf 262 = .ok (.lload 5, 2) := by decide +kernel
theorem dX4_restOf_264 : decode cX4_restOf 264 = .ok (.lstore 5, 2) := by decide +kernel
theorem dX4_restOf_266 : decode cX4_restOf 266 = .ok (.iinc 8 1, 3) := by decide +kernel
theorem dX4_restOf_269 : decode cX4_restOf 269 = .ok (.goto (-179), 3) := by decide +kernel
theorem dX4_restOf_272 : decode cX4_restOf 272 = .ok (.lload 5, 2) := by decide +kernel
theorem dX4_restOf_274 : decode cX4_restOf 274 = .ok (.lreturn, 1) := by decide +kernel
set_option maxRecDepth 20000 in
theorem ggX4_find_X4_place : GoodIn wsX4_find wsX4_place := goodIn_r _ [15] rfl (by decide +kernel)
set_option maxRecDepth 20000 in
theorem gX4_find_X4_place : GoodIn wsX4_find (va_wsS RX4 102 yX4_place wsX4_place) := goodIn_app (goodIn_of _ (by decide +kernel)) ggX4_find_X4_place
set_option maxRecDepth 20000 in
theorem ggX4_find_X4_restOf : GoodIn wsX4_find wsX4_restOf := goodIn_r _ [19, 3, 2, 6, 8, 20, 4, 5, 21, 22, 23, 24, 14, 25, 26, 27, 28, 29, 30, 31, 32, 33, 34, 35, 36, 37, 38, 39, 40, 41, 42, 43, 44, 45, 12, 13, 15, 46, 47, 48, 49, 71, 72, 73, 74, 75, 76, 77, 78, 79, 80, 81, 82, 83, 84, 85, 86, 87, 88] rfl (by decide +kernel)
set_option maxRecDepth 20000 in
theorem gX4_find_X4_restOf : GoodIn wsX4_find (wsV RX4 112 RX4 yX4_restOf wsX4_restOf) := goodIn_app (goodIn_of _ (by decide +kernel)) ggX4_find_X4_restOf
set_option maxRecDepth 20000 in
theorem ggX4_find_X4_mayBe : GoodIn wsX4_find wsX4_mayBe := goodIn_r _ [25, 26, 3, 27, 28, 29, 30, 31, 14, 32, 71, 72, 73, 74, 75, 76, 77, 78, 79, 80, 81, 82, 83, 84, 85, 86, 87, 88] rfl (by decide +kernel)
set_option maxRecDepth 20000 in
theorem gX4_find_X4_mayBe : GoodIn wsX4_find (wsV RX4 95 RX4 yX4_mayBe wsX4_mayBe) := goodIn_app (goodIn_of _ (by decide +kernel)) ggX4_find_X4_mayBe
set_option maxRecDepth 20000 in
theorem ggX4_find_X4_costOf : GoodIn wsX4_find wsX4_costOf := goodIn_r _ [36, 20, 3, 37, 38, 39, 14, 40, 28, 41, 29, 30, 31, 32, 42, 43, 44, 45, 27, 71, 72, 73, 74, 75, 76, 77, 78, 79, 80, 81, 82, 83, 84, 85, 86, 87, 88] rfl (by decide +kernel)
set_option maxRecDepth 20000 in
theorem gX4_find_X4_costOf : GoodIn wsX4_find (wsV RX4 98 RX4 yX4_costOf wsX4_costOf) := goodIn_app (goodIn_of _ (by decide +kernel)) ggX4_find_X4_costOf
set_option maxRecDepth 20000 in
theorem ggX4_find_X4_pickLines : GoodIn wsX4_find wsX4_pickLines := goodIn_r _ [53, 3, 10, 54, 55, 56, 22, 23, 24, 14, 25, 26, 27, 28, 29, 30, 31, 32, 57, 58, 59, 60, 8, 6, 21, 4, 5, 2, 7, 33, 34, 35, 36, 20, 37, 38, 39, 40, 41, 42, 43, 44, 45, 46, 47, 48, 49, 12, 13, 15, 71, 72, 73, 74, 75, 76, 77, 78, 79, 80, 81, 82, 83, 84, 85, 86, 87, 88] rfl (by decide +kernel)
set_option maxRecDepth 20000 in
theorem gX4_find_X4_pickLines : GoodIn wsX4_find (wsV RX4 128 RX4 yX4_pickLines wsX4_pickLines) := goodIn_app (goodIn_of _ (by decide +kernel)) ggX4_find_X4_pickLines
set_option maxRecDepth 20000 in
theorem ggX4_find_X4_pickPages : GoodIn wsX4_find wsX4_pickPages := goodIn_r _ [64, 65, 10, 6, 4, 8, 21, 66, 11, 67, 68, 69, 14, 70, 20, 54, 46, 47, 48, 49, 26, 71, 72, 73, 74, 75, 76, 77, 78, 79, 80, 81, 82, 83, 84, 85, 86, 87, 88] rfl (by decide +kernel)
set_option maxRecDepth 20000 in
theorem gX4_find_X4_pickPages : GoodIn wsX4_find (wsV RX4 131 RX4 yX4_pickPages wsX4_pickPages) := goodIn_app (goodIn_of _ (by decide +kernel)) ggX4_find_X4_pickPages
theorem dX4_find_0 : decode cX4_find 0 = .ok (.aload_n 0, 1) := by decide +kernel
theorem dX4_find_1 : decode cX4_find 1 = .ok (.getfield 68, 3) := by decide +kernel
theorem dX4_find_4 : decode cX4_find 4 = .ok (.ifCond .eq 4, 3) := by decide +kernel
theorem dX4_find_7 : decode cX4_find 7 = .ok (.return_, 1) := by decide +kernel
theorem dX4_find_8 : decode cX4_find 8 = .ok (.aload_n 0, 1) := by decide +kernel
theorem dX4_find_9 : decode cX4_find 9 = .ok (.iconst 1, 1) := by decide +kernel
theorem dX4_find_10 : decode cX4_find 10 = .ok (.putfield 68, 3) := by decide +kernel
end
section
theorem dX4_find_13 : decode cX4_find 13 = .ok (.aload_n 0, 1) := by decide +kernel
theorem dX4_find_14 : decode cX4_find 14 = .ok (.getfield 77, 3) := by decide +kernel
theorem dX4_find_17 : decode cX4_find 17 = .ok (.ifCond .ne 7, 3) := by decide +kernel
theorem dX4_find_20 : decode cX4_find 20 = .ok (.iconst 0, 1) := by decide +kernel
theorem dX4_find_21 : decode cX4_find 21 = .ok (.goto 5, 3) := by decide +kernel
theorem dX4_find_24 : decode cX4_find 24 = .ok (.bipush 24, 2) := by decide +kernel
theorem dX4_find_26 : decode cX4_find 26 = .ok (.istore_n 1, 1) := by decide +kernel
theorem dX4_find_27 : decode cX4_find 27 = .ok (.aload_n 0, 1) := by decide +kernel
theorem dX4_find_28 : decode cX4_find 28 = .ok (.getfield 57, 3) := by decide +kernel
theorem dX4_find_31 : decode cX4_find 31 = .ok (.istore_n 2, 1) := by decide +kernel
theorem dX4_find_32 : decode cX4_find 32 = .ok (.iload_n 2, 1) := by decide +kernel
theorem dX4_find_33 : decode cX4_find 33 = .ok (.ifCond .le 84, 3) := by decide +kernel
theorem dX4_find_36 : decode cX4_find 36 = .ok (.iconst 1, 1) := by decide +kernel
theorem dX4_find_37 : decode cX4_find 37 = .ok (.istore_n 3, 1) := by decide +kernel
theorem dX4_find_38 : decode cX4_find 38 = .ok (.iload_n 3, 1) := by decide +kernel
theorem dX4_find_39 : decode cX4_find 39 = .ok (.aload_n 0, 1) := by decide +kernel
theorem dX4_find_40 : decode cX4_find 40 = .ok (.getfield 46, 3) := by decide +kernel
theorem dX4_find_43 : decode cX4_find 43 = .ok (.if_icmp .gt 68, 3) := by decide +kernel
theorem dX4_find_46 : decode cX4_find 46 = .ok (.iconst 0, 1) := by decide +kernel
theorem dX4_find_47 : decode cX4_find 47 = .ok (.istore 4, 2) := by decide +kernel
theorem dX4_find_49 : decode cX4_find 49 = .ok (.iload 4, 2) := by decide +kernel
theorem dX4_find_51 : decode cX4_find 51 = .ok (.iload_n 1, 1) := by decide +kernel
theorem dX4_find_52 : decode cX4_find 52 = .ok (.if_icmp .gt 53, 3) := by decide +kernel
theorem dX4_find_55 : decode cX4_find 55 = .ok (.aload_n 0, 1) := by decide +kernel
theorem dX4_find_56 : decode cX4_find 56 = .ok (.getfield 24, 3) := by decide +kernel
theorem dX4_find_59 : decode cX4_find 59 = .ok (.iload_n 2, 1) := by decide +kernel
theorem dX4_find_60 : decode cX4_find 60 = .ok (.iload_n 3, 1) := by decide +kernel
theorem dX4_find_61 : decode cX4_find 61 = .ok (.iload 4, 2) := by decide +kernel
theorem dX4_find_63 : decode cX4_find 63 = .ok (.iconst 1, 1) := by decide +kernel
theorem dX4_find_64 : decode cX4_find 64 = .ok (.invokestatic 102, 3) := by decide +kernel
theorem dX4_find_67 : decode cX4_find 67 = .ok (.aload_n 0, 1) := by decide +kernel
theorem dX4_find_68 : decode cX4_find 68 = .ok (.iload_n 2, 1) := by decide +kernel
theorem dX4_find_69 : decode cX4_find 69 = .ok (.iload_n 3, 1) := by decide +kernel
theorem dX4_find_70 : decode cX4_find 70 = .ok (.iload 4, 2) := by decide +kernel
theorem dX4_find_72 : decode cX4_find 72 = .ok (.iconst 1, 1) := by decide +kernel
theorem dX4_find_73 : decode cX4_find 73 = .ok (.invokevirtual 112, 3) := by decide +kernel
theorem dX4_find_76 : decode cX4_find 76 = .ok (.lastore, 1) := by decide +kernel
theorem dX4_find_77 : decode cX4_find 77 = .ok (.aload_n 0, 1) := by decide +kernel
theorem dX4_find_78 : decode cX4_find 78 = .ok (.getfield 24, 3) := by decide +kernel
theorem dX4_find_81 : decode cX4_find 81 = .ok (.iload_n 2, 1) := by decide +kernel
theorem dX4_find_82 : decode cX4_find 82 = .ok (.iload_n 3, 1) := by decide +kernel
theorem dX4_find_83 : decode cX4_find 83 = .ok (.iload 4, 2) := by decide +kernel
theorem dX4_find_85 : decode cX4_find 85 = .ok (.iconst 0, 1) := by decide +kernel
theorem dX4_find_86 : decode cX4_find 86 = .ok (.invokestatic 102, 3) := by decide +kernel
theorem dX4_find_89 : decode cX4_find 89 = .ok (.aload_n 0, 1) := by decide +kernel
theorem dX4_find_90 : decode cX4_find 90 = .ok (.iload_n 2, 1) := by decide +kernel
theorem dX4_find_91 : decode cX4_find 91 = .ok (.iload_n 3, 1) := by decide +kernel
theorem dX4_find_92 : decode cX4_find 92 = .ok (.iload 4, 2) := by decide +kernel
theorem dX4_find_94 : decode cX4_find 94 = .ok (.iconst 0, 1) := by decide +kernel
theorem dX4_find_95 : decode cX4_find 95 = .ok (.invokevirtual 112, 3) := by decide +kernel
theorem dX4_find_98 : decode cX4_find 98 = .ok (.lastore, 1) := by decide +kernel
theorem dX4_find_99 : decode cX4_find 99 = .ok (.iinc 4 1, 3) := by decide +kernel
theorem dX4_find_102 : decode cX4_find 102 = .ok (.goto (-53), 3) := by decide +kernel
theorem dX4_find_105 : decode cX4_find 105 = .ok (.iinc 3 1, 3) := by decide +kernel
theorem dX4_find_108 : decode cX4_find 108 = .ok (.goto (-70), 3) := by decide +kernel
theorem dX4_find_111 : decode cX4_find 111 = .ok (.iinc 2 (-1), 3) := by decide +kernel
theorem dX4_find_114 : decode cX4_find 114 = .ok (.goto (-82), 3) := by decide +kernel
theorem dX4_find_117 : decode cX4_find 117 = .ok (.aload_n 0, 1) := by decide +kernel
theorem dX4_find_118 : decode cX4_find 118 = .ok (.aload_n 0, 1) := by decide +kernel
theorem dX4_find_119 : decode cX4_find 119 = .ok (.getfield 57, 3) := by decide +kernel
theorem dX4_find_122 : decode cX4_find 122 = .ok (.ifCond .ne 20, 3) := by decide +kernel
theorem dX4_find_125 : decode cX4_find 125 = .ok (.aload_n 0, 1) := by decide +kernel
theorem dX4_find_126 : decode cX4_find 126 = .ok (.getfield 77, 3) := by decide +kernel
theorem dX4_find_129 : decode cX4_find 129 = .ok (.ifCond .ne 7, 3) := by decide +kernel
theorem dX4_find_132 : decode cX4_find 132 = .ok (.lconst 0, 1) := by decide +kernel
theorem dX4_find_133 : decode cX4_find 133 = .ok (.goto 12, 3) := by decide +kernel
theorem dX4_find_136 : decode cX4_find 136 = .ok (.ldc2_w 91, 3) := by decide +kernel
theorem dX4_find_139 : decode cX4_find 139 = .ok (.goto 6, 3) := by decide +kernel
theorem dX4_find_142 : decode cX4_find 142 = .ok (.ldc2_w 91, 3) := by decide +kernel
theorem dX4_find_145 : decode cX4_find 145 = .ok (.putfield 116, 3) := by decide +kernel
theorem dX4_find_148 : decode cX4_find 148 = .ok (.aload_n 0, 1) := by decide +kernel
theorem dX4_find_149 : decode cX4_find 149 = .ok (.getfield 77, 3) := by decide +kernel
theorem dX4_find_152 : decode cX4_find 152 = .ok (.ifCond .ne 7, 3) := by decide +kernel
theorem dX4_find_155 : decode cX4_find 155 = .ok (.iconst 0, 1) := by decide +kernel
theorem dX4_find_156 : decode cX4_find 156 = .ok (.goto 4, 3) := by decide +kernel
theorem dX4_find_159 : decode cX4_find 159 = .ok (.iconst 1, 1) := by decide +kernel
theorem dX4_find_160 : decode cX4_find 160 = .ok (.istore_n 2, 1) := by decide +kernel
theorem dX4_find_161 : decode cX4_find 161 = .ok (.iconst 0, 1) := by decide +kernel
theorem dX4_find_162 : decode cX4_find 162 = .ok (.istore_n 3, 1) := by decide +kernel
theorem dX4_find_163 : decode cX4_find 163 = .ok (.iload_n 3, 1) := by decide +kernel
theorem dX4_find_164 : decode cX4_find 164 = .ok (.aload_n 0, 1) := by decide +kernel
theorem dX4_find_165 : decode cX4_find 165 = .ok (.getfield 57, 3) := by decide +kernel
theorem dX4_find_168 : decode cX4_find 168 = .ok (.if_icmp .ge 91, 3) := by decide +kernel
theorem dX4_find_171 : decode cX4_find 171 = .ok (.aload_n 0, 1) := by decide +kernel
theorem dX4_find_172 : decode cX4_find 172 = .ok (.iconst 0, 1) := by decide +kernel
theorem dX4_find_173 : decode cX4_find 173 = .ok (.iload_n 3, 1) := by decide +kernel
theorem dX4_find_174 : decode cX4_find 174 = .ok (.invokevirtual 95, 3) := by decide +kernel
theorem dX4_find_177 : decode cX4_find 177 = .ok (.ifCond .eq 76, 3) := by decide +kernel
theorem dX4_find_180 : decode cX4_find 180 = .ok (.aload_n 0, 1) := by decide +kernel
theorem dX4_find_181 : decode cX4_find 181 = .ok (.getfield 24, 3) := by decide +kernel
theorem dX4_find_184 : decode cX4_find 184 = .ok (.iload_n 3, 1) := by decide +kernel
theorem dX4_find_185 : decode cX4_find 185 = .ok (.iconst 1, 1) := by decide +kernel
theorem dX4_find_186 : decode cX4_find 186 = .ok (.iadd, 1) := by decide +kernel
theorem dX4_find_187 : decode cX4_find 187 = .ok (.iconst 1, 1) := by decide +kernel
theorem dX4_find_188 : decode cX4_find 188 = .ok (.iload_n 2, 1) := by decide +kernel
theorem dX4_find_189 : decode cX4_find 189 = .ok (.iconst 1, 1) := by decide +kernel
theorem dX4_find_190 : decode cX4_find 190 = .ok (.invokestatic 102, 3) := by decide +kernel
theorem dX4_find_193 : decode cX4_find 193 = .ok (.laload, 1) := by decide +kernel
theorem dX4_find_194 : decode cX4_find 194 = .ok (.lstore 4, 2) := by decide +kernel
theorem dX4_find_196 : decode cX4_find 196 = .ok (.lload 4, 2) := by decide +kernel
theorem dX4_find_198 : decode cX4_find 198 = .ok (.ldc2_w 91, 3) := by decide +kernel
theorem dX4_find_201 : decode cX4_find 201 = .ok (.lcmp, 1) := by decide +kernel
theorem dX4_find_202 : decode cX4_find 202 = .ok (.ifCond .ne 9, 3) := by decide +kernel
theorem dX4_find_205 : decode cX4_find 205 = .ok (.ldc2_w 91, 3) := by decide +kernel
theorem dX4_find_208 : decode cX4_find 208 = .ok (.goto 20, 3) := by decide +kernel
theorem dX4_find_211 : decode cX4_find 211 = .ok (.lload 4, 2) := by decide +kernel
theorem dX4_find_213 : decode cX4_find 213 = .ok (.ldc2_w 93, 3) := by decide +kernel
theorem dX4_find_216 : decode cX4_find 216 = .ok (.aload_n 0, 1) := by decide +kernel
theorem dX4_find_217 : decode cX4_find 217 = .ok (.iconst 0, 1) := by decide +kernel
theorem dX4_find_218 : decode cX4_find 218 = .ok (.iload_n 3, 1) := by decide +kernel
theorem dX4_find_219 : decode cX4_find 219 = .ok (.invokevirtual 98, 3) := by decide +kernel
theorem dX4_find_222 : decode cX4_find 222 = .ok (.lmul, 1) := by decide +kernel
theorem dX4_find_223 : decode cX4_find 223 = .ok (.ladd, 1) := by decide +kernel
theorem dX4_find_224 : decode cX4_find 224 = .ok (.ldc2_w 120, 3) := by decide +kernel
theorem dX4_find_227 : decode cX4_find 227 = .ok (.ladd, 1) := by decide +kernel
theorem dX4_find_228 : decode cX4_find 228 = .ok (.lstore 6, 2) := by decide +kernel
theorem dX4_find_230 : decode cX4_find 230 = .ok (.aload_n 0, 1) := by decide +kernel
theorem dX4_find_231 : decode cX4_find 231 = .ok (.lload 6, 2) := by decide +kernel
theorem dX4_find_233 : decode cX4_find 233 = .ok (.aload_n 0, 1) := by decide +kernel
theorem dX4_find_234 : decode cX4_find 234 = .ok (.getfield 116, 3) := by decide +kernel
theorem dX4_find_237 : decode cX4_find 237 = .ok (.lcmp, 1) := by decide +kernel
theorem dX4_find_238 : decode cX4_find 238 = .ok (.ifCond .ge 8, 3) := by decide +kernel
theorem dX4_find_241 : decode cX4_find 241 = .ok (.lload 6, 2) := by decide +kernel
theorem dX4_find_243 : decode cX4_find 243 = .ok (.goto 7, 3) := by decide +kernel
theorem dX4_find_246 : decode cX4_find 246 = .ok (.aload_n 0, 1) := by decide +kernel
theorem dX4_find_247 : decode cX4_find 247 = .ok (.getfield 116, 3) := by decide +kernel
theorem dX4_find_250 : decode cX4_find 250 = .ok (.putfield 116, 3) := by decide +kernel
theorem dX4_find_253 : decode cX4_find 253 = .ok (.iinc 3 1, 3) := by decide +kernel
theorem dX4_find_256 : decode cX4_find 256 = .ok (.goto (-93), 3) := by decide +kernel
theorem dX4_find_259 : decode cX4_find 259 = .ok (.aload_n 0, 1) := by decide +kernel
theorem dX4_find_260 : decode cX4_find 260 = .ok (.iconst 0, 1) := by decide +kernel
theorem dX4_find_261 : decode cX4_find 261 = .ok (.putfield 122, 3) := by decide +kernel
theorem dX4_find_264 : decode cX4_find 264 = .ok (.aload_n 0, 1) := by decide +kernel
theorem dX4_find_265 : decode cX4_find 265 = .ok (.iconst 0, 1) := by decide +kernel
theorem dX4_find_266 : decode cX4_find 266 = .ok (.putfield 125, 3) := by decide +kernel
theorem dX4_find_269 : decode cX4_find 269 = .ok (.aload_n 0, 1) := by decide +kernel
theorem dX4_find_270 : decode cX4_find 270 = .ok (.getfield 116, 3) := by decide +kernel
theorem dX4_find_273 : decode cX4_find 273 = .ok (.ldc2_w 91, 3) := by decide +kernel
theorem dX4_find_276 : decode cX4_find 276 = .ok (.lcmp, 1) := by decide +kernel
theorem dX4_find_277 : decode cX4_find 277 = .ok (.ifCond .eq 18, 3) := by decide +kernel
theorem dX4_find_280 : decode cX4_find 280 = .ok (.aload_n 0, 1) := by decide +kernel
theorem dX4_find_281 : decode cX4_find 281 = .ok (.getfield 57, 3) := by decide +kernel
theorem dX4_find_284 : decode cX4_find 284 = .ok (.ifCond .le 11, 3) := by decide +kernel
theorem dX4_find_287 : decode cX4_find 287 = .ok (.aload_n 0, 1) := by decide +kernel
theorem dX4_find_288 : decode cX4_find 288 = .ok (.invokevirtual 128, 3) := by decide +kernel
theorem dX4_find_291 : decode cX4_find 291 = .ok (.aload_n 0, 1) := by decide +kernel
theorem dX4_find_292 : decode cX4_find 292 = .ok (.invokevirtual 131, 3) := by decide +kernel
theorem dX4_find_295 : decode cX4_find 295 = .ok (.return_, 1) := by decide +kernel
set_option maxRecDepth 20000 in
theorem ggX4_reaches_X4_costOf : GoodIn wsX4_reaches wsX4_costOf := goodIn_r _ [14, 15, 16, 17, 18, 19, 13, 20, 21, 22, 23, 24, 25, 26, 27, 28, 29, 30, 31, 40, 41, 42, 43, 44, 45, 46, 47, 48, 49, 50, 51, 52, 53, 54, 55, 56, 57] rfl (by decide +kernel)
set_option maxRecDepth 20000 in
theorem gX4_reaches_X4_costOf : GoodIn wsX4_reaches (wsV RX4 98 RX4 yX4_costOf wsX4_costOf) := goodIn_app (goodIn_of _ (by decide +kernel)) ggX4_reaches_X4_costOf
set_option maxRecDepth 20000 in
theorem ggX4_reaches_X4_turnAt : GoodIn wsX4_reaches wsX4_turnAt := goodIn_r _ [35, 36, 15, 40, 41, 42, 43, 44, 45, 46, 47, 48, 49, 50, 51, 52, 53, 54, 55, 56, 57] rfl (by decide +kernel)
set_option maxRecDepth 20000 in
theorem gX4_reaches_X4_turnAt : GoodIn wsX4_reaches (wsV RX4 106 RX4 yX4_turnAt wsX4_turnAt) := goodIn_app (goodIn_of _ (by decide +kernel)) ggX4_reaches_X4_turnAt
set_option maxRecDepth 20000 in
theorem ggX4_reaches_X4_place : GoodIn wsX4_reaches wsX4_place := goodIn_r _ [39] rfl (by decide +kernel)
set_option maxRecDepth 20000 in
theorem gX4_reaches_X4_place : GoodIn wsX4_reaches (va_wsS RX4 102 yX4_place wsX4_place) := goodIn_app (goodIn_of _ (by decide +kernel)) ggX4_reaches_X4_place
theorem dX4_reaches_0 : decode cX4_reaches 0 = .ok (.ldc2_w 93, 3) := by decide +kernel
theorem dX4_reaches_3 : decode cX4_reaches 3 = .ok (.aload_n 0, 1) := by decide +kernel
theorem dX4_reaches_4 : decode cX4_reaches 4 = .ok (.iload_n 1, 1) := by decide +kernel
theorem dX4_reaches_5 : decode cX4_reaches 5 = .ok (.iload_n 2, 1) := by decide +kernel
theorem dX4_reaches_6 : decode cX4_reaches 6 = .ok (.invokevirtual 98, 3) := by decide +kernel
theorem dX4_reaches_9 : decode cX4_reaches 9 = .ok (.lmul, 1) := by decide +kernel
theorem dX4_reaches_10 : decode cX4_reaches 10 = .ok (.lconst 1, 1) := by decide +kernel
theorem dX4_reaches_11 : decode cX4_reaches 11 = .ok (.ladd, 1) := by decide +kernel
theorem dX4_reaches_12 : decode cX4_reaches 12 = .ok (.lstore 4, 2) := by decide +kernel
theorem dX4_reaches_14 : decode cX4_reaches 14 = .ok (.iconst 0, 1) := by decide +kernel
theorem dX4_reaches_15 : decode cX4_reaches 15 = .ok (.istore 6, 2) := by decide +kernel
theorem dX4_reaches_17 : decode cX4_reaches 17 = .ok (.iload 6, 2) := by decide +kernel
theorem dX4_reaches_19 : decode cX4_reaches 19 = .ok (.bipush 18, 2) := by decide +kernel
theorem dX4_reaches_21 : decode cX4_reaches 21 = .ok (.if_icmp .ge 19, 3) := by decide +kernel
theorem dX4_reaches_24 : decode cX4_reaches 24 = .ok (.aload_n 0, 1) := by decide +kernel
theorem dX4_reaches_25 : decode cX4_reaches 25 = .ok (.getfield 36, 3) := by decide +kernel
theorem dX4_reaches_28 : decode cX4_reaches 28 = .ok (.iload 6, 2) := by decide +kernel
theorem dX4_reaches_30 : decode cX4_reaches 30 = .ok (.ldc2_w 91, 3) := by decide +kernel
theorem dX4_reaches_33 : decode cX4_reaches 33 = .ok (.lastore, 1) := by decide +kernel
theorem dX4_reaches_34 : decode cX4_reaches 34 = .ok (.iinc 6 1, 3) := by decide +kernel
theorem dX4_reaches_37 : decode cX4_reaches 37 = .ok (.goto (-20), 3) := by decide +kernel
theorem dX4_reaches_40 : decode cX4_reaches 40 = .ok (.iload_n 1, 1) := by decide +kernel
theorem dX4_reaches_41 : decode cX4_reaches 41 = .ok (.ifCond .ne 15, 3) := by decide +kernel
theorem dX4_reaches_44 : decode cX4_reaches 44 = .ok (.aload_n 0, 1) := by decide +kernel
theorem dX4_reaches_45 : decode cX4_reaches 45 = .ok (.getfield 36, 3) := by decide +kernel
theorem dX4_reaches_48 : decode cX4_reaches 48 = .ok (.iconst 3, 1) := by decide +kernel
theorem dX4_reaches_49 : decode cX4_reaches 49 = .ok (.lload 4, 2) := by decide +kernel
theorem dX4_reaches_51 : decode cX4_reaches 51 = .ok (.ldc2_w 110, 3) := by decide +kernel
theorem dX4_reaches_54 : decode cX4_reaches 54 = .ok (.ladd, 1) := by decide +kernel
theorem dX4_reaches_55 : decode cX4_reaches 55 = .ok (.lastore, 1) := by decide +kernel
theorem dX4_reaches_56 : decode cX4_reaches 56 = .ok (.iconst 2, 1) := by decide +kernel
theorem dX4_reaches_57 : decode cX4_reaches 57 = .ok (.istore 6, 2) := by decide +kernel
theorem dX4_reaches_59 : decode cX4_reaches 59 = .ok (.iload 6, 2) := by decide +kernel
theorem dX4_reaches_61 : decode cX4_reaches 61 = .ok (.bipush 18, 2) := by decide +kernel
theorem dX4_reaches_63 : decode cX4_reaches 63 = .ok (.if_icmp .ge 150, 3) := by decide +kernel
theorem dX4_reaches_66 : decode cX4_reaches 66 = .ok (.iload_n 1, 1) := by decide +kernel
theorem dX4_reaches_67 : decode cX4_reaches 67 = .ok (.ifCond .le 146, 3) := by decide +kernel
theorem dX4_reaches_70 : decode cX4_reaches 70 = .ok (.aload_n 0, 1) := by decide +kernel
theorem dX4_reaches_71 : decode cX4_reaches 71 = .ok (.getfield 33, 3) := by decide +kernel
theorem dX4_reaches_74 : decode cX4_reaches 74 = .ok (.iload 6, 2) := by decide +kernel
theorem dX4_reaches_76 : decode cX4_reaches 76 = .ok (.laload, 1) := by decide +kernel
theorem dX4_reaches_77 : decode cX4_reaches 77 = .ok (.ldc2_w 91, 3) := by decide +kernel
theorem dX4_reaches_80 : decode cX4_reaches 80 = .ok (.lcmp, 1) := by decide +kernel
theorem dX4_reaches_81 : decode cX4_reaches 81 = .ok (.ifCond .ne 6, 3) := by decide +kernel
theorem dX4_reaches_84 : decode cX4_reaches 84 = .ok (.goto 123, 3) := by decide +kernel
theorem dX4_reaches_87 : decode cX4_reaches 87 = .ok (.iload 6, 2) := by decide +kernel
theorem dX4_reaches_89 : decode cX4_reaches 89 = .ok (.iconst 2, 1) := by decide +kernel
theorem dX4_reaches_90 : decode cX4_reaches 90 = .ok (.idiv, 1) := by decide +kernel
theorem dX4_reaches_91 : decode cX4_reaches 91 = .ok (.aload_n 0, 1) := by decide +kernel
theorem dX4_reaches_92 : decode cX4_reaches 92 = .ok (.getfield 46, 3) := by decide +kernel
theorem dX4_reaches_95 : decode cX4_reaches 95 = .ok (.if_icmp .ge 57, 3) := by decide +kernel
theorem dX4_reaches_98 : decode cX4_reaches 98 = .ok (.aload_n 0, 1) := by decide +kernel
theorem dX4_reaches_99 : decode cX4_reaches 99 = .ok (.getfield 36, 3) := by decide +kernel
theorem dX4_reaches_102 : decode cX4_reaches 102 = .ok (.iload 6, 2) := by decide +kernel
theorem dX4_reaches_104 : decode cX4_reaches 104 = .ok (.iconst 2, 1) := by decide +kernel
theorem dX4_reaches_105 : decode cX4_reaches 105 = .ok (.iadd, 1) := by decide +kernel
theorem dX4_reaches_106 : decode cX4_reaches 106 = .ok (.aload_n 0, 1) := by decide +kernel
theorem dX4_reaches_107 : decode cX4_reaches 107 = .ok (.getfield 33, 3) := by decide +kernel
theorem dX4_reaches_110 : decode cX4_reaches 110 = .ok (.iload 6, 2) := by decide +kernel
theorem dX4_reaches_112 : decode cX4_reaches 112 = .ok (.laload, 1) := by decide +kernel
theorem dX4_reaches_113 : decode cX4_reaches 113 = .ok (.lload 4, 2) := by decide +kernel
theorem dX4_reaches_115 : decode cX4_reaches 115 = .ok (.ladd, 1) := by decide +kernel
theorem dX4_reaches_116 : decode cX4_reaches 116 = .ok (.aload_n 0, 1) := by decide +kernel
theorem dX4_reaches_117 : decode cX4_reaches 117 = .ok (.getfield 36, 3) := by decide +kernel
theorem dX4_reaches_120 : decode cX4_reaches 120 = .ok (.iload 6, 2) := by decide +kernel
theorem dX4_reaches_122 : decode cX4_reaches 122 = .ok (.iconst 2, 1) := by decide +kernel
theorem dX4_reaches_123 : decode cX4_reaches 123 = .ok (.iadd, 1) := by decide +kernel
theorem dX4_reaches_124 : decode cX4_reaches 124 = .ok (.laload, 1) := by decide +kernel
theorem dX4_reaches_125 : decode cX4_reaches 125 = .ok (.lcmp, 1) := by decide +kernel
theorem dX4_reaches_126 : decode cX4_reaches 126 = .ok (.ifCond .ge 16, 3) := by decide +kernel
theorem dX4_reaches_129 : decode cX4_reaches 129 = .ok (.aload_n 0, 1) := by decide +kernel
theorem dX4_reaches_130 : decode cX4_reaches 130 = .ok (.getfield 33, 3) := by decide +kernel
theorem dX4_reaches_133 : decode cX4_reaches 133 = .ok (.iload 6, 2) := by decide +kernel
theorem dX4_reaches_135 : decode cX4_reaches 135 = .ok (.laload, 1) := by decide +kernel
theorem dX4_reaches_136 : decode cX4_reaches 136 = .ok (.lload 4, 2) := by decide +kernel
theorem dX4_reaches_138 : decode cX4_reaches 138 = .ok (.ladd, 1) := by decide +kernel
theorem dX4_reaches_139 : decode cX4_reaches 139 = .ok (.goto 12, 3) := by decide +kernel
theorem dX4_reaches_142 : decode cX4_reaches 142 = .ok (.aload_n 0, 1) := by decide +kernel
theorem dX4_reaches_143 : decode cX4_reaches 143 = .ok (.getfield 36, 3) := by decide +kernel
theorem dX4_reaches_146 : decode cX4_reaches 146 = .ok (.iload 6, 2) := by decide +kernel
theorem dX4_reaches_148 : decode cX4_reaches 148 = .ok (.iconst 2, 1) := by decide +kernel
theorem dX4_reaches_149 : decode cX4_reaches 149 = .ok (.iadd, 1) := by decide +kernel
theorem dX4_reaches_150 : decode cX4_reaches 150 = .ok (.laload, 1) := by decide +kernel
theorem dX4_reaches_151 : decode cX4_reaches 151 = .ok (.lastore, 1) := by decide +kernel
theorem dX4_reaches_152 : decode cX4_reaches 152 = .ok (.aload_n 0, 1) := by decide +kernel
theorem dX4_reaches_153 : decode cX4_reaches 153 = .ok (.getfield 33, 3) := by decide +kernel
theorem dX4_reaches_156 : decode cX4_reaches 156 = .ok (.iload 6, 2) := by decide +kernel
theorem dX4_reaches_158 : decode cX4_reaches 158 = .ok (.laload, 1) := by decide +kernel
theorem dX4_reaches_159 : decode cX4_reaches 159 = .ok (.lload 4, 2) := by decide +kernel
theorem dX4_reaches_161 : decode cX4_reaches 161 = .ok (.ladd, 1) := by decide +kernel
theorem dX4_reaches_162 : decode cX4_reaches 162 = .ok (.ldc2_w 93, 3) := by decide +kernel
theorem dX4_reaches_165 : decode cX4_reaches 165 = .ok (.aload_n 0, 1) := by decide +kernel
theorem dX4_reaches_166 : decode cX4_reaches 166 = .ok (.iload_n 1, 1) := by decide +kernel
theorem dX4_reaches_167 : decode cX4_reaches 167 = .ok (.invokevirtual 106, 3) := by decide +kernel
theorem dX4_reaches_170 : decode cX4_reaches 170 = .ok (.lmul, 1) := by decide +kernel
theorem dX4_reaches_171 : decode cX4_reaches 171 = .ok (.ladd, 1) := by decide +kernel
theorem dX4_reaches_172 : decode cX4_reaches 172 = .ok (.ldc2_w 110, 3) := by decide +kernel
theorem dX4_reaches_175 : decode cX4_reaches 175 = .ok (.ladd, 1) := by decide +kernel
theorem dX4_reaches_176 : decode cX4_reaches 176 = .ok (.lstore 7, 2) := by decide +kernel
theorem dX4_reaches_178 : decode cX4_reaches 178 = .ok (.aload_n 0, 1) := by decide +kernel
theorem dX4_reaches_179 : decode cX4_reaches 179 = .ok (.getfield 36, 3) := by decide +kernel
theorem dX4_reaches_182 : decode cX4_reaches 182 = .ok (.iconst 2, 1) := by decide +kernel
theorem dX4_reaches_183 : decode cX4_reaches 183 = .ok (.lload 7, 2) := by decide +kernel
theorem dX4_reaches_185 : decode cX4_reaches 185 = .ok (.aload_n 0, 1) := by decide +kernel
theorem dX4_reaches_186 : decode cX4_reaches 186 = .ok (.getfield 36, 3) := by decide +kernel
theorem dX4_reaches_189 : decode cX4_reaches 189 = .ok (.iconst 2, 1) := by decide +kernel
theorem dX4_reaches_190 : decode cX4_reaches 190 = .ok (.laload, 1) := by decide +kernel
theorem dX4_reaches_191 : decode cX4_reaches 191 = .ok (.lcmp, 1) := by decide +kernel
theorem dX4_reaches_192 : decode cX4_reaches 192 = .ok (.ifCond .ge 8, 3) := by decide +kernel
theorem dX4_reaches_195 : decode cX4_reaches 195 = .ok (.lload 7, 2) := by decide +kernel
theorem dX4_reaches_197 : decode cX4_reaches 197 = .ok (.goto 9, 3) := by decide +kernel
theorem dX4_reaches_200 : decode cX4_reaches 200 = .ok (.aload_n 0, 1) := by decide +kernel
theorem dX4_reaches_201 : decode cX4_reaches 201 = .ok (.getfield 36, 3) := by decide +kernel
theorem dX4_reaches_204 : decode cX4_reaches 204 = .ok (.iconst 2, 1) := by decide +kernel
theorem dX4_reaches_205 : decode cX4_reaches 205 = .ok (.laload, 1) := by decide +kernel
theorem dX4_reaches_206 : decode cX4_reaches 206 = .ok (.lastore, 1) := by decide +kernel
theorem dX4_reaches_207 : decode cX4_reaches 207 = .ok (.iinc 6 1, 3) := by decide +kernel
theorem dX4_reaches_210 : decode cX4_reaches 210 = .ok (.goto (-151), 3) := by decide +kernel
theorem dX4_reaches_213 : decode cX4_reaches 213 = .ok (.iconst 2, 1) := by decide +kernel
theorem dX4_reaches_214 : decode cX4_reaches 214 = .ok (.istore 6, 2) := by decide +kernel
theorem dX4_reaches_216 : decode cX4_reaches 216 = .ok (.iload 6, 2) := by decide +kernel
theorem dX4_reaches_218 : decode cX4_reaches 218 = .ok (.bipush 18, 2) := by decide +kernel
theorem dX4_reaches_220 : decode cX4_reaches 220 = .ok (.if_icmp .ge 113, 3) := by decide +kernel
theorem dX4_reaches_223 : decode cX4_reaches 223 = .ok (.aload_n 0, 1) := by decide +kernel
theorem dX4_reaches_224 : decode cX4_reaches 224 = .ok (.getfield 36, 3) := by decide +kernel
theorem dX4_reaches_227 : decode cX4_reaches 227 = .ok (.iload 6, 2) := by decide +kernel
theorem dX4_reaches_229 : decode cX4_reaches 229 = .ok (.laload, 1) := by decide +kernel
theorem dX4_reaches_230 : decode cX4_reaches 230 = .ok (.ldc2_w 91, 3) := by decide +kernel
theorem dX4_reaches_233 : decode cX4_reaches 233 = .ok (.lcmp, 1) := by decide +kernel
theorem dX4_reaches_234 : decode cX4_reaches 234 = .ok (.ifCond .eq 14, 3) := by decide +kernel
theorem dX4_reaches_237 : decode cX4_reaches 237 = .ok (.iload 6, 2) := by decide +kernel
theorem dX4_reaches_239 : decode cX4_reaches 239 = .ok (.iconst 2, 1) := by decide +kernel
theorem dX4_reaches_240 : decode cX4_reaches 240 = .ok (.idiv, 1) := by decide +kernel
theorem dX4_reaches_241 : decode cX4_reaches 241 = .ok (.aload_n 0, 1) := by decide +kernel
theorem dX4_reaches_242 : decode cX4_reaches 242 = .ok (.getfield 46, 3) := by decide +kernel
theorem dX4_reaches_245 : decode cX4_reaches 245 = .ok (.if_icmp .le 9, 3) := by decide +kernel
theorem dX4_reaches_248 : decode cX4_reaches 248 = .ok (.ldc2_w 91, 3) := by decide +kernel
theorem dX4_reaches_251 : decode cX4_reaches 251 = .ok (.goto 45, 3) := by decide +kernel
theorem dX4_reaches_254 : decode cX4_reaches 254 = .ok (.aload_n 0, 1) := by decide +kernel
theorem dX4_reaches_255 : decode cX4_reaches 255 = .ok (.getfield 24, 3) := by decide +kernel
theorem dX4_reaches_258 : decode cX4_reaches 258 = .ok (.iload_n 2, 1) := by decide +kernel
theorem dX4_reaches_259 : decode cX4_reaches 259 = .ok (.iconst 1, 1) := by decide +kernel
theorem dX4_reaches_260 : decode cX4_reaches 260 = .ok (.iadd, 1) := by decide +kernel
theorem dX4_reaches_261 : decode cX4_reaches 261 = .ok (.iload 6, 2) := by decide +kernel
theorem dX4_reaches_263 : decode cX4_reaches 263 = .ok (.iconst 2, 1) := by decide +kernel
theorem dX4_reaches_264 : decode cX4_reaches 264 = .ok (.idiv, 1) := by decide +kernel
theorem dX4_reaches_265 : decode cX4_reaches 265 = .ok (.aload_n 0, 1) := by decide +kernel
theorem dX4_reaches_266 : decode cX4_reaches 266 = .ok (.getfield 77, 3) := by decide +kernel
theorem dX4_reaches_269 : decode cX4_reaches 269 = .ok (.ifCond .ne 7, 3) := by decide +kernel
theorem dX4_reaches_272 : decode cX4_reaches 272 = .ok (.iconst 0, 1) := by decide +kernel
theorem dX4_reaches_273 : decode cX4_reaches 273 = .ok (.goto 6, 3) := by decide +kernel
theorem dX4_reaches_276 : decode cX4_reaches 276 = .ok (.iload_n 3, 1) := by decide +kernel
theorem dX4_reaches_277 : decode cX4_reaches 277 = .ok (.iconst 1, 1) := by decide +kernel
theorem dX4_reaches_278 : decode cX4_reaches 278 = .ok (.iadd, 1) := by decide +kernel
theorem dX4_reaches_279 : decode cX4_reaches 279 = .ok (.iload 6, 2) := by decide +kernel
theorem dX4_reaches_281 : decode cX4_reaches 281 = .ok (.iconst 2, 1) := by decide +kernel
theorem dX4_reaches_282 : decode cX4_reaches 282 = .ok (.irem, 1) := by decide +kernel
theorem dX4_reaches_283 : decode cX4_reaches 283 = .ok (.iconst 1, 1) := by decide +kernel
theorem dX4_reaches_284 : decode cX4_reaches 284 = .ok (.if_icmp .ne 7, 3) := by decide +kernel
theorem dX4_reaches_287 : decode cX4_reaches 287 = .ok (.iconst 1, 1) := by decide +kernel
theorem dX4_reaches_288 : decode cX4_reaches 288 = .ok (.goto 4, 3) := by decide +kernel
theorem dX4_reaches_291 : decode cX4_reaches 291 = .ok (.iconst 0, 1) := by decide +kernel
theorem dX4_reaches_292 : decode cX4_reaches 292 = .ok (.invokestatic 102, 3) := by decide +kernel
theorem dX4_reaches_295 : decode cX4_reaches 295 = .ok (.laload, 1) := by decide +kernel
theorem dX4_reaches_296 : decode cX4_reaches 296 = .ok (.lstore 7, 2) := by decide +kernel
theorem dX4_reaches_298 : decode cX4_reaches 298 = .ok (.lload 7, 2) := by decide +kernel
theorem dX4_reaches_300 : decode cX4_reaches 300 = .ok (.ldc2_w 91, 3) := by decide +kernel
theorem dX4_reaches_303 : decode cX4_reaches 303 = .ok (.lcmp, 1) := by decide +kernel
theorem dX4_reaches_304 : decode cX4_reaches 304 = .ok (.ifCond .eq 23, 3) := by decide +kernel
theorem dX4_reaches_307 : decode cX4_reaches 307 = .ok (.aload_n 0, 1) := by decide +kernel
theorem dX4_reaches_308 : decode cX4_reaches 308 = .ok (.getfield 36, 3) := by decide +kernel
theorem dX4_reaches_311 : decode cX4_reaches 311 = .ok (.iload 6, 2) := by decide +kernel
theorem dX4_reaches_313 : decode cX4_reaches 313 = .ok (.laload, 1) := by decide +kernel
theorem dX4_reaches_314 : decode cX4_reaches 314 = .ok (.lload 7, 2) := by decide +kernel
theorem dX4_reaches_316 : decode cX4_reaches 316 = .ok (.ladd, 1) := by decide +kernel
theorem dX4_reaches_317 : decode cX4_reaches 317 = .ok (.aload_n 0, 1) := by decide +kernel
theorem dX4_reaches_318 : decode cX4_reaches 318 = .ok (.getfield 116, 3) := by decide +kernel
theorem dX4_reaches_321 : decode cX4_reaches 321 = .ok (.lcmp, 1) := by decide +kernel
theorem dX4_reaches_322 : decode cX4_reaches 322 = .ok (.ifCond .ne 5, 3) := by decide +kernel
theorem dX4_reaches_325 : decode cX4_reaches 325 = .ok (.iconst 1, 1) := by decide +kernel
theorem dX4_reaches_326 : decode cX4_reaches 326 = .ok (.ireturn, 1) := by decide +kernel
theorem dX4_reaches_327 : decode cX4_reaches 327 = .ok (.iinc 6 1, 3) := by decide +kernel
theorem dX4_reaches_330 : decode cX4_reaches 330 = .ok (.goto (-114), 3) := by decide +kernel
theorem dX4_reaches_333 : decode cX4_reaches 333 = .ok (.iconst 0, 1) := by decide +kernel
theorem dX4_reaches_334 : decode cX4_reaches 334 = .ok (.ireturn, 1) := by decide +kernel
set_option maxRecDepth 20000 in
theorem ggX4_pickLines_X4_mayBe : GoodIn wsX4_pickLines wsX4_mayBe := goodIn_r _ [10, 11, 1, 12, 13, 14, 15, 16, 9, 17, 50, 51, 52, 53, 54, 55, 56, 57, 58, 59, 60, 61, 62, 63, 64, 65, 66, 67] rfl (by decide +kernel)
set_option maxRecDepth 20000 in
theorem gX4_pickLines_X4_mayBe : GoodIn wsX4_pickLines (wsV RX4 95 RX4 yX4_mayBe wsX4_mayBe) := goodIn_app (goodIn_of _ (by decide +kernel)) ggX4_pickLines_X4_mayBe
set_option maxRecDepth 20000 in
theorem ggX4_pickLines_X4_reaches : GoodIn wsX4_pickLines wsX4_reaches := goodIn_r _ [21, 22, 5, 23, 24, 4, 25, 26, 27, 28, 29, 30, 31, 9, 32, 33, 1, 34, 35, 36, 37, 13, 38, 14, 15, 16, 17, 39, 40, 41, 42, 12, 43, 44, 45, 46, 11, 47, 48, 49, 50, 51, 52, 53, 54, 55, 56, 57, 58, 59, 60, 61, 62, 63, 64, 65, 66, 67] rfl (by decide +kernel)
set_option maxRecDepth 20000 in
theorem gX4_pickLines_X4_reaches : GoodIn wsX4_pickLines (wsV RX4 134 RX4 yX4_reaches wsX4_reaches) := goodIn_app (goodIn_of _ (by decide +kernel)) ggX4_pickLines_X4_reaches
theorem dX4_pickLines_0 : decode cX4_pickLines 0 = .ok (.iconst 0, 1) := by decide +kernel
theorem dX4_pickLines_1 : decode cX4_pickLines 1 = .ok (.istore_n 1, 1) := by decide +kernel
theorem dX4_pickLines_2 : decode cX4_pickLines 2 = .ok (.iload_n 1, 1) := by decide +kernel
theorem dX4_pickLines_3 : decode cX4_pickLines 3 = .ok (.aload_n 0, 1) := by decide +kernel
theorem dX4_pickLines_4 : decode cX4_pickLines 4 = .ok (.getfield 57, 3) := by decide +kernel
theorem dX4_pickLines_7 : decode cX4_pickLines 7 = .ok (.if_icmp .ge 91, 3) := by decide +kernel
theorem dX4_pickLines_10 : decode cX4_pickLines 10 = .ok (.aload_n 0, 1) := by decide +kernel
theorem dX4_pickLines_11 : decode cX4_pickLines 11 = .ok (.getfield 57, 3) := by decide +kernel
theorem dX4_pickLines_14 : decode cX4_pickLines 14 = .ok (.iconst 1, 1) := by decide +kernel
theorem dX4_pickLines_15 : decode cX4_pickLines 15 = .ok (.isub, 1) := by decide +kernel
theorem dX4_pickLines_16 : decode cX4_pickLines 16 = .ok (.istore_n 2, 1) := by decide +kernel
theorem dX4_pickLines_17 : decode cX4_pickLines 17 = .ok (.aload_n 0, 1) := by decide +kernel
theorem dX4_pickLines_18 : decode cX4_pickLines 18 = .ok (.iload_n 1, 1) := by decide +kernel
theorem dX4_pickLines_19 : decode cX4_pickLines 19 = .ok (.iload_n 2, 1) := by decide +kernel
theorem dX4_pickLines_20 : decode cX4_pickLines 20 = .ok (.invokevirtual 95, 3) := by decide +kernel
theorem dX4_pickLines_23 : decode cX4_pickLines 23 = .ok (.ifCond .eq 16, 3) := by decide +kernel
theorem dX4_pickLines_26 : decode cX4_pickLines 26 = .ok (.aload_n 0, 1) := by decide +kernel
theorem dX4_pickLines_27 : decode cX4_pickLines 27 = .ok (.iload_n 1, 1) := by decide +kernel
theorem dX4_pickLines_28 : decode cX4_pickLines 28 = .ok (.iload_n 2, 1) := by decide +kernel
theorem dX4_pickLines_29 : decode cX4_pickLines 29 = .ok (.aload_n 0, 1) := by decide +kernel
theorem dX4_pickLines_30 : decode cX4_pickLines 30 = .ok (.getfield 122, 3) := by decide +kernel
theorem dX4_pickLines_33 : decode cX4_pickLines 33 = .ok (.invokevirtual 134, 3) := by decide +kernel
theorem dX4_pickLines_36 : decode cX4_pickLines 36 = .ok (.ifCond .ne 9, 3) := by decide +kernel
theorem dX4_pickLines_39 : decode cX4_pickLines 39 = .ok (.iinc 2 (-1), 3) := by decide +kernel
theorem dX4_pickLines_42 : decode cX4_pickLines 42 = .ok (.goto (-25), 3) := by decide +kernel
theorem dX4_pickLines_45 : decode cX4_pickLines 45 = .ok (.aload_n 0, 1) := by decide +kernel
theorem dX4_pickLines_46 : decode cX4_pickLines 46 = .ok (.getfield 27, 3) := by decide +kernel
theorem dX4_pickLines_49 : decode cX4_pickLines 49 = .ok (.aload_n 0, 1) := by decide +kernel
theorem dX4_pickLines_50 : decode cX4_pickLines 50 = .ok (.getfield 122, 3) := by decide +kernel
theorem dX4_pickLines_53 : decode cX4_pickLines 53 = .ok (.iload_n 1, 1) := by decide +kernel
theorem dX4_pickLines_54 : decode cX4_pickLines 54 = .ok (.iastore, 1) := by decide +kernel
theorem dX4_pickLines_55 : decode cX4_pickLines 55 = .ok (.aload_n 0, 1) := by decide +kernel
theorem dX4_pickLines_56 : decode cX4_pickLines 56 = .ok (.dup, 1) := by decide +kernel
theorem dX4_pickLines_57 : decode cX4_pickLines 57 = .ok (.getfield 122, 3) := by decide +kernel
theorem dX4_pickLines_60 : decode cX4_pickLines 60 = .ok (.iconst 1, 1) := by decide +kernel
theorem dX4_pickLines_61 : decode cX4_pickLines 61 = .ok (.iadd, 1) := by decide +kernel
theorem dX4_pickLines_62 : decode cX4_pickLines 62 = .ok (.putfield 122, 3) := by decide +kernel
theorem dX4_pickLines_65 : decode cX4_pickLines 65 = .ok (.iconst 0, 1) := by decide +kernel
theorem dX4_pickLines_66 : decode cX4_pickLines 66 = .ok (.istore_n 3, 1) := by decide +kernel
theorem dX4_pickLines_67 : decode cX4_pickLines 67 = .ok (.iload_n 3, 1) := by decide +kernel
theorem dX4_pickLines_68 : decode cX4_pickLines 68 = .ok (.bipush 18, 2) := by decide +kernel
theorem dX4_pickLines_70 : decode cX4_pickLines 70 = .ok (.if_icmp .ge 21, 3) := by decide +kernel
theorem dX4_pickLines_73 : decode cX4_pickLines 73 = .ok (.aload_n 0, 1) := by decide +kernel
theorem dX4_pickLines_74 : decode cX4_pickLines 74 = .ok (.getfield 33, 3) := by decide +kernel
theorem dX4_pickLines_77 : decode cX4_pickLines 77 = .ok (.iload_n 3, 1) := by decide +kernel
theorem dX4_pickLines_78 : decode cX4_pickLines 78 = .ok (.aload_n 0, 1) := by decide +kernel
theorem dX4_pickLines_79 : decode cX4_pickLines 79 = .ok (.getfield 36, 3) := by decide +kernel
theorem dX4_pickLines_82 : decode cX4_pickLines 82 = .ok (.iload_n 3, 1) := by decide +kernel
theorem dX4_pickLines_83 : decode cX4_pickLines 83 = .ok (.laload, 1) := by decide +kernel
theorem dX4_pickLines_84 : decode cX4_pickLines 84 = .ok (.lastore, 1) := by decide +kernel
theorem dX4_pickLines_85 : decode cX4_pickLines 85 = .ok (.iinc 3 1, 3) := by decide +kernel
theorem dX4_pickLines_88 : decode cX4_pickLines 88 = .ok (.goto (-21), 3) := by decide +kernel
theorem dX4_pickLines_91 : decode cX4_pickLines 91 = .ok (.iload_n 2, 1) := by decide +kernel
theorem dX4_pickLines_92 : decode cX4_pickLines 92 = .ok (.iconst 1, 1) := by decide +kernel
theorem dX4_pickLines_93 : decode cX4_pickLines 93 = .ok (.iadd, 1) := by decide +kernel
theorem dX4_pickLines_94 : decode cX4_pickLines 94 = .ok (.istore_n 1, 1) := by decide +kernel
theorem dX4_pickLines_95 : decode cX4_pickLines 95 = .ok (.goto (-93), 3) := by decide +kernel
theorem dX4_pickLines_98 : decode cX4_pickLines 98 = .ok (.aload_n 0, 1) := by decide +kernel
theorem dX4_pickLines_99 : decode cX4_pickLines 99 = .ok (.getfield 27, 3) := by decide +kernel
theorem dX4_pickLines_102 : decode cX4_pickLines 102 = .ok (.aload_n 0, 1) := by decide +kernel
theorem dX4_pickLines_103 : decode cX4_pickLines 103 = .ok (.getfield 122, 3) := by decide +kernel
theorem dX4_pickLines_106 : decode cX4_pickLines 106 = .ok (.aload_n 0, 1) := by decide +kernel
theorem dX4_pickLines_107 : decode cX4_pickLines 107 = .ok (.getfield 57, 3) := by decide +kernel
theorem dX4_pickLines_110 : decode cX4_pickLines 110 = .ok (.iastore, 1) := by decide +kernel
theorem dX4_pickLines_111 : decode cX4_pickLines 111 = .ok (.return_, 1) := by decide +kernel
set_option maxRecDepth 20000 in
theorem ggX4_pageCost_X4_turnAt : GoodIn wsX4_pageCost wsX4_turnAt := goodIn_r _ [8, 9, 2, 10, 11, 12, 13, 14, 15, 16, 17, 18, 19, 20, 21, 22, 23, 24, 25, 26, 27] rfl (by decide +kernel)
set_option maxRecDepth 20000 in
theorem gX4_pageCost_X4_turnAt : GoodIn wsX4_pageCost (wsV RX4 106 RX4 yX4_turnAt wsX4_turnAt) := goodIn_app (goodIn_of _ (by decide +kernel)) ggX4_pageCost_X4_turnAt
theorem dX4_pageCost_0 : decode cX4_pageCost 0 = .ok (.iload_n 2, 1) := by decide +kernel
theorem dX4_pageCost_1 : decode cX4_pageCost 1 = .ok (.aload_n 0, 1) := by decide +kernel
theorem dX4_pageCost_2 : decode cX4_pageCost 2 = .ok (.getfield 122, 3) := by decide +kernel
theorem dX4_pageCost_5 : decode cX4_pageCost 5 = .ok (.if_icmp .ne 25, 3) := by decide +kernel
theorem dX4_pageCost_8 : decode cX4_pageCost 8 = .ok (.iload_n 2, 1) := by decide +kernel
theorem dX4_pageCost_9 : decode cX4_pageCost 9 = .ok (.iload_n 1, 1) := by decide +kernel
theorem dX4_pageCost_10 : decode cX4_pageCost 10 = .ok (.isub, 1) := by decide +kernel
theorem dX4_pageCost_11 : decode cX4_pageCost 11 = .ok (.iconst 1, 1) := by decide +kernel
theorem dX4_pageCost_12 : decode cX4_pageCost 12 = .ok (.if_icmp .ne 16, 3) := by decide +kernel
theorem dX4_pageCost_15 : decode cX4_pageCost 15 = .ok (.iload_n 1, 1) := by decide +kernel
theorem dX4_pageCost_16 : decode cX4_pageCost 16 = .ok (.ifCond .le 12, 3) := by decide +kernel
theorem dX4_pageCost_19 : decode cX4_pageCost 19 = .ok (.aload_n 0, 1) := by decide +kernel
theorem dX4_pageCost_20 : decode cX4_pageCost 20 = .ok (.getfield 20, 3) := by decide +kernel
theorem dX4_pageCost_23 : decode cX4_pageCost 23 = .ok (.iconst 2, 1) := by decide +kernel
theorem dX4_pageCost_24 : decode cX4_pageCost 24 = .ok (.laload, 1) := by decide +kernel
theorem dX4_pageCost_25 : decode cX4_pageCost 25 = .ok (.goto 4, 3) := by decide +kernel
theorem dX4_pageCost_28 : decode cX4_pageCost 28 = .ok (.lconst 0, 1) := by decide +kernel
theorem dX4_pageCost_29 : decode cX4_pageCost 29 = .ok (.lreturn, 1) := by decide +kernel
theorem dX4_pageCost_30 : decode cX4_pageCost 30 = .ok (.aload_n 0, 1) := by decide +kernel
theorem dX4_pageCost_31 : decode cX4_pageCost 31 = .ok (.aload_n 0, 1) := by decide +kernel
theorem dX4_pageCost_32 : decode cX4_pageCost 32 = .ok (.getfield 27, 3) := by decide +kernel
theorem dX4_pageCost_35 : decode cX4_pageCost 35 = .ok (.iload_n 2, 1) := by decide +kernel
theorem dX4_pageCost_36 : decode cX4_pageCost 36 = .ok (.iaload, 1) := by decide +kernel
theorem dX4_pageCost_37 : decode cX4_pageCost 37 = .ok (.invokevirtual 106, 3) := by decide +kernel
theorem dX4_pageCost_40 : decode cX4_pageCost 40 = .ok (.lreturn, 1) := by decide +kernel
set_option maxRecDepth 20000 in
theorem ggX4_pickPages_X4_pageCost : GoodIn wsX4_pickPages wsX4_pageCost := goodIn_r _ [13, 2, 14, 15, 16, 17, 18, 12, 19, 20, 21, 22, 23, 24, 25, 26, 27, 28, 29, 30, 31, 32, 33, 34, 35, 36, 37, 38] rfl (by decide +kernel)
set_option maxRecDepth 20000 in
theorem gX4_pickPages_X4_pageCost : GoodIn wsX4_pickPages (wsV RX4 137 RX4 yX4_pageCost wsX4_pageCost) := goodIn_app (goodIn_of _ (by decide +kernel)) ggX4_pickPages_X4_pageCost
end
section
theorem dX4_pickPages_0 : decode cX4_pickPages 0 = .ok (.aload_n 0, 1) := by decide +kernel
theorem dX4_pickPages_1 : decode cX4_pickPages 1 = .ok (.getfield 39, 3) := by decide +kernel
theorem dX4_pickPages_4 : decode cX4_pickPages 4 = .ok (.aload_n 0, 1) := by decide +kernel
theorem dX4_pickPages_5 : decode cX4_pickPages 5 = .ok (.getfield 122, 3) := by decide +kernel
theorem dX4_pickPages_8 : decode cX4_pickPages 8 = .ok (.lconst 0, 1) := by decide +kernel
theorem dX4_pickPages_9 : decode cX4_pickPages 9 = .ok (.lastore, 1) := by decide +kernel
theorem dX4_pickPages_10 : decode cX4_pickPages 10 = .ok (.aload_n 0, 1) := by decide +kernel
theorem dX4_pickPages_11 : decode cX4_pickPages 11 = .ok (.getfield 122, 3) := by decide +kernel
theorem dX4_pickPages_14 : decode cX4_pickPages 14 = .ok (.iconst 1, 1) := by decide +kernel
theorem dX4_pickPages_15 : decode cX4_pickPages 15 = .ok (.isub, 1) := by decide +kernel
theorem dX4_pickPages_16 : decode cX4_pickPages 16 = .ok (.istore_n 1, 1) := by decide +kernel
theorem dX4_pickPages_17 : decode cX4_pickPages 17 = .ok (.iload_n 1, 1) := by decide +kernel
theorem dX4_pickPages_18 : decode cX4_pickPages 18 = .ok (.ifCond .lt 95, 3) := by decide +kernel
theorem dX4_pickPages_21 : decode cX4_pickPages 21 = .ok (.aload_n 0, 1) := by decide +kernel
theorem dX4_pickPages_22 : decode cX4_pickPages 22 = .ok (.getfield 39, 3) := by decide +kernel
theorem dX4_pickPages_25 : decode cX4_pickPages 25 = .ok (.iload_n 1, 1) := by decide +kernel
theorem dX4_pickPages_26 : decode cX4_pickPages 26 = .ok (.ldc2_w 91, 3) := by decide +kernel
theorem dX4_pickPages_29 : decode cX4_pickPages 29 = .ok (.lastore, 1) := by decide +kernel
theorem dX4_pickPages_30 : decode cX4_pickPages 30 = .ok (.iload_n 1, 1) := by decide +kernel
theorem dX4_pickPages_31 : decode cX4_pickPages 31 = .ok (.iconst 1, 1) := by decide +kernel
theorem dX4_pickPages_32 : decode cX4_pickPages 32 = .ok (.iadd, 1) := by decide +kernel
theorem dX4_pickPages_33 : decode cX4_pickPages 33 = .ok (.istore_n 2, 1) := by decide +kernel
theorem dX4_pickPages_34 : decode cX4_pickPages 34 = .ok (.iload_n 2, 1) := by decide +kernel
theorem dX4_pickPages_35 : decode cX4_pickPages 35 = .ok (.aload_n 0, 1) := by decide +kernel
theorem dX4_pickPages_36 : decode cX4_pickPages 36 = .ok (.getfield 122, 3) := by decide +kernel
theorem dX4_pickPages_39 : decode cX4_pickPages 39 = .ok (.if_icmp .gt 68, 3) := by decide +kernel
theorem dX4_pickPages_42 : decode cX4_pickPages 42 = .ok (.iload_n 2, 1) := by decide +kernel
theorem dX4_pickPages_43 : decode cX4_pickPages 43 = .ok (.iload_n 1, 1) := by decide +kernel
theorem dX4_pickPages_44 : decode cX4_pickPages 44 = .ok (.isub, 1) := by decide +kernel
theorem dX4_pickPages_45 : decode cX4_pickPages 45 = .ok (.aload_n 0, 1) := by decide +kernel
theorem dX4_pickPages_46 : decode cX4_pickPages 46 = .ok (.getfield 46, 3) := by decide +kernel
theorem dX4_pickPages_49 : decode cX4_pickPages 49 = .ok (.if_icmp .gt 58, 3) := by decide +kernel
theorem dX4_pickPages_52 : decode cX4_pickPages 52 = .ok (.ldc2_w 93, 3) := by decide +kernel
theorem dX4_pickPages_55 : decode cX4_pickPages 55 = .ok (.aload_n 0, 1) := by decide +kernel
theorem dX4_pickPages_56 : decode cX4_pickPages 56 = .ok (.iload_n 1, 1) := by decide +kernel
theorem dX4_pickPages_57 : decode cX4_pickPages 57 = .ok (.iload_n 2, 1) := by decide +kernel
theorem dX4_pickPages_58 : decode cX4_pickPages 58 = .ok (.invokevirtual 137, 3) := by decide +kernel
theorem dX4_pickPages_61 : decode cX4_pickPages 61 = .ok (.lmul, 1) := by decide +kernel
theorem dX4_pickPages_62 : decode cX4_pickPages 62 = .ok (.ldc2_w 110, 3) := by decide +kernel
theorem dX4_pickPages_65 : decode cX4_pickPages 65 = .ok (.ladd, 1) := by decide +kernel
theorem dX4_pickPages_66 : decode cX4_pickPages 66 = .ok (.aload_n 0, 1) := by decide +kernel
theorem dX4_pickPages_67 : decode cX4_pickPages 67 = .ok (.getfield 39, 3) := by decide +kernel
theorem dX4_pickPages_70 : decode cX4_pickPages 70 = .ok (.iload_n 2, 1) := by decide +kernel
theorem dX4_pickPages_71 : decode cX4_pickPages 71 = .ok (.laload, 1) := by decide +kernel
theorem dX4_pickPages_72 : decode cX4_pickPages 72 = .ok (.ladd, 1) := by decide +kernel
theorem dX4_pickPages_73 : decode cX4_pickPages 73 = .ok (.lstore_n 3, 1) := by decide +kernel
theorem dX4_pickPages_74 : decode cX4_pickPages 74 = .ok (.aload_n 0, 1) := by decide +kernel
theorem dX4_pickPages_75 : decode cX4_pickPages 75 = .ok (.getfield 39, 3) := by decide +kernel
theorem dX4_pickPages_78 : decode cX4_pickPages 78 = .ok (.iload_n 1, 1) := by decide +kernel
theorem dX4_pickPages_79 : decode cX4_pickPages 79 = .ok (.lload_n 3, 1) := by decide +kernel
theorem dX4_pickPages_80 : decode cX4_pickPages 80 = .ok (.aload_n 0, 1) := by decide +kernel
theorem dX4_pickPages_81 : decode cX4_pickPages 81 = .ok (.getfield 39, 3) := by decide +kernel
theorem dX4_pickPages_84 : decode cX4_pickPages 84 = .ok (.iload_n 1, 1) := by decide +kernel
theorem dX4_pickPages_85 : decode cX4_pickPages 85 = .ok (.laload, 1) := by decide +kernel
theorem dX4_pickPages_86 : decode cX4_pickPages 86 = .ok (.lcmp, 1) := by decide +kernel
theorem dX4_pickPages_87 : decode cX4_pickPages 87 = .ok (.ifCond .ge 7, 3) := by decide +kernel
theorem dX4_pickPages_90 : decode cX4_pickPages 90 = .ok (.lload_n 3, 1) := by decide +kernel
theorem dX4_pickPages_91 : decode cX4_pickPages 91 = .ok (.goto 9, 3) := by decide +kernel
theorem dX4_pickPages_94 : decode cX4_pickPages 94 = .ok (.aload_n 0, 1) := by decide +kernel
theorem dX4_pickPages_95 : decode cX4_pickPages 95 = .ok (.getfield 39, 3) := by decide +kernel
theorem dX4_pickPages_98 : decode cX4_pickPages 98 = .ok (.iload_n 1, 1) := by decide +kernel
theorem dX4_pickPages_99 : decode cX4_pickPages 99 = .ok (.laload, 1) := by decide +kernel
theorem dX4_pickPages_100 : decode cX4_pickPages 100 = .ok (.lastore, 1) := by decide +kernel
theorem dX4_pickPages_101 : decode cX4_pickPages 101 = .ok (.iinc 2 1, 3) := by decide +kernel
theorem dX4_pickPages_104 : decode cX4_pickPages 104 = .ok (.goto (-70), 3) := by decide +kernel
theorem dX4_pickPages_107 : decode cX4_pickPages 107 = .ok (.iinc 1 (-1), 3) := by decide +kernel
theorem dX4_pickPages_110 : decode cX4_pickPages 110 = .ok (.goto (-93), 3) := by decide +kernel
theorem dX4_pickPages_113 : decode cX4_pickPages 113 = .ok (.iconst 0, 1) := by decide +kernel
theorem dX4_pickPages_114 : decode cX4_pickPages 114 = .ok (.istore_n 1, 1) := by decide +kernel
theorem dX4_pickPages_115 : decode cX4_pickPages 115 = .ok (.iload_n 1, 1) := by decide +kernel
theorem dX4_pickPages_116 : decode cX4_pickPages 116 = .ok (.aload_n 0, 1) := by decide +kernel
theorem dX4_pickPages_117 : decode cX4_pickPages 117 = .ok (.getfield 122, 3) := by decide +kernel
theorem dX4_pickPages_120 : decode cX4_pickPages 120 = .ok (.if_icmp .ge 92, 3) := by decide +kernel
theorem dX4_pickPages_123 : decode cX4_pickPages 123 = .ok (.iload_n 1, 1) := by decide +kernel
theorem dX4_pickPages_124 : decode cX4_pickPages 124 = .ok (.aload_n 0, 1) := by decide +kernel
theorem dX4_pickPages_125 : decode cX4_pickPages 125 = .ok (.getfield 46, 3) := by decide +kernel
theorem dX4_pickPages_128 : decode cX4_pickPages 128 = .ok (.iadd, 1) := by decide +kernel
theorem dX4_pickPages_129 : decode cX4_pickPages 129 = .ok (.aload_n 0, 1) := by decide +kernel
theorem dX4_pickPages_130 : decode cX4_pickPages 130 = .ok (.getfield 122, 3) := by decide +kernel
theorem dX4_pickPages_133 : decode cX4_pickPages 133 = .ok (.if_icmp .ge 12, 3) := by decide +kernel
theorem dX4_pickPages_136 : decode cX4_pickPages 136 = .ok (.iload_n 1, 1) := by decide +kernel
theorem dX4_pickPages_137 : decode cX4_pickPages 137 = .ok (.aload_n 0, 1) := by decide +kernel
theorem dX4_pickPages_138 : decode cX4_pickPages 138 = .ok (.getfield 46, 3) := by decide +kernel
theorem dX4_pickPages_141 : decode cX4_pickPages 141 = .ok (.iadd, 1) := by decide +kernel
theorem dX4_pickPages_142 : decode cX4_pickPages 142 = .ok (.goto 7, 3) := by decide +kernel
theorem dX4_pickPages_145 : decode cX4_pickPages 145 = .ok (.aload_n 0, 1) := by decide +kernel
theorem dX4_pickPages_146 : decode cX4_pickPages 146 = .ok (.getfield 122, 3) := by decide +kernel
theorem dX4_pickPages_149 : decode cX4_pickPages 149 = .ok (.istore_n 2, 1) := by decide +kernel
theorem dX4_pickPages_150 : decode cX4_pickPages 150 = .ok (.ldc2_w 93, 3) := by decide +kernel
theorem dX4_pickPages_153 : decode cX4_pickPages 153 = .ok (.aload_n 0, 1) := by decide +kernel
theorem dX4_pickPages_154 : decode cX4_pickPages 154 = .ok (.iload_n 1, 1) := by decide +kernel
theorem dX4_pickPages_155 : decode cX4_pickPages 155 = .ok (.iload_n 2, 1) := by decide +kernel
theorem dX4_pickPages_156 : decode cX4_pickPages 156 = .ok (.invokevirtual 137, 3) := by decide +kernel
theorem dX4_pickPages_159 : decode cX4_pickPages 159 = .ok (.lmul, 1) := by decide +kernel
theorem dX4_pickPages_160 : decode cX4_pickPages 160 = .ok (.ldc2_w 110, 3) := by decide +kernel
theorem dX4_pickPages_163 : decode cX4_pickPages 163 = .ok (.ladd, 1) := by decide +kernel
theorem dX4_pickPages_164 : decode cX4_pickPages 164 = .ok (.aload_n 0, 1) := by decide +kernel
theorem dX4_pickPages_165 : decode cX4_pickPages 165 = .ok (.getfield 39, 3) := by decide +kernel
theorem dX4_pickPages_168 : decode cX4_pickPages 168 = .ok (.iload_n 2, 1) := by decide +kernel
theorem dX4_pickPages_169 : decode cX4_pickPages 169 = .ok (.laload, 1) := by decide +kernel
theorem dX4_pickPages_170 : decode cX4_pickPages 170 = .ok (.ladd, 1) := by decide +kernel
theorem dX4_pickPages_171 : decode cX4_pickPages 171 = .ok (.aload_n 0, 1) := by decide +kernel
theorem dX4_pickPages_172 : decode cX4_pickPages 172 = .ok (.getfield 39, 3) := by decide +kernel
theorem dX4_pickPages_175 : decode cX4_pickPages 175 = .ok (.iload_n 1, 1) := by decide +kernel
theorem dX4_pickPages_176 : decode cX4_pickPages 176 = .ok (.laload, 1) := by decide +kernel
theorem dX4_pickPages_177 : decode cX4_pickPages 177 = .ok (.lcmp, 1) := by decide +kernel
theorem dX4_pickPages_178 : decode cX4_pickPages 178 = .ok (.ifCond .eq 9, 3) := by decide +kernel
theorem dX4_pickPages_181 : decode cX4_pickPages 181 = .ok (.iinc 2 (-1), 3) := by decide +kernel
theorem dX4_pickPages_184 : decode cX4_pickPages 184 = .ok (.goto (-34), 3) := by decide +kernel
theorem dX4_pickPages_187 : decode cX4_pickPages 187 = .ok (.aload_n 0, 1) := by decide +kernel
theorem dX4_pickPages_188 : decode cX4_pickPages 188 = .ok (.getfield 30, 3) := by decide +kernel
theorem dX4_pickPages_191 : decode cX4_pickPages 191 = .ok (.aload_n 0, 1) := by decide +kernel
theorem dX4_pickPages_192 : decode cX4_pickPages 192 = .ok (.getfield 125, 3) := by decide +kernel
theorem dX4_pickPages_195 : decode cX4_pickPages 195 = .ok (.iload_n 1, 1) := by decide +kernel
theorem dX4_pickPages_196 : decode cX4_pickPages 196 = .ok (.iastore, 1) := by decide +kernel
theorem dX4_pickPages_197 : decode cX4_pickPages 197 = .ok (.aload_n 0, 1) := by decide +kernel
theorem dX4_pickPages_198 : decode cX4_pickPages 198 = .ok (.dup, 1) := by decide +kernel
theorem dX4_pickPages_199 : decode cX4_pickPages 199 = .ok (.getfield 125, 3) := by decide +kernel
theorem dX4_pickPages_202 : decode cX4_pickPages 202 = .ok (.iconst 1, 1) := by decide +kernel
theorem dX4_pickPages_203 : decode cX4_pickPages 203 = .ok (.iadd, 1) := by decide +kernel
theorem dX4_pickPages_204 : decode cX4_pickPages 204 = .ok (.putfield 125, 3) := by decide +kernel
theorem dX4_pickPages_207 : decode cX4_pickPages 207 = .ok (.iload_n 2, 1) := by decide +kernel
theorem dX4_pickPages_208 : decode cX4_pickPages 208 = .ok (.istore_n 1, 1) := by decide +kernel
theorem dX4_pickPages_209 : decode cX4_pickPages 209 = .ok (.goto (-94), 3) := by decide +kernel
theorem dX4_pickPages_212 : decode cX4_pickPages 212 = .ok (.aload_n 0, 1) := by decide +kernel
theorem dX4_pickPages_213 : decode cX4_pickPages 213 = .ok (.getfield 30, 3) := by decide +kernel
theorem dX4_pickPages_216 : decode cX4_pickPages 216 = .ok (.aload_n 0, 1) := by decide +kernel
theorem dX4_pickPages_217 : decode cX4_pickPages 217 = .ok (.getfield 125, 3) := by decide +kernel
theorem dX4_pickPages_220 : decode cX4_pickPages 220 = .ok (.aload_n 0, 1) := by decide +kernel
theorem dX4_pickPages_221 : decode cX4_pickPages 221 = .ok (.getfield 122, 3) := by decide +kernel
theorem dX4_pickPages_224 : decode cX4_pickPages 224 = .ok (.iastore, 1) := by decide +kernel
theorem dX4_pickPages_225 : decode cX4_pickPages 225 = .ok (.return_, 1) := by decide +kernel
set_option maxRecDepth 20000 in
theorem ggX4_isThere_X4_find : GoodIn wsX4_isThere wsX4_find := goodIn_r _ [7, 8, 9, 10, 11, 12, 2, 1, 13, 14, 15, 16, 17, 18, 6, 19, 20, 21, 22, 23, 24, 25, 26, 27, 28, 29, 30, 31, 32, 33, 34, 35, 36, 37, 38, 39, 40, 41, 42, 43, 44, 45, 46, 47, 48, 49, 50, 51, 52, 53, 54, 55, 56, 57, 58, 59, 60, 61, 62, 63, 64, 65, 66, 67, 68, 69, 70, 71, 72, 73, 74, 75, 76, 77, 78, 79, 80, 81, 82, 83, 84, 85, 86, 87, 88, 89, 90, 91, 92] rfl (by decide +kernel)
set_option maxRecDepth 20000 in
theorem gX4_isThere_X4_find : GoodIn wsX4_isThere (wsV RX4 140 RX4 yX4_find wsX4_find) := goodIn_app (goodIn_of _ (by decide +kernel)) ggX4_isThere_X4_find
theorem dX4_isThere_0 : decode cX4_isThere 0 = .ok (.aload_n 0, 1) := by decide +kernel
theorem dX4_isThere_1 : decode cX4_isThere 1 = .ok (.invokevirtual 140, 3) := by decide +kernel
theorem dX4_isThere_4 : decode cX4_isThere 4 = .ok (.aload_n 0, 1) := by decide +kernel
theorem dX4_isThere_5 : decode cX4_isThere 5 = .ok (.getfield 116, 3) := by decide +kernel
theorem dX4_isThere_8 : decode cX4_isThere 8 = .ok (.ldc2_w 91, 3) := by decide +kernel
theorem dX4_isThere_11 : decode cX4_isThere 11 = .ok (.lcmp, 1) := by decide +kernel
theorem dX4_isThere_12 : decode cX4_isThere 12 = .ok (.ifCond .eq 7, 3) := by decide +kernel
theorem dX4_isThere_15 : decode cX4_isThere 15 = .ok (.iconst 1, 1) := by decide +kernel
theorem dX4_isThere_16 : decode cX4_isThere 16 = .ok (.goto 4, 3) := by decide +kernel
theorem dX4_isThere_19 : decode cX4_isThere 19 = .ok (.iconst 0, 1) := by decide +kernel
theorem dX4_isThere_20 : decode cX4_isThere 20 = .ok (.ireturn, 1) := by decide +kernel
set_option maxRecDepth 20000 in
theorem ggX4_lines_X4_isThere : GoodIn wsX4_lines wsX4_isThere := goodIn_r _ [6, 7, 8, 9, 10, 11, 5, 12, 13, 14, 15, 16, 17, 18, 19, 1, 20, 21, 22, 23, 24, 25, 26, 27, 28, 29, 30, 31, 32, 33, 34, 35, 36, 37, 38, 39, 40, 41, 42, 43, 44, 45, 46, 47, 48, 49, 50, 51, 52, 53, 54, 55, 56, 57, 58, 59, 60, 61, 62, 63, 64, 65, 66, 67, 68, 69, 70, 71, 72, 73, 74, 75, 76, 77, 78, 79, 80, 81, 82, 83, 84, 85, 86, 87, 88, 89, 90, 91, 92, 93, 94, 95, 96] rfl (by decide +kernel)
set_option maxRecDepth 20000 in
theorem gX4_lines_X4_isThere : GoodIn wsX4_lines (wsV RX4 143 RX4 yX4_isThere wsX4_isThere) := goodIn_app (goodIn_of _ (by decide +kernel)) ggX4_lines_X4_isThere
theorem dX4_lines_0 : decode cX4_lines 0 = .ok (.aload_n 0, 1) := by decide +kernel
theorem dX4_lines_1 : decode cX4_lines 1 = .ok (.invokevirtual 143, 3) := by decide +kernel
theorem dX4_lines_4 : decode cX4_lines 4 = .ok (.ifCond .eq 10, 3) := by decide +kernel
theorem dX4_lines_7 : decode cX4_lines 7 = .ok (.aload_n 0, 1) := by decide +kernel
theorem dX4_lines_8 : decode cX4_lines 8 = .ok (.getfield 122, 3) := by decide +kernel
theorem dX4_lines_11 : decode cX4_lines 11 = .ok (.goto 5, 3) := by decide +kernel
theorem dX4_lines_14 : decode cX4_lines 14 = .ok (.bipush (-3), 2) := by decide +kernel
theorem dX4_lines_16 : decode cX4_lines 16 = .ok (.ireturn, 1) := by decide +kernel
set_option maxRecDepth 20000 in
theorem ggX4_pages_X4_isThere : GoodIn wsX4_pages wsX4_isThere := goodIn_r _ [6, 7, 8, 9, 10, 11, 5, 12, 13, 14, 15, 16, 17, 18, 19, 20, 1, 21, 22, 23, 24, 25, 26, 27, 28, 29, 30, 31, 32, 33, 34, 35, 36, 37, 38, 39, 40, 41, 42, 43, 44, 45, 46, 47, 48, 49, 50, 51, 52, 53, 54, 55, 56, 57, 58, 59, 60, 61, 62, 63, 64, 65, 66, 67, 68, 69, 70, 71, 72, 73, 74, 75, 76, 77, 78, 79, 80, 81, 82, 83, 84, 85, 86, 87, 88, 89, 90, 91, 92, 93, 94, 95, 96] rfl (by decide +kernel)
set_option maxRecDepth 20000 in
theorem gX4_pages_X4_isThere : GoodIn wsX4_pages (wsV RX4 143 RX4 yX4_isThere wsX4_isThere) := goodIn_app (goodIn_of _ (by decide +kernel)) ggX4_pages_X4_isThere
theorem dX4_pages_0 : decode cX4_pages 0 = .ok (.aload_n 0, 1) := by decide +kernel
theorem dX4_pages_1 : decode cX4_pages 1 = .ok (.invokevirtual 143, 3) := by decide +kernel
theorem dX4_pages_4 : decode cX4_pages 4 = .ok (.ifCond .eq 10, 3) := by decide +kernel
theorem dX4_pages_7 : decode cX4_pages 7 = .ok (.aload_n 0, 1) := by decide +kernel
theorem dX4_pages_8 : decode cX4_pages 8 = .ok (.getfield 125, 3) := by decide +kernel
theorem dX4_pages_11 : decode cX4_pages 11 = .ok (.goto 5, 3) := by decide +kernel
theorem dX4_pages_14 : decode cX4_pages 14 = .ok (.bipush (-3), 2) := by decide +kernel
theorem dX4_pages_16 : decode cX4_pages 16 = .ok (.ireturn, 1) := by decide +kernel
set_option maxRecDepth 20000 in
theorem ggX4_sum_X4_isThere : GoodIn wsX4_sum wsX4_isThere := goodIn_r _ [8, 1, 9, 10, 11, 12, 7, 13, 14, 15, 16, 17, 18, 2, 19, 20, 21, 22, 23, 24, 25, 26, 27, 28, 29, 30, 31, 32, 33, 34, 35, 36, 37, 38, 39, 40, 41, 42, 43, 44, 45, 46, 47, 48, 49, 50, 51, 52, 53, 54, 55, 56, 57, 58, 59, 60, 61, 62, 63, 64, 65, 66, 67, 68, 69, 70, 71, 72, 73, 74, 75, 76, 77, 78, 79, 80, 81, 82, 83, 84, 85, 86, 87, 88, 89, 90, 91, 92, 93, 94, 95, 96, 97] rfl (by decide +kernel)
set_option maxRecDepth 20000 in
theorem gX4_sum_X4_isThere : GoodIn wsX4_sum (wsV RX4 143 RX4 yX4_isThere wsX4_isThere) := goodIn_app (goodIn_of _ (by decide +kernel)) ggX4_sum_X4_isThere
theorem dX4_sum_0 : decode cX4_sum 0 = .ok (.aload_n 0, 1) := by decide +kernel
theorem dX4_sum_1 : decode cX4_sum 1 = .ok (.invokevirtual 143, 3) := by decide +kernel
theorem dX4_sum_4 : decode cX4_sum 4 = .ok (.ifCond .eq 14, 3) := by decide +kernel
theorem dX4_sum_7 : decode cX4_sum 7 = .ok (.aload_n 0, 1) := by decide +kernel
theorem dX4_sum_8 : decode cX4_sum 8 = .ok (.getfield 116, 3) := by decide +kernel
theorem dX4_sum_11 : decode cX4_sum 11 = .ok (.ldc2_w 93, 3) := by decide +kernel
theorem dX4_sum_14 : decode cX4_sum 14 = .ok (.ldiv, 1) := by decide +kernel
theorem dX4_sum_15 : decode cX4_sum 15 = .ok (.goto 6, 3) := by decide +kernel
theorem dX4_sum_18 : decode cX4_sum 18 = .ok (.ldc2_w 147, 3) := by decide +kernel
theorem dX4_sum_21 : decode cX4_sum 21 = .ok (.lreturn, 1) := by decide +kernel
theorem dX4_pageOf_0 : decode cX4_pageOf 0 = .ok (.iconst 0, 1) := by decide +kernel
theorem dX4_pageOf_1 : decode cX4_pageOf 1 = .ok (.istore_n 2, 1) := by decide +kernel
theorem dX4_pageOf_2 : decode cX4_pageOf 2 = .ok (.aload_n 0, 1) := by decide +kernel
theorem dX4_pageOf_3 : decode cX4_pageOf 3 = .ok (.getfield 30, 3) := by decide +kernel
theorem dX4_pageOf_6 : decode cX4_pageOf 6 = .ok (.iload_n 2, 1) := by decide +kernel
theorem dX4_pageOf_7 : decode cX4_pageOf 7 = .ok (.iconst 1, 1) := by decide +kernel
theorem dX4_pageOf_8 : decode cX4_pageOf 8 = .ok (.iadd, 1) := by decide +kernel
theorem dX4_pageOf_9 : decode cX4_pageOf 9 = .ok (.iaload, 1) := by decide +kernel
theorem dX4_pageOf_10 : decode cX4_pageOf 10 = .ok (.iload_n 1, 1) := by decide +kernel
theorem dX4_pageOf_11 : decode cX4_pageOf 11 = .ok (.if_icmp .gt 9, 3) := by decide +kernel
theorem dX4_pageOf_14 : decode cX4_pageOf 14 = .ok (.iinc 2 1, 3) := by decide +kernel
theorem dX4_pageOf_17 : decode cX4_pageOf 17 = .ok (.goto (-15), 3) := by decide +kernel
theorem dX4_pageOf_20 : decode cX4_pageOf 20 = .ok (.iload_n 2, 1) := by decide +kernel
theorem dX4_pageOf_21 : decode cX4_pageOf 21 = .ok (.ireturn, 1) := by decide +kernel
theorem dX4_lineOf_0 : decode cX4_lineOf 0 = .ok (.iconst 0, 1) := by decide +kernel
theorem dX4_lineOf_1 : decode cX4_lineOf 1 = .ok (.istore_n 2, 1) := by decide +kernel
theorem dX4_lineOf_2 : decode cX4_lineOf 2 = .ok (.aload_n 0, 1) := by decide +kernel
theorem dX4_lineOf_3 : decode cX4_lineOf 3 = .ok (.getfield 27, 3) := by decide +kernel
theorem dX4_lineOf_6 : decode cX4_lineOf 6 = .ok (.iload_n 2, 1) := by decide +kernel
theorem dX4_lineOf_7 : decode cX4_lineOf 7 = .ok (.iconst 1, 1) := by decide +kernel
theorem dX4_lineOf_8 : decode cX4_lineOf 8 = .ok (.iadd, 1) := by decide +kernel
theorem dX4_lineOf_9 : decode cX4_lineOf 9 = .ok (.iaload, 1) := by decide +kernel
theorem dX4_lineOf_10 : decode cX4_lineOf 10 = .ok (.iload_n 1, 1) := by decide +kernel
theorem dX4_lineOf_11 : decode cX4_lineOf 11 = .ok (.if_icmp .gt 9, 3) := by decide +kernel
theorem dX4_lineOf_14 : decode cX4_lineOf 14 = .ok (.iinc 2 1, 3) := by decide +kernel
theorem dX4_lineOf_17 : decode cX4_lineOf 17 = .ok (.goto (-15), 3) := by decide +kernel
theorem dX4_lineOf_20 : decode cX4_lineOf 20 = .ok (.iload_n 2, 1) := by decide +kernel
theorem dX4_lineOf_21 : decode cX4_lineOf 21 = .ok (.ireturn, 1) := by decide +kernel
set_option maxRecDepth 20000 in
theorem ggX4_line_X4_isThere : GoodIn wsX4_line wsX4_isThere := goodIn_r _ [8, 9, 10, 11, 12, 13, 7, 14, 15, 16, 17, 18, 19, 20, 21, 1, 22, 23, 24, 25, 26, 27, 28, 29, 30, 31, 32, 33, 34, 35, 36, 37, 38, 39, 40, 41, 42, 43, 44, 45, 46, 47, 48, 49, 50, 51, 52, 53, 54, 55, 56, 57, 58, 59, 60, 61, 62, 63, 2, 64, 65, 66, 67, 68, 69, 70, 71, 72, 73, 74, 75, 76, 77, 78, 79, 87, 88, 89, 90, 91, 92, 93, 94, 95, 96, 97, 98, 99, 100, 101, 102, 103, 104] rfl (by decide +kernel)
set_option maxRecDepth 20000 in
theorem gX4_line_X4_isThere : GoodIn wsX4_line (wsV RX4 143 RX4 yX4_isThere wsX4_isThere) := goodIn_app (goodIn_of _ (by decide +kernel)) ggX4_line_X4_isThere
set_option maxRecDepth 20000 in
theorem ggX4_line_X4_in : GoodIn wsX4_line wsX4_in := goodIn_r _ [82] rfl (by decide +kernel)
set_option maxRecDepth 20000 in
theorem gX4_line_X4_in : GoodIn wsX4_line (va_wsS RX4 60 yX4_in wsX4_in) := goodIn_app (goodIn_of _ (by decide +kernel)) ggX4_line_X4_in
set_option maxRecDepth 20000 in
theorem ggX4_line_X4_pageOf : GoodIn wsX4_line wsX4_pageOf := goodIn_r _ [86, 75, 87, 88, 89, 90, 91, 92, 93, 94, 95, 96, 97, 98, 99, 100, 101, 102, 103, 104] rfl (by decide +kernel)
set_option maxRecDepth 20000 in
theorem gX4_line_X4_pageOf : GoodIn wsX4_line (wsV RX4 149 RX4 yX4_pageOf wsX4_pageOf) := goodIn_app (goodIn_of _ (by decide +kernel)) ggX4_line_X4_pageOf
set_option maxRecDepth 20000 in
theorem ggX4_line_X4_off : GoodIn wsX4_line wsX4_off := goodIn_r _ [50, 38, 51, 39, 40, 41, 7, 42, 87, 88, 89, 90, 91, 92, 93, 94, 95, 96, 97, 98, 99, 100, 101, 102, 103, 104] rfl (by decide +kernel)
set_option maxRecDepth 20000 in
theorem gX4_line_X4_off : GoodIn wsX4_line (wsV RX4 84 RX4 yX4_off wsX4_off) := goodIn_app (goodIn_of _ (by decide +kernel)) ggX4_line_X4_off
theorem dX4_line_0 : decode cX4_line 0 = .ok (.aload_n 0, 1) := by decide +kernel
theorem dX4_line_1 : decode cX4_line 1 = .ok (.invokevirtual 143, 3) := by decide +kernel
theorem dX4_line_4 : decode cX4_line 4 = .ok (.ifCond .ne 6, 3) := by decide +kernel
theorem dX4_line_7 : decode cX4_line 7 = .ok (.bipush (-3), 2) := by decide +kernel
theorem dX4_line_9 : decode cX4_line 9 = .ok (.ireturn, 1) := by decide +kernel
theorem dX4_line_10 : decode cX4_line 10 = .ok (.iload_n 1, 1) := by decide +kernel
theorem dX4_line_11 : decode cX4_line 11 = .ok (.iconst 0, 1) := by decide +kernel
theorem dX4_line_12 : decode cX4_line 12 = .ok (.aload_n 0, 1) := by decide +kernel
theorem dX4_line_13 : decode cX4_line 13 = .ok (.getfield 122, 3) := by decide +kernel
theorem dX4_line_16 : decode cX4_line 16 = .ok (.iconst 1, 1) := by decide +kernel
theorem dX4_line_17 : decode cX4_line 17 = .ok (.isub, 1) := by decide +kernel
theorem dX4_line_18 : decode cX4_line 18 = .ok (.invokestatic 60, 3) := by decide +kernel
theorem dX4_line_21 : decode cX4_line 21 = .ok (.ifCond .ne 5, 3) := by decide +kernel
theorem dX4_line_24 : decode cX4_line 24 = .ok (.iconst (-1), 1) := by decide +kernel
theorem dX4_line_25 : decode cX4_line 25 = .ok (.ireturn, 1) := by decide +kernel
theorem dX4_line_26 : decode cX4_line 26 = .ok (.iload_n 2, 1) := by decide +kernel
theorem dX4_line_27 : decode cX4_line 27 = .ok (.tableswitch 77 0 3 #[29, 36, 47, 53], 29) := by decide +kernel
theorem dX4_line_56 : decode cX4_line 56 = .ok (.aload_n 0, 1) := by decide +kernel
theorem dX4_line_57 : decode cX4_line 57 = .ok (.getfield 27, 3) := by decide +kernel
theorem dX4_line_60 : decode cX4_line 60 = .ok (.iload_n 1, 1) := by decide +kernel
theorem dX4_line_61 : decode cX4_line 61 = .ok (.iaload, 1) := by decide +kernel
theorem dX4_line_62 : decode cX4_line 62 = .ok (.ireturn, 1) := by decide +kernel
theorem dX4_line_63 : decode cX4_line 63 = .ok (.aload_n 0, 1) := by decide +kernel
theorem dX4_line_64 : decode cX4_line 64 = .ok (.getfield 27, 3) := by decide +kernel
theorem dX4_line_67 : decode cX4_line 67 = .ok (.iload_n 1, 1) := by decide +kernel
theorem dX4_line_68 : decode cX4_line 68 = .ok (.iconst 1, 1) := by decide +kernel
theorem dX4_line_69 : decode cX4_line 69 = .ok (.iadd, 1) := by decide +kernel
theorem dX4_line_70 : decode cX4_line 70 = .ok (.iaload, 1) := by decide +kernel
theorem dX4_line_71 : decode cX4_line 71 = .ok (.iconst 1, 1) := by decide +kernel
theorem dX4_line_72 : decode cX4_line 72 = .ok (.isub, 1) := by decide +kernel
theorem dX4_line_73 : decode cX4_line 73 = .ok (.ireturn, 1) := by decide +kernel
theorem dX4_line_74 : decode cX4_line 74 = .ok (.aload_n 0, 1) := by decide +kernel
theorem dX4_line_75 : decode cX4_line 75 = .ok (.iload_n 1, 1) := by decide +kernel
theorem dX4_line_76 : decode cX4_line 76 = .ok (.invokevirtual 149, 3) := by decide +kernel
theorem dX4_line_79 : decode cX4_line 79 = .ok (.ireturn, 1) := by decide +kernel
theorem dX4_line_80 : decode cX4_line 80 = .ok (.ldc 76, 2) := by decide +kernel
theorem dX4_line_82 : decode cX4_line 82 = .ok (.aload_n 0, 1) := by decide +kernel
theorem dX4_line_83 : decode cX4_line 83 = .ok (.aload_n 0, 1) := by decide +kernel
theorem dX4_line_84 : decode cX4_line 84 = .ok (.getfield 27, 3) := by decide +kernel
theorem dX4_line_87 : decode cX4_line 87 = .ok (.iload_n 1, 1) := by decide +kernel
theorem dX4_line_88 : decode cX4_line 88 = .ok (.iaload, 1) := by decide +kernel
theorem dX4_line_89 : decode cX4_line 89 = .ok (.aload_n 0, 1) := by decide +kernel
theorem dX4_line_90 : decode cX4_line 90 = .ok (.getfield 27, 3) := by decide +kernel
theorem dX4_line_93 : decode cX4_line 93 = .ok (.iload_n 1, 1) := by decide +kernel
theorem dX4_line_94 : decode cX4_line 94 = .ok (.iconst 1, 1) := by decide +kernel
theorem dX4_line_95 : decode cX4_line 95 = .ok (.iadd, 1) := by decide +kernel
theorem dX4_line_96 : decode cX4_line 96 = .ok (.iaload, 1) := by decide +kernel
theorem dX4_line_97 : decode cX4_line 97 = .ok (.iconst 1, 1) := by decide +kernel
theorem dX4_line_98 : decode cX4_line 98 = .ok (.isub, 1) := by decide +kernel
theorem dX4_line_99 : decode cX4_line 99 = .ok (.invokevirtual 84, 3) := by decide +kernel
theorem dX4_line_102 : decode cX4_line 102 = .ok (.iadd, 1) := by decide +kernel
theorem dX4_line_103 : decode cX4_line 103 = .ok (.ireturn, 1) := by decide +kernel
theorem dX4_line_104 : decode cX4_line 104 = .ok (.bipush (-2), 2) := by decide +kernel
theorem dX4_line_106 : decode cX4_line 106 = .ok (.ireturn, 1) := by decide +kernel
set_option maxRecDepth 20000 in
theorem ggX4_page_X4_isThere : GoodIn wsX4_page wsX4_isThere := goodIn_r _ [7, 8, 9, 10, 11, 12, 6, 13, 14, 15, 16, 17, 18, 19, 20, 21, 1, 22, 23, 24, 25, 26, 27, 28, 29, 30, 31, 32, 33, 34, 35, 36, 37, 38, 39, 40, 41, 42, 43, 44, 45, 46, 47, 48, 49, 50, 51, 52, 53, 54, 55, 56, 57, 58, 59, 60, 61, 62, 63, 64, 65, 66, 67, 68, 69, 70, 71, 72, 73, 74, 2, 75, 76, 77, 78, 82, 83, 84, 85, 86, 87, 88, 89, 90, 91, 92, 93, 94, 95, 96, 97, 98, 99] rfl (by decide +kernel)
set_option maxRecDepth 20000 in
theorem gX4_page_X4_isThere : GoodIn wsX4_page (wsV RX4 143 RX4 yX4_isThere wsX4_isThere) := goodIn_app (goodIn_of _ (by decide +kernel)) ggX4_page_X4_isThere
set_option maxRecDepth 20000 in
theorem ggX4_page_X4_in : GoodIn wsX4_page wsX4_in := goodIn_r _ [81] rfl (by decide +kernel)
set_option maxRecDepth 20000 in
theorem gX4_page_X4_in : GoodIn wsX4_page (va_wsS RX4 60 yX4_in wsX4_in) := goodIn_app (goodIn_of _ (by decide +kernel)) ggX4_page_X4_in
set_option maxRecDepth 20000 in
theorem ggX4_page_X4_pageCost : GoodIn wsX4_page wsX4_pageCost := goodIn_r _ [78, 21, 29, 63, 55, 56, 57, 6, 58, 35, 82, 83, 84, 85, 86, 87, 88, 89, 90, 91, 92, 93, 94, 95, 96, 97, 98, 99] rfl (by decide +kernel)
set_option maxRecDepth 20000 in
theorem gX4_page_X4_pageCost : GoodIn wsX4_page (wsV RX4 137 RX4 yX4_pageCost wsX4_pageCost) := goodIn_app (goodIn_of _ (by decide +kernel)) ggX4_page_X4_pageCost
theorem dX4_page_0 : decode cX4_page 0 = .ok (.aload_n 0, 1) := by decide +kernel
theorem dX4_page_1 : decode cX4_page 1 = .ok (.invokevirtual 143, 3) := by decide +kernel
theorem dX4_page_4 : decode cX4_page 4 = .ok (.ifCond .ne 6, 3) := by decide +kernel
theorem dX4_page_7 : decode cX4_page 7 = .ok (.bipush (-3), 2) := by decide +kernel
theorem dX4_page_9 : decode cX4_page 9 = .ok (.ireturn, 1) := by decide +kernel
theorem dX4_page_10 : decode cX4_page 10 = .ok (.iload_n 1, 1) := by decide +kernel
theorem dX4_page_11 : decode cX4_page 11 = .ok (.iconst 0, 1) := by decide +kernel
theorem dX4_page_12 : decode cX4_page 12 = .ok (.aload_n 0, 1) := by decide +kernel
theorem dX4_page_13 : decode cX4_page 13 = .ok (.getfield 125, 3) := by decide +kernel
theorem dX4_page_16 : decode cX4_page 16 = .ok (.iconst 1, 1) := by decide +kernel
theorem dX4_page_17 : decode cX4_page 17 = .ok (.isub, 1) := by decide +kernel
theorem dX4_page_18 : decode cX4_page 18 = .ok (.invokestatic 60, 3) := by decide +kernel
theorem dX4_page_21 : decode cX4_page 21 = .ok (.ifCond .ne 5, 3) := by decide +kernel
theorem dX4_page_24 : decode cX4_page 24 = .ok (.iconst (-1), 1) := by decide +kernel
theorem dX4_page_25 : decode cX4_page 25 = .ok (.ireturn, 1) := by decide +kernel
theorem dX4_page_26 : decode cX4_page 26 = .ok (.iload_n 2, 1) := by decide +kernel
theorem dX4_page_27 : decode cX4_page 27 = .ok (.tableswitch 68 0 2 #[25, 32, 48], 25) := by decide +kernel
theorem dX4_page_52 : decode cX4_page 52 = .ok (.aload_n 0, 1) := by decide +kernel
theorem dX4_page_53 : decode cX4_page 53 = .ok (.getfield 30, 3) := by decide +kernel
theorem dX4_page_56 : decode cX4_page 56 = .ok (.iload_n 1, 1) := by decide +kernel
theorem dX4_page_57 : decode cX4_page 57 = .ok (.iaload, 1) := by decide +kernel
theorem dX4_page_58 : decode cX4_page 58 = .ok (.ireturn, 1) := by decide +kernel
theorem dX4_page_59 : decode cX4_page 59 = .ok (.aload_n 0, 1) := by decide +kernel
theorem dX4_page_60 : decode cX4_page 60 = .ok (.getfield 30, 3) := by decide +kernel
theorem dX4_page_63 : decode cX4_page 63 = .ok (.iload_n 1, 1) := by decide +kernel
theorem dX4_page_64 : decode cX4_page 64 = .ok (.iconst 1, 1) := by decide +kernel
theorem dX4_page_65 : decode cX4_page 65 = .ok (.iadd, 1) := by decide +kernel
theorem dX4_page_66 : decode cX4_page 66 = .ok (.iaload, 1) := by decide +kernel
theorem dX4_page_67 : decode cX4_page 67 = .ok (.aload_n 0, 1) := by decide +kernel
theorem dX4_page_68 : decode cX4_page 68 = .ok (.getfield 30, 3) := by decide +kernel
theorem dX4_page_71 : decode cX4_page 71 = .ok (.iload_n 1, 1) := by decide +kernel
theorem dX4_page_72 : decode cX4_page 72 = .ok (.iaload, 1) := by decide +kernel
theorem dX4_page_73 : decode cX4_page 73 = .ok (.isub, 1) := by decide +kernel
theorem dX4_page_74 : decode cX4_page 74 = .ok (.ireturn, 1) := by decide +kernel
theorem dX4_page_75 : decode cX4_page 75 = .ok (.aload_n 0, 1) := by decide +kernel
theorem dX4_page_76 : decode cX4_page 76 = .ok (.aload_n 0, 1) := by decide +kernel
theorem dX4_page_77 : decode cX4_page 77 = .ok (.getfield 30, 3) := by decide +kernel
theorem dX4_page_80 : decode cX4_page 80 = .ok (.iload_n 1, 1) := by decide +kernel
theorem dX4_page_81 : decode cX4_page 81 = .ok (.iaload, 1) := by decide +kernel
theorem dX4_page_82 : decode cX4_page 82 = .ok (.aload_n 0, 1) := by decide +kernel
theorem dX4_page_83 : decode cX4_page 83 = .ok (.getfield 30, 3) := by decide +kernel
theorem dX4_page_86 : decode cX4_page 86 = .ok (.iload_n 1, 1) := by decide +kernel
theorem dX4_page_87 : decode cX4_page 87 = .ok (.iconst 1, 1) := by decide +kernel
theorem dX4_page_88 : decode cX4_page 88 = .ok (.iadd, 1) := by decide +kernel
theorem dX4_page_89 : decode cX4_page 89 = .ok (.iaload, 1) := by decide +kernel
theorem dX4_page_90 : decode cX4_page 90 = .ok (.invokevirtual 137, 3) := by decide +kernel
theorem dX4_page_93 : decode cX4_page 93 = .ok (.l2i, 1) := by decide +kernel
theorem dX4_page_94 : decode cX4_page 94 = .ok (.ireturn, 1) := by decide +kernel
theorem dX4_page_95 : decode cX4_page 95 = .ok (.bipush (-2), 2) := by decide +kernel
theorem dX4_page_97 : decode cX4_page 97 = .ok (.ireturn, 1) := by decide +kernel
set_option maxRecDepth 20000 in
theorem ggX4_wide_X4_isOver : GoodIn wsX4_wide wsX4_isOver := goodIn_r _ [7, 1, 8, 9, 10, 11, 6, 12, 17, 18, 19, 20, 21, 22, 23, 24, 25, 26, 27, 28, 29, 30, 31, 32, 33, 34] rfl (by decide +kernel)
set_option maxRecDepth 20000 in
theorem gX4_wide_X4_isOver : GoodIn wsX4_wide (wsV RX4 88 RX4 yX4_isOver wsX4_isOver) := goodIn_app (goodIn_of _ (by decide +kernel)) ggX4_wide_X4_isOver
set_option maxRecDepth 20000 in
theorem ggX4_wide_X4_off : GoodIn wsX4_wide wsX4_off := goodIn_r _ [16, 8, 2, 9, 10, 11, 6, 12, 17, 18, 19, 20, 21, 22, 23, 24, 25, 26, 27, 28, 29, 30, 31, 32, 33, 34] rfl (by decide +kernel)
set_option maxRecDepth 20000 in
theorem gX4_wide_X4_off : GoodIn wsX4_wide (wsV RX4 84 RX4 yX4_off wsX4_off) := goodIn_app (goodIn_of _ (by decide +kernel)) ggX4_wide_X4_off
theorem dX4_wide_0 : decode cX4_wide 0 = .ok (.aload_n 0, 1) := by decide +kernel
theorem dX4_wide_1 : decode cX4_wide 1 = .ok (.iload_n 1, 1) := by decide +kernel
theorem dX4_wide_2 : decode cX4_wide 2 = .ok (.iload_n 2, 1) := by decide +kernel
theorem dX4_wide_3 : decode cX4_wide 3 = .ok (.invokevirtual 88, 3) := by decide +kernel
theorem dX4_wide_6 : decode cX4_wide 6 = .ok (.ifCond .eq 10, 3) := by decide +kernel
theorem dX4_wide_9 : decode cX4_wide 9 = .ok (.aload_n 0, 1) := by decide +kernel
theorem dX4_wide_10 : decode cX4_wide 10 = .ok (.getfield 7, 3) := by decide +kernel
theorem dX4_wide_13 : decode cX4_wide 13 = .ok (.iload_n 3, 1) := by decide +kernel
theorem dX4_wide_14 : decode cX4_wide 14 = .ok (.iaload, 1) := by decide +kernel
theorem dX4_wide_15 : decode cX4_wide 15 = .ok (.ireturn, 1) := by decide +kernel
theorem dX4_wide_16 : decode cX4_wide 16 = .ok (.aload_n 0, 1) := by decide +kernel
theorem dX4_wide_17 : decode cX4_wide 17 = .ok (.iload_n 1, 1) := by decide +kernel
theorem dX4_wide_18 : decode cX4_wide 18 = .ok (.iload_n 2, 1) := by decide +kernel
theorem dX4_wide_19 : decode cX4_wide 19 = .ok (.invokevirtual 84, 3) := by decide +kernel
theorem dX4_wide_22 : decode cX4_wide 22 = .ok (.i2l, 1) := by decide +kernel
theorem dX4_wide_23 : decode cX4_wide 23 = .ok (.lstore 4, 2) := by decide +kernel
theorem dX4_wide_25 : decode cX4_wide 25 = .ok (.lload 4, 2) := by decide +kernel
theorem dX4_wide_27 : decode cX4_wide 27 = .ok (.lconst 0, 1) := by decide +kernel
theorem dX4_wide_28 : decode cX4_wide 28 = .ok (.lcmp, 1) := by decide +kernel
theorem dX4_wide_29 : decode cX4_wide 29 = .ok (.ifCond .ge 9, 3) := by decide +kernel
theorem dX4_wide_32 : decode cX4_wide 32 = .ok (.lload 4, 2) := by decide +kernel
theorem dX4_wide_34 : decode cX4_wide 34 = .ok (.lneg, 1) := by decide +kernel
theorem dX4_wide_35 : decode cX4_wide 35 = .ok (.goto 5, 3) := by decide +kernel
theorem dX4_wide_38 : decode cX4_wide 38 = .ok (.lload 4, 2) := by decide +kernel
theorem dX4_wide_40 : decode cX4_wide 40 = .ok (.lstore 6, 2) := by decide +kernel
theorem dX4_wide_42 : decode cX4_wide 42 = .ok (.lconst 0, 1) := by decide +kernel
theorem dX4_wide_43 : decode cX4_wide 43 = .ok (.lstore 8, 2) := by decide +kernel
theorem dX4_wide_45 : decode cX4_wide 45 = .ok (.lconst 0, 1) := by decide +kernel
theorem dX4_wide_46 : decode cX4_wide 46 = .ok (.lstore 10, 2) := by decide +kernel
theorem dX4_wide_48 : decode cX4_wide 48 = .ok (.iload_n 1, 1) := by decide +kernel
theorem dX4_wide_49 : decode cX4_wide 49 = .ok (.istore 12, 2) := by decide +kernel
theorem dX4_wide_51 : decode cX4_wide 51 = .ok (.iload 12, 2) := by decide +kernel
theorem dX4_wide_53 : decode cX4_wide 53 = .ok (.iload_n 2, 1) := by decide +kernel
theorem dX4_wide_54 : decode cX4_wide 54 = .ok (.if_icmp .gt 69, 3) := by decide +kernel
theorem dX4_wide_57 : decode cX4_wide 57 = .ok (.lload 4, 2) := by decide +kernel
theorem dX4_wide_59 : decode cX4_wide 59 = .ok (.lconst 0, 1) := by decide +kernel
theorem dX4_wide_60 : decode cX4_wide 60 = .ok (.lcmp, 1) := by decide +kernel
theorem dX4_wide_61 : decode cX4_wide 61 = .ok (.ifCond .ge 22, 3) := by decide +kernel
theorem dX4_wide_64 : decode cX4_wide 64 = .ok (.aload_n 0, 1) := by decide +kernel
theorem dX4_wide_65 : decode cX4_wide 65 = .ok (.getfield 13, 3) := by decide +kernel
theorem dX4_wide_68 : decode cX4_wide 68 = .ok (.iload 12, 2) := by decide +kernel
theorem dX4_wide_70 : decode cX4_wide 70 = .ok (.iaload, 1) := by decide +kernel
theorem dX4_wide_71 : decode cX4_wide 71 = .ok (.aload_n 0, 1) := by decide +kernel
theorem dX4_wide_72 : decode cX4_wide 72 = .ok (.getfield 7, 3) := by decide +kernel
theorem dX4_wide_75 : decode cX4_wide 75 = .ok (.iload 12, 2) := by decide +kernel
theorem dX4_wide_77 : decode cX4_wide 77 = .ok (.iaload, 1) := by decide +kernel
theorem dX4_wide_78 : decode cX4_wide 78 = .ok (.isub, 1) := by decide +kernel
theorem dX4_wide_79 : decode cX4_wide 79 = .ok (.i2l, 1) := by decide +kernel
theorem dX4_wide_80 : decode cX4_wide 80 = .ok (.goto 11, 3) := by decide +kernel
theorem dX4_wide_83 : decode cX4_wide 83 = .ok (.aload_n 0, 1) := by decide +kernel
theorem dX4_wide_84 : decode cX4_wide 84 = .ok (.getfield 13, 3) := by decide +kernel
theorem dX4_wide_87 : decode cX4_wide 87 = .ok (.iload 12, 2) := by decide +kernel
theorem dX4_wide_89 : decode cX4_wide 89 = .ok (.iaload, 1) := by decide +kernel
theorem dX4_wide_90 : decode cX4_wide 90 = .ok (.i2l, 1) := by decide +kernel
theorem dX4_wide_91 : decode cX4_wide 91 = .ok (.lstore 13, 2) := by decide +kernel
theorem dX4_wide_93 : decode cX4_wide 93 = .ok (.lload 8, 2) := by decide +kernel
theorem dX4_wide_95 : decode cX4_wide 95 = .ok (.lload 13, 2) := by decide +kernel
theorem dX4_wide_97 : decode cX4_wide 97 = .ok (.ladd, 1) := by decide +kernel
theorem dX4_wide_98 : decode cX4_wide 98 = .ok (.lstore 8, 2) := by decide +kernel
theorem dX4_wide_100 : decode cX4_wide 100 = .ok (.lload 10, 2) := by decide +kernel
theorem dX4_wide_102 : decode cX4_wide 102 = .ok (.iload 12, 2) := by decide +kernel
theorem dX4_wide_104 : decode cX4_wide 104 = .ok (.iload_n 3, 1) := by decide +kernel
theorem dX4_wide_105 : decode cX4_wide 105 = .ok (.if_icmp .gt 8, 3) := by decide +kernel
theorem dX4_wide_108 : decode cX4_wide 108 = .ok (.lload 13, 2) := by decide +kernel
theorem dX4_wide_110 : decode cX4_wide 110 = .ok (.goto 4, 3) := by decide +kernel
theorem dX4_wide_113 : decode cX4_wide 113 = .ok (.lconst 0, 1) := by decide +kernel
theorem dX4_wide_114 : decode cX4_wide 114 = .ok (.ladd, 1) := by decide +kernel
theorem dX4_wide_115 : decode cX4_wide 115 = .ok (.lstore 10, 2) := by decide +kernel
theorem dX4_wide_117 : decode cX4_wide 117 = .ok (.iinc 12 1, 3) := by decide +kernel
theorem dX4_wide_120 : decode cX4_wide 120 = .ok (.goto (-69), 3) := by decide +kernel
theorem dX4_wide_123 : decode cX4_wide 123 = .ok (.lload 4, 2) := by decide +kernel
theorem dX4_wide_125 : decode cX4_wide 125 = .ok (.lconst 0, 1) := by decide +kernel
theorem dX4_wide_126 : decode cX4_wide 126 = .ok (.lcmp, 1) := by decide +kernel
theorem dX4_wide_127 : decode cX4_wide 127 = .ok (.ifCond .ge 20, 3) := by decide +kernel
theorem dX4_wide_130 : decode cX4_wide 130 = .ok (.aload_n 0, 1) := by decide +kernel
theorem dX4_wide_131 : decode cX4_wide 131 = .ok (.getfield 13, 3) := by decide +kernel
theorem dX4_wide_134 : decode cX4_wide 134 = .ok (.iload_n 3, 1) := by decide +kernel
theorem dX4_wide_135 : decode cX4_wide 135 = .ok (.iaload, 1) := by decide +kernel
theorem dX4_wide_136 : decode cX4_wide 136 = .ok (.aload_n 0, 1) := by decide +kernel
theorem dX4_wide_137 : decode cX4_wide 137 = .ok (.getfield 7, 3) := by decide +kernel
theorem dX4_wide_140 : decode cX4_wide 140 = .ok (.iload_n 3, 1) := by decide +kernel
theorem dX4_wide_141 : decode cX4_wide 141 = .ok (.iaload, 1) := by decide +kernel
theorem dX4_wide_142 : decode cX4_wide 142 = .ok (.isub, 1) := by decide +kernel
theorem dX4_wide_143 : decode cX4_wide 143 = .ok (.i2l, 1) := by decide +kernel
theorem dX4_wide_144 : decode cX4_wide 144 = .ok (.goto 10, 3) := by decide +kernel
theorem dX4_wide_147 : decode cX4_wide 147 = .ok (.aload_n 0, 1) := by decide +kernel
theorem dX4_wide_148 : decode cX4_wide 148 = .ok (.getfield 13, 3) := by decide +kernel
theorem dX4_wide_151 : decode cX4_wide 151 = .ok (.iload_n 3, 1) := by decide +kernel
theorem dX4_wide_152 : decode cX4_wide 152 = .ok (.iaload, 1) := by decide +kernel
theorem dX4_wide_153 : decode cX4_wide 153 = .ok (.i2l, 1) := by decide +kernel
theorem dX4_wide_154 : decode cX4_wide 154 = .ok (.lstore 12, 2) := by decide +kernel
theorem dX4_wide_156 : decode cX4_wide 156 = .ok (.lload 6, 2) := by decide +kernel
theorem dX4_wide_158 : decode cX4_wide 158 = .ok (.lload 10, 2) := by decide +kernel
theorem dX4_wide_160 : decode cX4_wide 160 = .ok (.lmul, 1) := by decide +kernel
theorem dX4_wide_161 : decode cX4_wide 161 = .ok (.lload 8, 2) := by decide +kernel
theorem dX4_wide_163 : decode cX4_wide 163 = .ok (.ldiv, 1) := by decide +kernel
theorem dX4_wide_164 : decode cX4_wide 164 = .ok (.lload 6, 2) := by decide +kernel
end
section
theorem dX4_wide_166 : decode cX4_wide 166 = .ok (.lload 10, 2) := by decide +kernel
theorem dX4_wide_168 : decode cX4_wide 168 = .ok (.lload 12, 2) := by decide +kernel
theorem dX4_wide_170 : decode cX4_wide 170 = .ok (.lsub, 1) := by decide +kernel
theorem dX4_wide_171 : decode cX4_wide 171 = .ok (.lmul, 1) := by decide +kernel
theorem dX4_wide_172 : decode cX4_wide 172 = .ok (.lload 8, 2) := by decide +kernel
theorem dX4_wide_174 : decode cX4_wide 174 = .ok (.ldiv, 1) := by decide +kernel
theorem dX4_wide_175 : decode cX4_wide 175 = .ok (.lsub, 1) := by decide +kernel
theorem dX4_wide_176 : decode cX4_wide 176 = .ok (.l2i, 1) := by decide +kernel
theorem dX4_wide_177 : decode cX4_wide 177 = .ok (.istore 14, 2) := by decide +kernel
theorem dX4_wide_179 : decode cX4_wide 179 = .ok (.lload 4, 2) := by decide +kernel
theorem dX4_wide_181 : decode cX4_wide 181 = .ok (.lconst 0, 1) := by decide +kernel
theorem dX4_wide_182 : decode cX4_wide 182 = .ok (.lcmp, 1) := by decide +kernel
theorem dX4_wide_183 : decode cX4_wide 183 = .ok (.ifCond .ge 15, 3) := by decide +kernel
theorem dX4_wide_186 : decode cX4_wide 186 = .ok (.aload_n 0, 1) := by decide +kernel
theorem dX4_wide_187 : decode cX4_wide 187 = .ok (.getfield 13, 3) := by decide +kernel
theorem dX4_wide_190 : decode cX4_wide 190 = .ok (.iload_n 3, 1) := by decide +kernel
theorem dX4_wide_191 : decode cX4_wide 191 = .ok (.iaload, 1) := by decide +kernel
theorem dX4_wide_192 : decode cX4_wide 192 = .ok (.iload 14, 2) := by decide +kernel
theorem dX4_wide_194 : decode cX4_wide 194 = .ok (.isub, 1) := by decide +kernel
theorem dX4_wide_195 : decode cX4_wide 195 = .ok (.goto 12, 3) := by decide +kernel
theorem dX4_wide_198 : decode cX4_wide 198 = .ok (.aload_n 0, 1) := by decide +kernel
theorem dX4_wide_199 : decode cX4_wide 199 = .ok (.getfield 13, 3) := by decide +kernel
theorem dX4_wide_202 : decode cX4_wide 202 = .ok (.iload_n 3, 1) := by decide +kernel
theorem dX4_wide_203 : decode cX4_wide 203 = .ok (.iaload, 1) := by decide +kernel
theorem dX4_wide_204 : decode cX4_wide 204 = .ok (.iload 14, 2) := by decide +kernel
theorem dX4_wide_206 : decode cX4_wide 206 = .ok (.iadd, 1) := by decide +kernel
theorem dX4_wide_207 : decode cX4_wide 207 = .ok (.ireturn, 1) := by decide +kernel
set_option maxRecDepth 20000 in
theorem ggX4_set_X4_isBar : GoodIn wsX4_set wsX4_isBar := goodIn_r _ [6, 7, 8, 9, 5, 10, 94, 95, 96, 97, 98, 99, 100, 101, 102, 103, 104, 105, 106, 107, 108, 109, 110, 111] rfl (by decide +kernel)
set_option maxRecDepth 20000 in
theorem gX4_set_X4_isBar : GoodIn wsX4_set (wsV RX4 72 RX4 yX4_isBar wsX4_isBar) := goodIn_app (goodIn_of _ (by decide +kernel)) ggX4_set_X4_isBar
set_option maxRecDepth 20000 in
theorem ggX4_set_X4_in : GoodIn wsX4_set wsX4_in := goodIn_r _ [10] rfl (by decide +kernel)
set_option maxRecDepth 20000 in
theorem gX4_set_X4_in : GoodIn wsX4_set (va_wsS RX4 60 yX4_in wsX4_in) := goodIn_app (goodIn_of _ (by decide +kernel)) ggX4_set_X4_in
set_option maxRecDepth 20000 in
theorem ggX4_set_X4_isThere : GoodIn wsX4_set wsX4_isThere := goodIn_r _ [14, 15, 16, 17, 18, 19, 5, 20, 21, 22, 7, 23, 24, 25, 26, 27, 28, 29, 30, 31, 32, 33, 34, 35, 36, 37, 38, 39, 40, 41, 42, 43, 44, 45, 46, 47, 48, 49, 50, 51, 52, 53, 54, 55, 56, 57, 58, 59, 60, 61, 62, 63, 64, 65, 66, 67, 68, 69, 1, 70, 71, 72, 73, 74, 75, 76, 77, 78, 79, 80, 81, 82, 83, 84, 85, 94, 95, 96, 97, 98, 99, 100, 101, 102, 103, 104, 105, 106, 107, 108, 109, 110, 111] rfl (by decide +kernel)
set_option maxRecDepth 20000 in
theorem gX4_set_X4_isThere : GoodIn wsX4_set (wsV RX4 143 RX4 yX4_isThere wsX4_isThere) := goodIn_app (goodIn_of _ (by decide +kernel)) ggX4_set_X4_isThere
set_option maxRecDepth 20000 in
theorem ggX4_set_X4_lineOf : GoodIn wsX4_set wsX4_lineOf := goodIn_r _ [89, 1, 94, 95, 96, 97, 98, 99, 100, 101, 102, 103, 104, 105, 106, 107, 108, 109, 110, 111] rfl (by decide +kernel)
set_option maxRecDepth 20000 in
theorem gX4_set_X4_lineOf : GoodIn wsX4_set (wsV RX4 153 RX4 yX4_lineOf wsX4_lineOf) := goodIn_app (goodIn_of _ (by decide +kernel)) ggX4_set_X4_lineOf
set_option maxRecDepth 20000 in
theorem ggX4_set_X4_wide : GoodIn wsX4_set wsX4_wide := goodIn_r _ [93, 43, 57, 58, 59, 60, 5, 61, 44, 45, 46, 47, 48, 53, 54, 55, 56, 94, 95, 96, 97, 98, 99, 100, 101, 102, 103, 104, 105, 106, 107, 108, 109, 110, 111] rfl (by decide +kernel)
set_option maxRecDepth 20000 in
theorem gX4_set_X4_wide : GoodIn wsX4_set (wsV RX4 156 RX4 yX4_wide wsX4_wide) := goodIn_app (goodIn_of _ (by decide +kernel)) ggX4_set_X4_wide
theorem dX4_set_0 : decode cX4_set 0 = .ok (.aload_n 0, 1) := by decide +kernel
theorem dX4_set_1 : decode cX4_set 1 = .ok (.iload_n 1, 1) := by decide +kernel
theorem dX4_set_2 : decode cX4_set 2 = .ok (.invokevirtual 72, 3) := by decide +kernel
theorem dX4_set_5 : decode cX4_set 5 = .ok (.ifCond .ne 5, 3) := by decide +kernel
theorem dX4_set_8 : decode cX4_set 8 = .ok (.iconst (-1), 1) := by decide +kernel
theorem dX4_set_9 : decode cX4_set 9 = .ok (.ireturn, 1) := by decide +kernel
theorem dX4_set_10 : decode cX4_set 10 = .ok (.iload_n 2, 1) := by decide +kernel
theorem dX4_set_11 : decode cX4_set 11 = .ok (.iconst 0, 1) := by decide +kernel
theorem dX4_set_12 : decode cX4_set 12 = .ok (.iconst 2, 1) := by decide +kernel
theorem dX4_set_13 : decode cX4_set 13 = .ok (.invokestatic 60, 3) := by decide +kernel
theorem dX4_set_16 : decode cX4_set 16 = .ok (.ifCond .ne 6, 3) := by decide +kernel
theorem dX4_set_19 : decode cX4_set 19 = .ok (.bipush (-2), 2) := by decide +kernel
theorem dX4_set_21 : decode cX4_set 21 = .ok (.ireturn, 1) := by decide +kernel
theorem dX4_set_22 : decode cX4_set 22 = .ok (.aload_n 0, 1) := by decide +kernel
theorem dX4_set_23 : decode cX4_set 23 = .ok (.invokevirtual 143, 3) := by decide +kernel
theorem dX4_set_26 : decode cX4_set 26 = .ok (.ifCond .ne 6, 3) := by decide +kernel
theorem dX4_set_29 : decode cX4_set 29 = .ok (.bipush (-3), 2) := by decide +kernel
theorem dX4_set_31 : decode cX4_set 31 = .ok (.ireturn, 1) := by decide +kernel
theorem dX4_set_32 : decode cX4_set 32 = .ok (.aload_n 0, 1) := by decide +kernel
theorem dX4_set_33 : decode cX4_set 33 = .ok (.iload_n 1, 1) := by decide +kernel
theorem dX4_set_34 : decode cX4_set 34 = .ok (.invokevirtual 153, 3) := by decide +kernel
theorem dX4_set_37 : decode cX4_set 37 = .ok (.istore_n 3, 1) := by decide +kernel
theorem dX4_set_38 : decode cX4_set 38 = .ok (.aload_n 0, 1) := by decide +kernel
theorem dX4_set_39 : decode cX4_set 39 = .ok (.getfield 27, 3) := by decide +kernel
theorem dX4_set_42 : decode cX4_set 42 = .ok (.iload_n 3, 1) := by decide +kernel
theorem dX4_set_43 : decode cX4_set 43 = .ok (.iaload, 1) := by decide +kernel
theorem dX4_set_44 : decode cX4_set 44 = .ok (.istore 4, 2) := by decide +kernel
theorem dX4_set_46 : decode cX4_set 46 = .ok (.aload_n 0, 1) := by decide +kernel
theorem dX4_set_47 : decode cX4_set 47 = .ok (.getfield 27, 3) := by decide +kernel
theorem dX4_set_50 : decode cX4_set 50 = .ok (.iload_n 3, 1) := by decide +kernel
theorem dX4_set_51 : decode cX4_set 51 = .ok (.iconst 1, 1) := by decide +kernel
theorem dX4_set_52 : decode cX4_set 52 = .ok (.iadd, 1) := by decide +kernel
theorem dX4_set_53 : decode cX4_set 53 = .ok (.iaload, 1) := by decide +kernel
theorem dX4_set_54 : decode cX4_set 54 = .ok (.iconst 1, 1) := by decide +kernel
theorem dX4_set_55 : decode cX4_set 55 = .ok (.isub, 1) := by decide +kernel
theorem dX4_set_56 : decode cX4_set 56 = .ok (.istore 5, 2) := by decide +kernel
theorem dX4_set_58 : decode cX4_set 58 = .ok (.iload_n 2, 1) := by decide +kernel
theorem dX4_set_59 : decode cX4_set 59 = .ok (.ifCond .ne 5, 3) := by decide +kernel
theorem dX4_set_62 : decode cX4_set 62 = .ok (.iload_n 3, 1) := by decide +kernel
theorem dX4_set_63 : decode cX4_set 63 = .ok (.ireturn, 1) := by decide +kernel
theorem dX4_set_64 : decode cX4_set 64 = .ok (.iload_n 2, 1) := by decide +kernel
theorem dX4_set_65 : decode cX4_set 65 = .ok (.iconst 1, 1) := by decide +kernel
theorem dX4_set_66 : decode cX4_set 66 = .ok (.if_icmp .ne 13, 3) := by decide +kernel
theorem dX4_set_69 : decode cX4_set 69 = .ok (.aload_n 0, 1) := by decide +kernel
theorem dX4_set_70 : decode cX4_set 70 = .ok (.iload 4, 2) := by decide +kernel
theorem dX4_set_72 : decode cX4_set 72 = .ok (.iload 5, 2) := by decide +kernel
theorem dX4_set_74 : decode cX4_set 74 = .ok (.iload_n 1, 1) := by decide +kernel
theorem dX4_set_75 : decode cX4_set 75 = .ok (.invokevirtual 156, 3) := by decide +kernel
theorem dX4_set_78 : decode cX4_set 78 = .ok (.ireturn, 1) := by decide +kernel
theorem dX4_set_79 : decode cX4_set 79 = .ok (.iconst 0, 1) := by decide +kernel
theorem dX4_set_80 : decode cX4_set 80 = .ok (.istore 6, 2) := by decide +kernel
theorem dX4_set_82 : decode cX4_set 82 = .ok (.iload 4, 2) := by decide +kernel
theorem dX4_set_84 : decode cX4_set 84 = .ok (.istore 7, 2) := by decide +kernel
theorem dX4_set_86 : decode cX4_set 86 = .ok (.iload 7, 2) := by decide +kernel
theorem dX4_set_88 : decode cX4_set 88 = .ok (.iload_n 1, 1) := by decide +kernel
theorem dX4_set_89 : decode cX4_set 89 = .ok (.if_icmp .ge 24, 3) := by decide +kernel
theorem dX4_set_92 : decode cX4_set 92 = .ok (.iload 6, 2) := by decide +kernel
theorem dX4_set_94 : decode cX4_set 94 = .ok (.aload_n 0, 1) := by decide +kernel
theorem dX4_set_95 : decode cX4_set 95 = .ok (.iload 4, 2) := by decide +kernel
theorem dX4_set_97 : decode cX4_set 97 = .ok (.iload 5, 2) := by decide +kernel
theorem dX4_set_99 : decode cX4_set 99 = .ok (.iload 7, 2) := by decide +kernel
theorem dX4_set_101 : decode cX4_set 101 = .ok (.invokevirtual 156, 3) := by decide +kernel
theorem dX4_set_104 : decode cX4_set 104 = .ok (.iadd, 1) := by decide +kernel
theorem dX4_set_105 : decode cX4_set 105 = .ok (.istore 6, 2) := by decide +kernel
theorem dX4_set_107 : decode cX4_set 107 = .ok (.iinc 7 1, 3) := by decide +kernel
theorem dX4_set_110 : decode cX4_set 110 = .ok (.goto (-24), 3) := by decide +kernel
theorem dX4_set_113 : decode cX4_set 113 = .ok (.iload 6, 2) := by decide +kernel
theorem dX4_set_115 : decode cX4_set 115 = .ok (.ireturn, 1) := by decide +kernel
set_option maxRecDepth 20000 in
theorem ggX4_ends_X4_isBar : GoodIn wsX4_ends wsX4_isBar := goodIn_r _ [6, 7, 8, 9, 5, 10, 90, 91, 92, 93, 94, 95, 96, 97, 98, 99, 100, 101, 102, 103, 104, 105, 106, 107] rfl (by decide +kernel)
set_option maxRecDepth 20000 in
theorem gX4_ends_X4_isBar : GoodIn wsX4_ends (wsV RX4 72 RX4 yX4_isBar wsX4_isBar) := goodIn_app (goodIn_of _ (by decide +kernel)) ggX4_ends_X4_isBar
set_option maxRecDepth 20000 in
theorem ggX4_ends_X4_isThere : GoodIn wsX4_ends wsX4_isThere := goodIn_r _ [14, 15, 16, 17, 18, 19, 5, 20, 21, 22, 7, 23, 24, 25, 26, 27, 28, 29, 30, 31, 32, 33, 34, 35, 36, 37, 38, 39, 40, 41, 42, 43, 44, 45, 46, 47, 48, 49, 50, 51, 52, 53, 54, 55, 56, 57, 58, 59, 60, 61, 62, 63, 64, 65, 66, 67, 68, 69, 1, 70, 71, 72, 73, 74, 75, 76, 77, 78, 79, 80, 81, 82, 83, 84, 85, 90, 91, 92, 93, 94, 95, 96, 97, 98, 99, 100, 101, 102, 103, 104, 105, 106, 107] rfl (by decide +kernel)
set_option maxRecDepth 20000 in
theorem gX4_ends_X4_isThere : GoodIn wsX4_ends (wsV RX4 143 RX4 yX4_isThere wsX4_isThere) := goodIn_app (goodIn_of _ (by decide +kernel)) ggX4_ends_X4_isThere
set_option maxRecDepth 20000 in
theorem ggX4_ends_X4_lineOf : GoodIn wsX4_ends wsX4_lineOf := goodIn_r _ [89, 1, 90, 91, 92, 93, 94, 95, 96, 97, 98, 99, 100, 101, 102, 103, 104, 105, 106, 107] rfl (by decide +kernel)
set_option maxRecDepth 20000 in
theorem gX4_ends_X4_lineOf : GoodIn wsX4_ends (wsV RX4 153 RX4 yX4_lineOf wsX4_lineOf) := goodIn_app (goodIn_of _ (by decide +kernel)) ggX4_ends_X4_lineOf
theorem dX4_ends_0 : decode cX4_ends 0 = .ok (.aload_n 0, 1) := by decide +kernel
theorem dX4_ends_1 : decode cX4_ends 1 = .ok (.iload_n 1, 1) := by decide +kernel
theorem dX4_ends_2 : decode cX4_ends 2 = .ok (.invokevirtual 72, 3) := by decide +kernel
theorem dX4_ends_5 : decode cX4_ends 5 = .ok (.ifCond .eq 10, 3) := by decide +kernel
theorem dX4_ends_8 : decode cX4_ends 8 = .ok (.aload_n 0, 1) := by decide +kernel
theorem dX4_ends_9 : decode cX4_ends 9 = .ok (.invokevirtual 143, 3) := by decide +kernel
theorem dX4_ends_12 : decode cX4_ends 12 = .ok (.ifCond .ne 5, 3) := by decide +kernel
theorem dX4_ends_15 : decode cX4_ends 15 = .ok (.iconst 0, 1) := by decide +kernel
theorem dX4_ends_16 : decode cX4_ends 16 = .ok (.ireturn, 1) := by decide +kernel
theorem dX4_ends_17 : decode cX4_ends 17 = .ok (.aload_n 0, 1) := by decide +kernel
theorem dX4_ends_18 : decode cX4_ends 18 = .ok (.getfield 27, 3) := by decide +kernel
theorem dX4_ends_21 : decode cX4_ends 21 = .ok (.aload_n 0, 1) := by decide +kernel
theorem dX4_ends_22 : decode cX4_ends 22 = .ok (.iload_n 1, 1) := by decide +kernel
theorem dX4_ends_23 : decode cX4_ends 23 = .ok (.invokevirtual 153, 3) := by decide +kernel
theorem dX4_ends_26 : decode cX4_ends 26 = .ok (.iconst 1, 1) := by decide +kernel
theorem dX4_ends_27 : decode cX4_ends 27 = .ok (.iadd, 1) := by decide +kernel
theorem dX4_ends_28 : decode cX4_ends 28 = .ok (.iaload, 1) := by decide +kernel
theorem dX4_ends_29 : decode cX4_ends 29 = .ok (.iload_n 1, 1) := by decide +kernel
theorem dX4_ends_30 : decode cX4_ends 30 = .ok (.iconst 1, 1) := by decide +kernel
theorem dX4_ends_31 : decode cX4_ends 31 = .ok (.iadd, 1) := by decide +kernel
theorem dX4_ends_32 : decode cX4_ends 32 = .ok (.if_icmp .ne 7, 3) := by decide +kernel
theorem dX4_ends_35 : decode cX4_ends 35 = .ok (.iconst 1, 1) := by decide +kernel
theorem dX4_ends_36 : decode cX4_ends 36 = .ok (.goto 4, 3) := by decide +kernel
theorem dX4_ends_39 : decode cX4_ends 39 = .ok (.iconst 0, 1) := by decide +kernel
theorem dX4_ends_40 : decode cX4_ends 40 = .ok (.ireturn, 1) := by decide +kernel
set_option maxRecDepth 20000 in
theorem ggX4_badness_X4_isBar : GoodIn wsX4_badness wsX4_isBar := goodIn_r _ [6, 7, 8, 9, 5, 10, 36, 37, 38, 39, 40, 41, 42, 43, 44, 45, 46, 47, 48, 49, 50, 51, 52, 53] rfl (by decide +kernel)
set_option maxRecDepth 20000 in
theorem gX4_badness_X4_isBar : GoodIn wsX4_badness (wsV RX4 72 RX4 yX4_isBar wsX4_isBar) := goodIn_app (goodIn_of _ (by decide +kernel)) ggX4_badness_X4_isBar
set_option maxRecDepth 20000 in
theorem ggX4_badness_X4_mayBe : GoodIn wsX4_badness wsX4_mayBe := goodIn_r _ [14, 15, 7, 16, 17, 18, 19, 20, 5, 21, 36, 37, 38, 39, 40, 41, 42, 43, 44, 45, 46, 47, 48, 49, 50, 51, 52, 53] rfl (by decide +kernel)
set_option maxRecDepth 20000 in
theorem gX4_badness_X4_mayBe : GoodIn wsX4_badness (wsV RX4 95 RX4 yX4_mayBe wsX4_mayBe) := goodIn_app (goodIn_of _ (by decide +kernel)) ggX4_badness_X4_mayBe
set_option maxRecDepth 20000 in
theorem ggX4_badness_X4_costOf : GoodIn wsX4_badness wsX4_costOf := goodIn_r _ [25, 26, 7, 27, 28, 29, 5, 30, 17, 31, 18, 19, 20, 21, 32, 33, 34, 35, 16, 36, 37, 38, 39, 40, 41, 42, 43, 44, 45, 46, 47, 48, 49, 50, 51, 52, 53] rfl (by decide +kernel)
set_option maxRecDepth 20000 in
theorem gX4_badness_X4_costOf : GoodIn wsX4_badness (wsV RX4 98 RX4 yX4_costOf wsX4_costOf) := goodIn_app (goodIn_of _ (by decide +kernel)) ggX4_badness_X4_costOf
theorem dX4_badness_0 : decode cX4_badness 0 = .ok (.aload_n 0, 1) := by decide +kernel
theorem dX4_badness_1 : decode cX4_badness 1 = .ok (.iload_n 1, 1) := by decide +kernel
theorem dX4_badness_2 : decode cX4_badness 2 = .ok (.invokevirtual 72, 3) := by decide +kernel
theorem dX4_badness_5 : decode cX4_badness 5 = .ok (.ifCond .eq 34, 3) := by decide +kernel
theorem dX4_badness_8 : decode cX4_badness 8 = .ok (.aload_n 0, 1) := by decide +kernel
theorem dX4_badness_9 : decode cX4_badness 9 = .ok (.iload_n 2, 1) := by decide +kernel
theorem dX4_badness_10 : decode cX4_badness 10 = .ok (.invokevirtual 72, 3) := by decide +kernel
theorem dX4_badness_13 : decode cX4_badness 13 = .ok (.ifCond .eq 26, 3) := by decide +kernel
theorem dX4_badness_16 : decode cX4_badness 16 = .ok (.iload_n 2, 1) := by decide +kernel
theorem dX4_badness_17 : decode cX4_badness 17 = .ok (.iload_n 1, 1) := by decide +kernel
theorem dX4_badness_18 : decode cX4_badness 18 = .ok (.if_icmp .lt 21, 3) := by decide +kernel
theorem dX4_badness_21 : decode cX4_badness 21 = .ok (.aload_n 0, 1) := by decide +kernel
theorem dX4_badness_22 : decode cX4_badness 22 = .ok (.iload_n 1, 1) := by decide +kernel
theorem dX4_badness_23 : decode cX4_badness 23 = .ok (.iload_n 2, 1) := by decide +kernel
theorem dX4_badness_24 : decode cX4_badness 24 = .ok (.invokevirtual 95, 3) := by decide +kernel
theorem dX4_badness_27 : decode cX4_badness 27 = .ok (.ifCond .eq 12, 3) := by decide +kernel
theorem dX4_badness_30 : decode cX4_badness 30 = .ok (.aload_n 0, 1) := by decide +kernel
theorem dX4_badness_31 : decode cX4_badness 31 = .ok (.iload_n 1, 1) := by decide +kernel
theorem dX4_badness_32 : decode cX4_badness 32 = .ok (.iload_n 2, 1) := by decide +kernel
theorem dX4_badness_33 : decode cX4_badness 33 = .ok (.invokevirtual 98, 3) := by decide +kernel
theorem dX4_badness_36 : decode cX4_badness 36 = .ok (.goto 6, 3) := by decide +kernel
theorem dX4_badness_39 : decode cX4_badness 39 = .ok (.ldc2_w 147, 3) := by decide +kernel
theorem dX4_badness_42 : decode cX4_badness 42 = .ok (.lreturn, 1) := by decide +kernel
set_option maxRecDepth 20000 in
theorem ggX4_would_X4_isBar : GoodIn wsX4_would wsX4_isBar := goodIn_r _ [8, 9, 10, 11, 7, 12, 91, 92, 93, 94, 95, 96, 97, 98, 99, 100, 101, 102, 103, 104, 105, 106, 107, 108] rfl (by decide +kernel)
set_option maxRecDepth 20000 in
theorem gX4_would_X4_isBar : GoodIn wsX4_would (wsV RX4 72 RX4 yX4_isBar wsX4_isBar) := goodIn_app (goodIn_of _ (by decide +kernel)) ggX4_would_X4_isBar
set_option maxRecDepth 20000 in
theorem ggX4_would_X4_in : GoodIn wsX4_would wsX4_in := goodIn_r _ [12] rfl (by decide +kernel)
set_option maxRecDepth 20000 in
theorem gX4_would_X4_in : GoodIn wsX4_would (va_wsS RX4 60 yX4_in wsX4_in) := goodIn_app (goodIn_of _ (by decide +kernel)) ggX4_would_X4_in
set_option maxRecDepth 20000 in
theorem ggX4_would_X4_sum : GoodIn wsX4_would wsX4_sum := goodIn_r _ [16, 17, 18, 1, 19, 20, 21, 7, 22, 23, 24, 25, 26, 27, 3, 28, 9, 29, 30, 31, 32, 33, 34, 35, 36, 37, 38, 39, 40, 41, 42, 43, 44, 45, 46, 2, 47, 48, 49, 50, 51, 52, 53, 54, 55, 56, 57, 58, 59, 60, 61, 62, 63, 64, 65, 66, 67, 68, 69, 70, 71, 72, 73, 74, 75, 76, 77, 78, 79, 80, 81, 82, 83, 84, 85, 86, 87, 88, 89, 90, 91, 92, 93, 94, 95, 96, 97, 98, 99, 100, 101, 102, 103, 104, 105, 106, 107, 108] rfl (by decide +kernel)
set_option maxRecDepth 20000 in
theorem gX4_would_X4_sum : GoodIn wsX4_would (wsV RX4 160 RX4 yX4_sum wsX4_sum) := goodIn_app (goodIn_of _ (by decide +kernel)) ggX4_would_X4_sum
theorem dX4_would_0 : decode cX4_would 0 = .ok (.aload_n 0, 1) := by decide +kernel
theorem dX4_would_1 : decode cX4_would 1 = .ok (.iload_n 1, 1) := by decide +kernel
theorem dX4_would_2 : decode cX4_would 2 = .ok (.invokevirtual 72, 3) := by decide +kernel
theorem dX4_would_5 : decode cX4_would 5 = .ok (.ifCond .eq 12, 3) := by decide +kernel
theorem dX4_would_8 : decode cX4_would 8 = .ok (.iload_n 2, 1) := by decide +kernel
theorem dX4_would_9 : decode cX4_would 9 = .ok (.iconst 0, 1) := by decide +kernel
theorem dX4_would_10 : decode cX4_would 10 = .ok (.iconst 2, 1) := by decide +kernel
theorem dX4_would_11 : decode cX4_would 11 = .ok (.invokestatic 60, 3) := by decide +kernel
theorem dX4_would_14 : decode cX4_would 14 = .ok (.ifCond .ne 7, 3) := by decide +kernel
theorem dX4_would_17 : decode cX4_would 17 = .ok (.ldc2_w 147, 3) := by decide +kernel
theorem dX4_would_20 : decode cX4_would 20 = .ok (.lreturn, 1) := by decide +kernel
theorem dX4_would_21 : decode cX4_would 21 = .ok (.aload_n 0, 1) := by decide +kernel
theorem dX4_would_22 : decode cX4_would 22 = .ok (.getfield 16, 3) := by decide +kernel
theorem dX4_would_25 : decode cX4_would 25 = .ok (.iconst 3, 1) := by decide +kernel
theorem dX4_would_26 : decode cX4_would 26 = .ok (.iload_n 1, 1) := by decide +kernel
theorem dX4_would_27 : decode cX4_would 27 = .ok (.imul, 1) := by decide +kernel
theorem dX4_would_28 : decode cX4_would 28 = .ok (.iload_n 2, 1) := by decide +kernel
theorem dX4_would_29 : decode cX4_would 29 = .ok (.iadd, 1) := by decide +kernel
theorem dX4_would_30 : decode cX4_would 30 = .ok (.baload, 1) := by decide +kernel
theorem dX4_would_31 : decode cX4_would 31 = .ok (.istore_n 3, 1) := by decide +kernel
theorem dX4_would_32 : decode cX4_would 32 = .ok (.aload_n 0, 1) := by decide +kernel
theorem dX4_would_33 : decode cX4_would 33 = .ok (.getfield 16, 3) := by decide +kernel
theorem dX4_would_36 : decode cX4_would 36 = .ok (.iconst 3, 1) := by decide +kernel
theorem dX4_would_37 : decode cX4_would 37 = .ok (.iload_n 1, 1) := by decide +kernel
theorem dX4_would_38 : decode cX4_would 38 = .ok (.imul, 1) := by decide +kernel
theorem dX4_would_39 : decode cX4_would 39 = .ok (.iload_n 2, 1) := by decide +kernel
theorem dX4_would_40 : decode cX4_would 40 = .ok (.iadd, 1) := by decide +kernel
theorem dX4_would_41 : decode cX4_would 41 = .ok (.iconst 1, 1) := by decide +kernel
theorem dX4_would_42 : decode cX4_would 42 = .ok (.bastore, 1) := by decide +kernel
theorem dX4_would_43 : decode cX4_would 43 = .ok (.aload_n 0, 1) := by decide +kernel
theorem dX4_would_44 : decode cX4_would 44 = .ok (.iconst 0, 1) := by decide +kernel
theorem dX4_would_45 : decode cX4_would 45 = .ok (.putfield 68, 3) := by decide +kernel
theorem dX4_would_48 : decode cX4_would 48 = .ok (.aload_n 0, 1) := by decide +kernel
theorem dX4_would_49 : decode cX4_would 49 = .ok (.invokevirtual 160, 3) := by decide +kernel
theorem dX4_would_52 : decode cX4_would 52 = .ok (.lstore 4, 2) := by decide +kernel
theorem dX4_would_54 : decode cX4_would 54 = .ok (.aload_n 0, 1) := by decide +kernel
theorem dX4_would_55 : decode cX4_would 55 = .ok (.getfield 16, 3) := by decide +kernel
theorem dX4_would_58 : decode cX4_would 58 = .ok (.iconst 3, 1) := by decide +kernel
theorem dX4_would_59 : decode cX4_would 59 = .ok (.iload_n 1, 1) := by decide +kernel
theorem dX4_would_60 : decode cX4_would 60 = .ok (.imul, 1) := by decide +kernel
theorem dX4_would_61 : decode cX4_would 61 = .ok (.iload_n 2, 1) := by decide +kernel
theorem dX4_would_62 : decode cX4_would 62 = .ok (.iadd, 1) := by decide +kernel
theorem dX4_would_63 : decode cX4_would 63 = .ok (.iload_n 3, 1) := by decide +kernel
theorem dX4_would_64 : decode cX4_would 64 = .ok (.bastore, 1) := by decide +kernel
theorem dX4_would_65 : decode cX4_would 65 = .ok (.aload_n 0, 1) := by decide +kernel
theorem dX4_would_66 : decode cX4_would 66 = .ok (.iconst 0, 1) := by decide +kernel
theorem dX4_would_67 : decode cX4_would 67 = .ok (.putfield 68, 3) := by decide +kernel
theorem dX4_would_70 : decode cX4_would 70 = .ok (.lload 4, 2) := by decide +kernel
theorem dX4_would_72 : decode cX4_would 72 = .ok (.lreturn, 1) := by decide +kernel
theorem dJ9_max_7cf53_0 : decode cJ9_max_7cf53 0 = .ok (.iload_n 0, 1) := by decide +kernel
theorem dJ9_max_7cf53_1 : decode cJ9_max_7cf53 1 = .ok (.iload_n 1, 1) := by decide +kernel
theorem dJ9_max_7cf53_2 : decode cJ9_max_7cf53 2 = .ok (.if_icmp .lt 7, 3) := by decide +kernel
theorem dJ9_max_7cf53_5 : decode cJ9_max_7cf53 5 = .ok (.iload_n 0, 1) := by decide +kernel
theorem dJ9_max_7cf53_6 : decode cJ9_max_7cf53 6 = .ok (.goto 4, 3) := by decide +kernel
theorem dJ9_max_7cf53_9 : decode cJ9_max_7cf53 9 = .ok (.iload_n 1, 1) := by decide +kernel
theorem dJ9_max_7cf53_10 : decode cJ9_max_7cf53 10 = .ok (.ireturn, 1) := by decide +kernel
theorem dJ9_min_7cf53_0 : decode cJ9_min_7cf53 0 = .ok (.iload_n 0, 1) := by decide +kernel
theorem dJ9_min_7cf53_1 : decode cJ9_min_7cf53 1 = .ok (.iload_n 1, 1) := by decide +kernel
theorem dJ9_min_7cf53_2 : decode cJ9_min_7cf53 2 = .ok (.if_icmp .gt 7, 3) := by decide +kernel
theorem dJ9_min_7cf53_5 : decode cJ9_min_7cf53 5 = .ok (.iload_n 0, 1) := by decide +kernel
theorem dJ9_min_7cf53_6 : decode cJ9_min_7cf53 6 = .ok (.goto 4, 3) := by decide +kernel
theorem dJ9_min_7cf53_9 : decode cJ9_min_7cf53 9 = .ok (.iload_n 1, 1) := by decide +kernel
theorem dJ9_min_7cf53_10 : decode cJ9_min_7cf53 10 = .ok (.ireturn, 1) := by decide +kernel
theorem dL_cell_0 : decode cL_cell 0 = .ok (.iload_n 1, 1) := by decide +kernel
theorem dL_cell_1 : decode cL_cell 1 = .ok (.aload_n 0, 1) := by decide +kernel
theorem dL_cell_2 : decode cL_cell 2 = .ok (.arraylength, 1) := by decide +kernel
theorem dL_cell_3 : decode cL_cell 3 = .ok (.if_icmp .ge 9, 3) := by decide +kernel
theorem dL_cell_6 : decode cL_cell 6 = .ok (.aload_n 0, 1) := by decide +kernel
theorem dL_cell_7 : decode cL_cell 7 = .ok (.iload_n 1, 1) := by decide +kernel
theorem dL_cell_8 : decode cL_cell 8 = .ok (.iaload, 1) := by decide +kernel
theorem dL_cell_9 : decode cL_cell 9 = .ok (.goto 4, 3) := by decide +kernel
theorem dL_cell_12 : decode cL_cell 12 = .ok (.iconst 0, 1) := by decide +kernel
theorem dL_cell_13 : decode cL_cell 13 = .ok (.ireturn, 1) := by decide +kernel
set_option maxRecDepth 20000 in
theorem ggL_law_L_cell : GoodIn wsL_law wsL_cell := goodIn_r _ [9] rfl (by decide +kernel)
set_option maxRecDepth 20000 in
theorem gL_law_L_cell : GoodIn wsL_law (va_wsS RL 9 yL_cell wsL_cell) := goodIn_app (goodIn_of _ (by decide +kernel)) ggL_law_L_cell
set_option maxRecDepth 20000 in
theorem ggL_law_X3_init : GoodIn wsL_law wsX3_init := goodIn_r _ [12, 13, 14, 15, 16, 17, 18, 19, 20, 21, 22, 23, 24, 25, 26, 27, 28, 29, 30, 2, 31, 32, 33, 34, 35, 36, 37, 38, 39, 40, 41, 42, 43, 44, 45, 46, 47, 48, 49, 50, 51, 52, 53, 54, 55, 56, 57, 58, 59, 60, 61, 62, 63, 64, 65, 66, 67, 68, 69, 70, 71, 72, 73, 74, 75, 76, 77, 500, 501, 502, 503, 504, 505, 506, 507, 478, 479, 480, 481, 508, 509, 510, 511, 512, 513, 514, 515, 516, 517, 518, 519, 520, 521, 522] rfl (by decide +kernel)
set_option maxRecDepth 20000 in
theorem gL_law_X3_init : GoodIn wsL_law (wsX3_init) := ggL_law_X3_init
set_option maxRecDepth 20000 in
theorem ggL_law_X4_init : GoodIn wsL_law wsX4_init := goodIn_r _ [80, 81, 14, 15, 47, 82, 83, 84, 85, 58, 86, 87, 88, 89, 90, 91, 92, 93, 94, 95, 96, 97, 98, 482, 483, 484, 485, 486, 487, 488, 489, 490, 491, 492, 493, 494, 495, 496, 497, 498, 499] rfl (by decide +kernel)
set_option maxRecDepth 20000 in
theorem gL_law_X4_init : GoodIn wsL_law (wsX4_init) := ggL_law_X4_init
set_option maxRecDepth 20000 in
theorem ggL_law_X3_bar : GoodIn wsL_law wsX3_bar := goodIn_r _ [102, 19, 103, 28, 104, 105, 2, 106, 107, 108, 109, 110, 111, 112, 18, 113, 43, 51, 52, 478, 479, 480, 481, 500, 501, 502, 503, 504, 505, 506, 507] rfl (by decide +kernel)
set_option maxRecDepth 20000 in
theorem gL_law_X3_bar : GoodIn wsL_law (wsV RL 21 RX3 yX3_bar wsX3_bar) := goodIn_app (goodIn_of _ (by decide +kernel)) ggL_law_X3_bar
set_option maxRecDepth 20000 in
theorem ggL_law_X4_bar : GoodIn wsL_law wsX4_bar := goodIn_r _ [117, 118, 82, 83, 119, 120, 121, 5, 122, 123, 124, 125, 482, 483, 484, 485, 486, 487, 488, 489, 490, 491, 492, 493, 494, 495, 496, 497, 498, 499] rfl (by decide +kernel)
set_option maxRecDepth 20000 in
theorem gL_law_X4_bar : GoodIn wsL_law (wsV RL 25 RX4 yX4_bar wsX4_bar) := goodIn_app (goodIn_of _ (by decide +kernel)) ggL_law_X4_bar
set_option maxRecDepth 20000 in
theorem ggL_law_X3_change : GoodIn wsL_law wsX3_change := goodIn_r _ [129, 19, 28, 130, 131, 132, 18, 133, 43, 104, 105, 2, 106, 107, 108, 109, 134, 135, 136, 137, 51, 52, 138, 139, 140, 141, 142, 143, 144, 145, 478, 479, 480, 481, 500, 501, 502, 503, 504, 505, 506, 507] rfl (by decide +kernel)
set_option maxRecDepth 20000 in
theorem gL_law_X3_change : GoodIn wsL_law (wsV RL 26 RX3 yX3_change wsX3_change) := goodIn_app (goodIn_of _ (by decide +kernel)) ggL_law_X3_change
set_option maxRecDepth 20000 in
theorem ggL_law_X4_change : GoodIn wsL_law wsX4_change := goodIn_r _ [149, 82, 83, 119, 150, 151, 152, 5, 153, 118, 123, 124, 125, 120, 121, 122, 482, 483, 484, 485, 486, 487, 488, 489, 490, 491, 492, 493, 494, 495, 496, 497, 498, 499] rfl (by decide +kernel)
set_option maxRecDepth 20000 in
theorem gL_law_X4_change : GoodIn wsL_law (wsV RL 30 RX4 yX4_change wsX4_change) := goodIn_app (goodIn_of _ (by decide +kernel)) ggL_law_X4_change
set_option maxRecDepth 20000 in
theorem ggL_law_X3_mark : GoodIn wsL_law wsX3_mark := goodIn_r _ [157, 19, 28, 130, 131, 132, 18, 133, 43, 107, 108, 2, 109, 158, 159, 160, 161, 50, 162, 163, 164, 165, 478, 479, 480, 481, 500, 501, 502, 503, 504, 505, 506, 507] rfl (by decide +kernel)
set_option maxRecDepth 20000 in
theorem gL_law_X3_mark : GoodIn wsL_law (wsV RL 31 RX3 yX3_mark wsX3_mark) := goodIn_app (goodIn_of _ (by decide +kernel)) ggL_law_X3_mark
set_option maxRecDepth 20000 in
theorem ggL_law_X4_mark : GoodIn wsL_law wsX4_mark := goodIn_r _ [169, 85, 119, 150, 151, 152, 5, 153, 118, 123, 124, 125, 482, 483, 484, 485, 486, 487, 488, 489, 490, 491, 492, 493, 494, 495, 496, 497, 498, 499] rfl (by decide +kernel)
set_option maxRecDepth 20000 in
theorem gL_law_X4_mark : GoodIn wsL_law (wsV RL 35 RX4 yX4_mark wsX4_mark) := goodIn_app (goodIn_of _ (by decide +kernel)) ggL_law_X4_mark
set_option maxRecDepth 20000 in
theorem ggL_law_X3_cost : GoodIn wsL_law wsX3_cost := goodIn_r _ [173, 174, 28, 19, 175, 107, 108, 2, 109, 478, 479, 480, 481, 500, 501, 502, 503, 504, 505, 506, 507] rfl (by decide +kernel)
set_option maxRecDepth 20000 in
theorem gL_law_X3_cost : GoodIn wsL_law (wsV RL 36 RX3 yX3_cost wsX3_cost) := goodIn_app (goodIn_of _ (by decide +kernel)) ggL_law_X3_cost
set_option maxRecDepth 20000 in
theorem ggL_law_X4_cost : GoodIn wsL_law wsX4_cost := goodIn_r _ [179, 180, 86, 119, 123, 124, 5, 125, 482, 483, 484, 485, 486, 487, 488, 489, 490, 491, 492, 493, 494, 495, 496, 497, 498, 499] rfl (by decide +kernel)
set_option maxRecDepth 20000 in
theorem gL_law_X4_cost : GoodIn wsL_law (wsV RL 39 RX4 yX4_cost wsX4_cost) := goodIn_app (goodIn_of _ (by decide +kernel)) ggL_law_X4_cost
set_option maxRecDepth 20000 in
theorem ggL_law_X3_count : GoodIn wsL_law wsX3_count := goodIn_r _ [184, 28, 19, 185, 107, 108, 2, 109, 478, 479, 480, 481, 500, 501, 502, 503, 504, 505, 506, 507] rfl (by decide +kernel)
set_option maxRecDepth 20000 in
theorem gL_law_X3_count : GoodIn wsL_law (wsV RL 40 RX3 yX3_count wsX3_count) := goodIn_app (goodIn_of _ (by decide +kernel)) ggL_law_X3_count
set_option maxRecDepth 20000 in
theorem ggL_law_X4_count : GoodIn wsL_law wsX4_count := goodIn_r _ [189, 190, 119, 123, 124, 5, 125, 482, 483, 484, 485, 486, 487, 488, 489, 490, 491, 492, 493, 494, 495, 496, 497, 498, 499] rfl (by decide +kernel)
set_option maxRecDepth 20000 in
theorem gL_law_X4_count : GoodIn wsL_law (wsV RL 44 RX4 yX4_count wsX4_count) := goodIn_app (goodIn_of _ (by decide +kernel)) ggL_law_X4_count
set_option maxRecDepth 20000 in
theorem ggL_law_X3_size : GoodIn wsL_law wsX3_size := goodIn_r _ [194, 28, 19, 195, 196, 107, 108, 2, 109, 478, 479, 480, 481, 500, 501, 502, 503, 504, 505, 506, 507] rfl (by decide +kernel)
set_option maxRecDepth 20000 in
theorem gL_law_X3_size : GoodIn wsL_law (wsV RL 45 RX3 yX3_size wsX3_size) := goodIn_app (goodIn_of _ (by decide +kernel)) ggL_law_X3_size
set_option maxRecDepth 20000 in
theorem ggL_law_X4_size : GoodIn wsL_law wsX4_size := goodIn_r _ [200, 93, 94, 119, 123, 124, 5, 125, 482, 483, 484, 485, 486, 487, 488, 489, 490, 491, 492, 493, 494, 495, 496, 497, 498, 499] rfl (by decide +kernel)
set_option maxRecDepth 20000 in
theorem gL_law_X4_size : GoodIn wsL_law (wsV RL 48 RX4 yX4_size wsX4_size) := goodIn_app (goodIn_of _ (by decide +kernel)) ggL_law_X4_size
set_option maxRecDepth 20000 in
theorem ggL_law_X3_bars : GoodIn wsL_law wsX3_bars := goodIn_r _ [204, 19, 103, 478, 479, 480, 481, 500, 501, 502, 503, 504, 505, 506, 507] rfl (by decide +kernel)
set_option maxRecDepth 20000 in
theorem gL_law_X3_bars : GoodIn wsL_law (wsV RL 49 RX3 yX3_bars wsX3_bars) := goodIn_app (goodIn_of _ (by decide +kernel)) ggL_law_X3_bars
set_option maxRecDepth 20000 in
theorem ggL_law_X4_bars : GoodIn wsL_law wsX4_bars := goodIn_r _ [208, 118, 482, 483, 484, 485, 486, 487, 488, 489, 490, 491, 492, 493, 494, 495, 496, 497, 498, 499] rfl (by decide +kernel)
set_option maxRecDepth 20000 in
theorem gL_law_X4_bars : GoodIn wsL_law (wsV RL 53 RX4 yX4_bars wsX4_bars) := goodIn_app (goodIn_of _ (by decide +kernel)) ggL_law_X4_bars
set_option maxRecDepth 20000 in
theorem ggL_law_X3_lines : GoodIn wsL_law wsX3_lines := goodIn_r _ [212, 27, 213, 214, 215, 216, 217, 2, 218, 28, 23, 19, 103, 219, 220, 221, 22, 222, 65, 57, 223, 224, 63, 64, 61, 62, 225, 226, 227, 228, 60, 59, 229, 230, 231, 18, 232, 48, 233, 159, 160, 161, 50, 234, 235, 236, 237, 238, 43, 239, 240, 241, 242, 243, 244, 245, 246, 51, 44, 247, 248, 249, 250, 142, 143, 144, 145, 52, 251, 252, 253, 254, 255, 256, 33, 34, 35, 257, 258, 259, 260, 261, 262, 263, 264, 265, 266, 267, 268, 269, 270, 271, 272, 273, 274, 275, 276, 277, 278, 279, 280, 281, 282, 283, 284, 285, 26, 286, 70, 71, 72, 73, 77, 76, 74, 75, 287, 288, 289, 290, 291, 292, 293, 294, 295, 296, 297, 298, 299, 300, 301, 302, 303, 478, 479, 480, 481, 515, 516, 517, 518, 519, 520, 521, 522, 500, 501, 502, 503, 504, 505, 506, 507, 508, 509, 510, 511, 512, 513, 514] rfl (by decide +kernel)
set_option maxRecDepth 20000 in
theorem gL_law_X3_lines : GoodIn wsL_law (wsV RL 54 RX3 yX3_lines wsX3_lines) := goodIn_app (goodIn_of _ (by decide +kernel)) ggL_law_X3_lines
set_option maxRecDepth 20000 in
theorem ggL_law_X4_lines : GoodIn wsL_law wsX4_lines := goodIn_r _ [307, 308, 309, 310, 311, 5, 312, 313, 314, 315, 316, 317, 318, 119, 190, 118, 94, 87, 319, 320, 321, 322, 323, 324, 325, 326, 327, 328, 86, 329, 330, 331, 332, 333, 85, 82, 93, 334, 335, 336, 337, 338, 339, 340, 341, 342, 343, 344, 345, 83, 346, 347, 348, 349, 350, 351, 352, 353, 354, 355, 356, 357, 88, 90, 91, 358, 359, 360, 361, 362, 363, 364, 365, 92, 89, 366, 367, 368, 369, 482, 483, 484, 485, 486, 487, 488, 489, 490, 491, 492, 493, 494, 495, 496, 497, 498, 499] rfl (by decide +kernel)
set_option maxRecDepth 20000 in
theorem gL_law_X4_lines : GoodIn wsL_law (wsV RL 57 RX4 yX4_lines wsX4_lines) := goodIn_app (goodIn_of _ (by decide +kernel)) ggL_law_X4_lines
set_option maxRecDepth 20000 in
theorem ggL_law_X3_pages : GoodIn wsL_law wsX3_pages := goodIn_r _ [373, 27, 213, 374, 215, 216, 217, 2, 218, 28, 23, 19, 103, 219, 220, 221, 22, 222, 65, 57, 223, 224, 63, 64, 61, 62, 225, 226, 227, 228, 60, 59, 229, 230, 231, 18, 232, 48, 233, 159, 160, 161, 50, 234, 235, 236, 237, 238, 43, 239, 240, 241, 242, 243, 244, 245, 246, 51, 44, 247, 248, 249, 250, 142, 143, 144, 145, 52, 251, 252, 253, 254, 255, 256, 33, 34, 35, 257, 258, 259, 260, 261, 262, 263, 264, 265, 266, 267, 268, 269, 270, 271, 272, 273, 274, 275, 276, 277, 278, 279, 280, 281, 282, 283, 284, 285, 26, 286, 70, 71, 72, 73, 77, 76, 74, 75, 287, 288, 289, 290, 291, 292, 293, 294, 295, 296, 297, 298, 299, 300, 301, 302, 303, 478, 479, 480, 481, 515, 516, 517, 518, 519, 520, 521, 522, 500, 501, 502, 503, 504, 505, 506, 507, 508, 509, 510, 511, 512, 513, 514] rfl (by decide +kernel)
set_option maxRecDepth 20000 in
theorem gL_law_X3_pages : GoodIn wsL_law (wsV RL 58 RX3 yX3_pages wsX3_pages) := goodIn_app (goodIn_of _ (by decide +kernel)) ggL_law_X3_pages
set_option maxRecDepth 20000 in
theorem ggL_law_X4_pages : GoodIn wsL_law wsX4_pages := goodIn_r _ [378, 321, 309, 310, 311, 5, 312, 313, 314, 315, 316, 317, 318, 119, 190, 118, 94, 87, 319, 320, 308, 322, 323, 324, 325, 326, 327, 328, 86, 329, 330, 331, 332, 333, 85, 82, 93, 334, 335, 336, 337, 338, 339, 340, 341, 342, 343, 344, 345, 83, 346, 347, 348, 349, 350, 351, 352, 353, 354, 355, 356, 357, 88, 90, 91, 358, 359, 360, 361, 362, 363, 364, 365, 92, 89, 366, 367, 368, 369, 482, 483, 484, 485, 486, 487, 488, 489, 490, 491, 492, 493, 494, 495, 496, 497, 498, 499] rfl (by decide +kernel)
set_option maxRecDepth 20000 in
theorem gL_law_X4_pages : GoodIn wsL_law (wsV RL 61 RX4 yX4_pages wsX4_pages) := goodIn_app (goodIn_of _ (by decide +kernel)) ggL_law_X4_pages
set_option maxRecDepth 20000 in
theorem ggL_law_X3_sum : GoodIn wsL_law wsX3_sum := goodIn_r _ [382, 27, 213, 383, 384, 215, 216, 217, 2, 218, 28, 23, 19, 103, 219, 220, 221, 22, 222, 65, 57, 223, 224, 63, 64, 61, 62, 225, 226, 227, 228, 60, 59, 229, 230, 231, 18, 232, 48, 233, 159, 160, 161, 50, 234, 235, 236, 237, 238, 43, 239, 240, 241, 242, 243, 244, 245, 246, 51, 44, 247, 248, 249, 250, 142, 143, 144, 145, 52, 251, 252, 253, 254, 255, 256, 33, 34, 35, 257, 258, 259, 260, 261, 262, 263, 264, 265, 266, 267, 268, 269, 270, 271, 272, 273, 274, 275, 276, 277, 278, 279, 280, 281, 282, 283, 284, 285, 26, 286, 70, 71, 72, 73, 77, 76, 74, 75, 287, 288, 289, 290, 291, 292, 293, 294, 295, 296, 297, 298, 299, 300, 301, 302, 303, 478, 479, 480, 481, 515, 516, 517, 518, 519, 520, 521, 522, 500, 501, 502, 503, 504, 505, 506, 507, 508, 509, 510, 511, 512, 513, 514] rfl (by decide +kernel)
set_option maxRecDepth 20000 in
theorem gL_law_X3_sum : GoodIn wsL_law (wsV RL 62 RX3 yX3_sum wsX3_sum) := goodIn_app (goodIn_of _ (by decide +kernel)) ggL_law_X3_sum
set_option maxRecDepth 20000 in
theorem ggL_law_X4_sum : GoodIn wsL_law wsX4_sum := goodIn_r _ [388, 313, 319, 389, 309, 310, 311, 5, 312, 314, 315, 316, 317, 318, 119, 190, 118, 94, 87, 320, 308, 321, 322, 323, 324, 325, 326, 327, 328, 86, 329, 330, 331, 332, 333, 85, 82, 93, 334, 335, 336, 337, 338, 339, 340, 341, 342, 343, 344, 345, 83, 346, 347, 348, 349, 350, 351, 352, 353, 354, 355, 356, 357, 88, 90, 91, 358, 359, 360, 361, 362, 363, 364, 365, 92, 89, 366, 367, 368, 369, 482, 483, 484, 485, 486, 487, 488, 489, 490, 491, 492, 493, 494, 495, 496, 497, 498, 499] rfl (by decide +kernel)
set_option maxRecDepth 20000 in
theorem gL_law_X4_sum : GoodIn wsL_law (wsV RL 66 RX4 yX4_sum wsX4_sum) := goodIn_app (goodIn_of _ (by decide +kernel)) ggL_law_X4_sum
set_option maxRecDepth 20000 in
theorem ggL_law_X3_line : GoodIn wsL_law wsX3_line := goodIn_r _ [393, 27, 213, 214, 394, 395, 174, 19, 215, 216, 217, 2, 218, 28, 23, 103, 219, 220, 221, 22, 222, 65, 57, 223, 224, 63, 64, 61, 62, 225, 226, 227, 228, 60, 59, 229, 230, 231, 18, 232, 48, 233, 159, 160, 161, 50, 234, 235, 236, 237, 238, 43, 239, 240, 241, 242, 243, 244, 245, 246, 51, 44, 247, 248, 249, 250, 142, 143, 144, 145, 52, 251, 252, 253, 254, 255, 256, 33, 34, 35, 257, 258, 259, 260, 261, 262, 263, 264, 265, 266, 267, 268, 269, 270, 271, 272, 273, 274, 275, 276, 277, 278, 279, 280, 281, 282, 283, 284, 285, 26, 286, 70, 71, 72, 73, 77, 76, 74, 75, 287, 288, 289, 290, 291, 292, 293, 294, 295, 296, 297, 298, 299, 300, 301, 302, 303, 107, 108, 109, 396, 397, 398, 399, 400, 478, 479, 480, 481, 515, 516, 517, 518, 519, 520, 521, 522, 500, 501, 502, 503, 504, 505, 506, 507, 508, 509, 510, 511, 512, 513, 514] rfl (by decide +kernel)
set_option maxRecDepth 20000 in
theorem gL_law_X3_line : GoodIn wsL_law (wsV RL 67 RX3 yX3_line wsX3_line) := goodIn_app (goodIn_of _ (by decide +kernel)) ggL_law_X3_line
set_option maxRecDepth 20000 in
theorem ggL_law_X4_line : GoodIn wsL_law wsX4_line := goodIn_r _ [404, 308, 88, 180, 309, 310, 311, 5, 312, 313, 314, 315, 316, 317, 318, 119, 190, 118, 94, 87, 319, 320, 321, 322, 323, 324, 325, 326, 327, 328, 86, 329, 330, 331, 332, 333, 85, 82, 93, 334, 335, 336, 337, 338, 339, 340, 341, 342, 343, 344, 345, 83, 346, 347, 348, 349, 350, 351, 352, 353, 354, 355, 356, 357, 90, 91, 358, 359, 360, 361, 362, 363, 364, 365, 92, 89, 366, 367, 368, 369, 123, 124, 125, 405, 406, 407, 408, 482, 483, 484, 485, 486, 487, 488, 489, 490, 491, 492, 493, 494, 495, 496, 497, 498, 499] rfl (by decide +kernel)
set_option maxRecDepth 20000 in
theorem gL_law_X4_line : GoodIn wsL_law (wsV RL 70 RX4 yX4_line wsX4_line) := goodIn_app (goodIn_of _ (by decide +kernel)) ggL_law_X4_line
set_option maxRecDepth 20000 in
theorem ggL_law_X3_page : GoodIn wsL_law wsX3_page := goodIn_r _ [412, 27, 213, 374, 413, 215, 216, 217, 2, 218, 28, 23, 19, 103, 219, 220, 221, 22, 222, 65, 57, 223, 224, 63, 64, 61, 62, 225, 226, 227, 228, 60, 59, 229, 230, 231, 18, 232, 48, 233, 159, 160, 161, 50, 234, 235, 236, 237, 238, 43, 239, 240, 241, 242, 243, 244, 245, 246, 51, 44, 247, 248, 249, 250, 142, 143, 144, 145, 52, 251, 252, 253, 254, 255, 256, 33, 34, 35, 257, 258, 259, 260, 261, 262, 263, 264, 265, 266, 267, 268, 269, 270, 271, 272, 273, 274, 275, 276, 277, 278, 279, 280, 281, 282, 283, 284, 285, 26, 286, 70, 71, 72, 73, 77, 76, 74, 75, 287, 288, 289, 290, 291, 292, 293, 294, 295, 296, 297, 298, 299, 300, 301, 302, 303, 107, 108, 109, 414, 415, 416, 417, 418, 419, 420, 421, 175, 396, 397, 398, 399, 422, 478, 479, 480, 481, 515, 516, 517, 518, 519, 520, 521, 522, 500, 501, 502, 503, 504, 505, 506, 507, 508, 509, 510, 511, 512, 513, 514] rfl (by decide +kernel)
set_option maxRecDepth 20000 in
theorem gL_law_X3_page : GoodIn wsL_law (wsV RL 71 RX3 yX3_page wsX3_page) := goodIn_app (goodIn_of _ (by decide +kernel)) ggL_law_X3_page
set_option maxRecDepth 20000 in
theorem ggL_law_X4_page : GoodIn wsL_law wsX4_page := goodIn_r _ [426, 321, 89, 309, 310, 311, 5, 312, 313, 314, 315, 316, 317, 318, 119, 190, 118, 94, 87, 319, 320, 308, 322, 323, 324, 325, 326, 327, 328, 86, 329, 330, 331, 332, 333, 85, 82, 93, 334, 335, 336, 337, 338, 339, 340, 341, 342, 343, 344, 345, 83, 346, 347, 348, 349, 350, 351, 352, 353, 354, 355, 356, 357, 88, 90, 91, 358, 359, 360, 361, 362, 363, 364, 365, 92, 366, 367, 368, 369, 123, 124, 125, 482, 483, 484, 485, 486, 487, 488, 489, 490, 491, 492, 493, 494, 495, 496, 497, 498, 499] rfl (by decide +kernel)
set_option maxRecDepth 20000 in
theorem gL_law_X4_page : GoodIn wsL_law (wsV RL 74 RX4 yX4_page wsX4_page) := goodIn_app (goodIn_of _ (by decide +kernel)) ggL_law_X4_page
set_option maxRecDepth 20000 in
theorem ggL_law_X3_set : GoodIn wsL_law wsX3_set := goodIn_r _ [430, 19, 27, 213, 431, 394, 130, 131, 132, 18, 133, 43, 107, 108, 2, 109, 215, 216, 217, 218, 28, 23, 103, 219, 220, 221, 22, 222, 65, 57, 223, 224, 63, 64, 61, 62, 225, 226, 227, 228, 60, 59, 229, 230, 231, 232, 48, 233, 159, 160, 161, 50, 234, 235, 236, 237, 238, 239, 240, 241, 242, 243, 244, 245, 246, 51, 44, 247, 248, 249, 250, 142, 143, 144, 145, 52, 251, 252, 253, 254, 255, 256, 33, 34, 35, 257, 258, 259, 260, 261, 262, 263, 264, 265, 266, 267, 268, 269, 270, 271, 272, 273, 274, 275, 276, 277, 278, 279, 280, 281, 282, 283, 284, 285, 26, 286, 70, 71, 72, 73, 77, 76, 74, 75, 287, 288, 289, 290, 291, 292, 293, 294, 295, 296, 297, 298, 299, 300, 301, 302, 303, 396, 397, 398, 399, 432, 433, 434, 435, 436, 437, 438, 138, 139, 140, 141, 478, 479, 480, 481, 515, 516, 517, 518, 519, 520, 521, 522, 500, 501, 502, 503, 504, 505, 506, 507, 508, 509, 510, 511, 512, 513, 514] rfl (by decide +kernel)
set_option maxRecDepth 20000 in
theorem gL_law_X3_set : GoodIn wsL_law (wsV RL 75 RX3 yX3_set wsX3_set) := goodIn_app (goodIn_of _ (by decide +kernel)) ggL_law_X3_set
set_option maxRecDepth 20000 in
theorem ggL_law_X4_set : GoodIn wsL_law wsX4_set := goodIn_r _ [442, 88, 150, 151, 152, 5, 153, 118, 123, 124, 125, 309, 310, 311, 312, 313, 314, 315, 316, 317, 318, 119, 190, 94, 87, 319, 320, 308, 321, 322, 323, 324, 325, 326, 327, 328, 86, 329, 330, 331, 332, 333, 85, 82, 93, 334, 335, 336, 337, 338, 339, 340, 341, 342, 343, 344, 345, 83, 346, 347, 348, 349, 350, 351, 352, 353, 354, 355, 356, 357, 90, 91, 358, 359, 360, 361, 362, 363, 364, 365, 92, 89, 366, 367, 368, 369, 443, 444, 445, 446, 447, 448, 449, 450, 482, 483, 484, 485, 486, 487, 488, 489, 490, 491, 492, 493, 494, 495, 496, 497, 498, 499] rfl (by decide +kernel)
set_option maxRecDepth 20000 in
theorem gL_law_X4_set : GoodIn wsL_law (wsV RL 78 RX4 yX4_set wsX4_set) := goodIn_app (goodIn_of _ (by decide +kernel)) ggL_law_X4_set
set_option maxRecDepth 20000 in
theorem ggL_law_X3_ends : GoodIn wsL_law wsX3_ends := goodIn_r _ [454, 19, 27, 213, 431, 130, 131, 132, 18, 133, 43, 215, 216, 217, 2, 218, 28, 23, 103, 219, 220, 221, 22, 222, 65, 57, 223, 224, 63, 64, 61, 62, 225, 226, 227, 228, 60, 59, 229, 230, 231, 232, 48, 233, 159, 160, 161, 50, 234, 235, 236, 237, 238, 239, 240, 241, 242, 243, 244, 245, 246, 51, 44, 247, 248, 249, 250, 142, 143, 144, 145, 52, 251, 252, 253, 254, 255, 256, 33, 34, 35, 257, 258, 259, 260, 261, 262, 263, 264, 265, 266, 267, 268, 269, 270, 271, 272, 273, 274, 275, 276, 277, 278, 279, 280, 281, 282, 283, 284, 285, 26, 286, 70, 71, 72, 73, 77, 76, 74, 75, 287, 288, 289, 290, 291, 292, 293, 294, 295, 296, 297, 298, 299, 300, 301, 302, 303, 396, 397, 398, 399, 478, 479, 480, 481, 515, 516, 517, 518, 519, 520, 521, 522, 500, 501, 502, 503, 504, 505, 506, 507, 508, 509, 510, 511, 512, 513, 514] rfl (by decide +kernel)
set_option maxRecDepth 20000 in
theorem gL_law_X3_ends : GoodIn wsL_law (wsV RL 79 RX3 yX3_ends wsX3_ends) := goodIn_app (goodIn_of _ (by decide +kernel)) ggL_law_X3_ends
set_option maxRecDepth 20000 in
theorem ggL_law_X4_ends : GoodIn wsL_law wsX4_ends := goodIn_r _ [458, 88, 150, 151, 152, 5, 153, 118, 123, 124, 125, 309, 310, 311, 312, 313, 314, 315, 316, 317, 318, 119, 190, 94, 87, 319, 320, 308, 321, 322, 323, 324, 325, 326, 327, 328, 86, 329, 330, 331, 332, 333, 85, 82, 93, 334, 335, 336, 337, 338, 339, 340, 341, 342, 343, 344, 345, 83, 346, 347, 348, 349, 350, 351, 352, 353, 354, 355, 356, 357, 90, 91, 358, 359, 360, 361, 362, 363, 364, 365, 92, 89, 366, 367, 368, 369, 443, 444, 445, 446, 482, 483, 484, 485, 486, 487, 488, 489, 490, 491, 492, 493, 494, 495, 496, 497, 498, 499] rfl (by decide +kernel)
set_option maxRecDepth 20000 in
theorem gL_law_X4_ends : GoodIn wsL_law (wsV RL 83 RX4 yX4_ends wsX4_ends) := goodIn_app (goodIn_of _ (by decide +kernel)) ggL_law_X4_ends
set_option maxRecDepth 20000 in
theorem ggL_law_X3_badness : GoodIn wsL_law wsX3_badness := goodIn_r _ [462, 19, 384, 130, 131, 132, 18, 133, 43, 463, 235, 236, 237, 238, 48, 239, 240, 241, 242, 50, 233, 159, 160, 161, 243, 244, 245, 246, 51, 44, 247, 248, 249, 250, 142, 143, 144, 145, 52, 478, 479, 480, 481, 500, 501, 502, 503, 504, 505, 506, 507] rfl (by decide +kernel)
set_option maxRecDepth 20000 in
theorem gL_law_X3_badness : GoodIn wsL_law (wsV RL 84 RX3 yX3_badness wsX3_badness) := goodIn_app (goodIn_of _ (by decide +kernel)) ggL_law_X3_badness
set_option maxRecDepth 20000 in
theorem ggL_law_X4_badness : GoodIn wsL_law wsX4_badness := goodIn_r _ [467, 389, 150, 151, 152, 5, 153, 118, 123, 124, 125, 330, 331, 332, 333, 85, 82, 93, 334, 335, 336, 337, 338, 339, 340, 341, 86, 342, 343, 344, 345, 83, 346, 347, 348, 349, 482, 483, 484, 485, 486, 487, 488, 489, 490, 491, 492, 493, 494, 495, 496, 497, 498, 499] rfl (by decide +kernel)
set_option maxRecDepth 20000 in
theorem gL_law_X4_badness : GoodIn wsL_law (wsV RL 88 RX4 yX4_badness wsX4_badness) := goodIn_app (goodIn_of _ (by decide +kernel)) ggL_law_X4_badness
set_option maxRecDepth 20000 in
theorem ggL_law_X3_would : GoodIn wsL_law wsX3_would := goodIn_r _ [471, 19, 384, 23, 130, 131, 132, 18, 133, 43, 107, 108, 2, 109, 158, 159, 160, 161, 50, 162, 163, 164, 165, 219, 220, 221, 22, 222, 65, 57, 223, 224, 63, 64, 61, 62, 225, 226, 227, 228, 60, 59, 229, 230, 231, 232, 48, 233, 234, 235, 236, 237, 238, 239, 240, 241, 242, 243, 244, 245, 246, 51, 44, 247, 248, 249, 250, 142, 143, 144, 145, 52, 251, 252, 253, 254, 255, 256, 33, 34, 35, 257, 258, 259, 260, 261, 262, 263, 264, 265, 266, 267, 268, 269, 270, 271, 272, 273, 274, 275, 276, 277, 278, 279, 280, 281, 282, 472, 292, 293, 294, 295, 288, 289, 290, 478, 479, 480, 481, 500, 501, 502, 503, 504, 505, 506, 507, 508, 509, 510, 511, 512, 513, 514] rfl (by decide +kernel)
set_option maxRecDepth 20000 in
theorem gL_law_X3_would : GoodIn wsL_law (wsV RL 89 RX3 yX3_would wsX3_would) := goodIn_app (goodIn_of _ (by decide +kernel)) ggL_law_X3_would
set_option maxRecDepth 20000 in
theorem ggL_law_X4_would : GoodIn wsL_law wsX4_would := goodIn_r _ [476, 389, 85, 119, 150, 151, 152, 5, 153, 118, 123, 124, 125, 477, 386, 387, 388, 313, 319, 309, 310, 311, 312, 314, 315, 316, 317, 318, 190, 94, 87, 320, 308, 321, 322, 323, 324, 325, 326, 327, 328, 86, 329, 330, 331, 332, 333, 82, 93, 334, 335, 336, 337, 338, 339, 340, 341, 342, 343, 344, 345, 83, 346, 347, 348, 349, 350, 351, 352, 353, 354, 355, 356, 357, 88, 90, 91, 358, 359, 360, 361, 362, 363, 364, 365, 92, 89, 366, 367, 368, 369, 482, 483, 484, 485, 486, 487, 488, 489, 490, 491, 492, 493, 494, 495, 496, 497, 498, 499] rfl (by decide +kernel)
set_option maxRecDepth 20000 in
theorem gL_law_X4_would : GoodIn wsL_law (wsV RL 92 RX4 yX4_would wsX4_would) := goodIn_app (goodIn_of _ (by decide +kernel)) ggL_law_X4_would
theorem dL_law_0 : decode cL_law 0 = .ok (.new 7, 3) := by decide +kernel
theorem dL_law_3 : decode cL_law 3 = .ok (.dup, 1) := by decide +kernel
theorem dL_law_4 : decode cL_law 4 = .ok (.aload_n 0, 1) := by decide +kernel
theorem dL_law_5 : decode cL_law 5 = .ok (.iconst 0, 1) := by decide +kernel
theorem dL_law_6 : decode cL_law 6 = .ok (.invokestatic 9, 3) := by decide +kernel
theorem dL_law_9 : decode cL_law 9 = .ok (.aload_n 0, 1) := by decide +kernel
theorem dL_law_10 : decode cL_law 10 = .ok (.iconst 1, 1) := by decide +kernel
theorem dL_law_11 : decode cL_law 11 = .ok (.invokestatic 9, 3) := by decide +kernel
theorem dL_law_14 : decode cL_law 14 = .ok (.invokespecial 15, 3) := by decide +kernel
theorem dL_law_17 : decode cL_law 17 = .ok (.astore_n 1, 1) := by decide +kernel
theorem dL_law_18 : decode cL_law 18 = .ok (.new 18, 3) := by decide +kernel
theorem dL_law_21 : decode cL_law 21 = .ok (.dup, 1) := by decide +kernel
theorem dL_law_22 : decode cL_law 22 = .ok (.aload_n 0, 1) := by decide +kernel
theorem dL_law_23 : decode cL_law 23 = .ok (.iconst 0, 1) := by decide +kernel
theorem dL_law_24 : decode cL_law 24 = .ok (.invokestatic 9, 3) := by decide +kernel
theorem dL_law_27 : decode cL_law 27 = .ok (.aload_n 0, 1) := by decide +kernel
theorem dL_law_28 : decode cL_law 28 = .ok (.iconst 1, 1) := by decide +kernel
theorem dL_law_29 : decode cL_law 29 = .ok (.invokestatic 9, 3) := by decide +kernel
theorem dL_law_32 : decode cL_law 32 = .ok (.invokespecial 20, 3) := by decide +kernel
theorem dL_law_35 : decode cL_law 35 = .ok (.astore_n 2, 1) := by decide +kernel
theorem dL_law_36 : decode cL_law 36 = .ok (.iconst 2, 1) := by decide +kernel
theorem dL_law_37 : decode cL_law 37 = .ok (.istore_n 3, 1) := by decide +kernel
theorem dL_law_38 : decode cL_law 38 = .ok (.iload_n 3, 1) := by decide +kernel
theorem dL_law_39 : decode cL_law 39 = .ok (.aload_n 0, 1) := by decide +kernel
theorem dL_law_40 : decode cL_law 40 = .ok (.arraylength, 1) := by decide +kernel
theorem dL_law_41 : decode cL_law 41 = .ok (.iconst 4, 1) := by decide +kernel
theorem dL_law_42 : decode cL_law 42 = .ok (.isub, 1) := by decide +kernel
theorem dL_law_43 : decode cL_law 43 = .ok (.if_icmp .gt 562, 3) := by decide +kernel
theorem dL_law_46 : decode cL_law 46 = .ok (.aload_n 0, 1) := by decide +kernel
theorem dL_law_47 : decode cL_law 47 = .ok (.iload_n 3, 1) := by decide +kernel
theorem dL_law_48 : decode cL_law 48 = .ok (.iaload, 1) := by decide +kernel
theorem dL_law_49 : decode cL_law 49 = .ok (.bipush 15, 2) := by decide +kernel
theorem dL_law_51 : decode cL_law 51 = .ok (.iand, 1) := by decide +kernel
theorem dL_law_52 : decode cL_law 52 = .ok (.tableswitch 547 0 15 #[80, 113, 156, 215, 248, 271, 304, 317, 330, 343, 357, 390, 423, 456, 479, 513], 80) := by decide +kernel
theorem dL_law_132 : decode cL_law 132 = .ok (.aload_n 1, 1) := by decide +kernel
theorem dL_law_133 : decode cL_law 133 = .ok (.aload_n 0, 1) := by decide +kernel
theorem dL_law_134 : decode cL_law 134 = .ok (.iload_n 3, 1) := by decide +kernel
theorem dL_law_135 : decode cL_law 135 = .ok (.iconst 1, 1) := by decide +kernel
end
section
theorem dL_law_136 : decode cL_law 136 = .ok (.iadd, 1) := by decide +kernel
theorem dL_law_137 : decode cL_law 137 = .ok (.iaload, 1) := by decide +kernel
theorem dL_law_138 : decode cL_law 138 = .ok (.aload_n 0, 1) := by decide +kernel
theorem dL_law_139 : decode cL_law 139 = .ok (.iload_n 3, 1) := by decide +kernel
theorem dL_law_140 : decode cL_law 140 = .ok (.iconst 2, 1) := by decide +kernel
theorem dL_law_141 : decode cL_law 141 = .ok (.iadd, 1) := by decide +kernel
theorem dL_law_142 : decode cL_law 142 = .ok (.iaload, 1) := by decide +kernel
theorem dL_law_143 : decode cL_law 143 = .ok (.invokevirtual 21, 3) := by decide +kernel
theorem dL_law_146 : decode cL_law 146 = .ok (.aload_n 2, 1) := by decide +kernel
theorem dL_law_147 : decode cL_law 147 = .ok (.aload_n 0, 1) := by decide +kernel
theorem dL_law_148 : decode cL_law 148 = .ok (.iload_n 3, 1) := by decide +kernel
theorem dL_law_149 : decode cL_law 149 = .ok (.iconst 1, 1) := by decide +kernel
theorem dL_law_150 : decode cL_law 150 = .ok (.iadd, 1) := by decide +kernel
theorem dL_law_151 : decode cL_law 151 = .ok (.iaload, 1) := by decide +kernel
theorem dL_law_152 : decode cL_law 152 = .ok (.aload_n 0, 1) := by decide +kernel
theorem dL_law_153 : decode cL_law 153 = .ok (.iload_n 3, 1) := by decide +kernel
theorem dL_law_154 : decode cL_law 154 = .ok (.iconst 2, 1) := by decide +kernel
theorem dL_law_155 : decode cL_law 155 = .ok (.iadd, 1) := by decide +kernel
theorem dL_law_156 : decode cL_law 156 = .ok (.iaload, 1) := by decide +kernel
theorem dL_law_157 : decode cL_law 157 = .ok (.invokevirtual 25, 3) := by decide +kernel
theorem dL_law_160 : decode cL_law 160 = .ok (.if_icmp .eq 439, 3) := by decide +kernel
theorem dL_law_163 : decode cL_law 163 = .ok (.iconst 0, 1) := by decide +kernel
theorem dL_law_164 : decode cL_law 164 = .ok (.ireturn, 1) := by decide +kernel
theorem dL_law_165 : decode cL_law 165 = .ok (.aload_n 1, 1) := by decide +kernel
theorem dL_law_166 : decode cL_law 166 = .ok (.aload_n 0, 1) := by decide +kernel
theorem dL_law_167 : decode cL_law 167 = .ok (.iload_n 3, 1) := by decide +kernel
theorem dL_law_168 : decode cL_law 168 = .ok (.iconst 1, 1) := by decide +kernel
theorem dL_law_169 : decode cL_law 169 = .ok (.iadd, 1) := by decide +kernel
theorem dL_law_170 : decode cL_law 170 = .ok (.iaload, 1) := by decide +kernel
theorem dL_law_171 : decode cL_law 171 = .ok (.aload_n 0, 1) := by decide +kernel
theorem dL_law_172 : decode cL_law 172 = .ok (.iload_n 3, 1) := by decide +kernel
theorem dL_law_173 : decode cL_law 173 = .ok (.iconst 2, 1) := by decide +kernel
theorem dL_law_174 : decode cL_law 174 = .ok (.iadd, 1) := by decide +kernel
theorem dL_law_175 : decode cL_law 175 = .ok (.iaload, 1) := by decide +kernel
theorem dL_law_176 : decode cL_law 176 = .ok (.aload_n 0, 1) := by decide +kernel
theorem dL_law_177 : decode cL_law 177 = .ok (.iload_n 3, 1) := by decide +kernel
theorem dL_law_178 : decode cL_law 178 = .ok (.iconst 3, 1) := by decide +kernel
theorem dL_law_179 : decode cL_law 179 = .ok (.iadd, 1) := by decide +kernel
theorem dL_law_180 : decode cL_law 180 = .ok (.iaload, 1) := by decide +kernel
theorem dL_law_181 : decode cL_law 181 = .ok (.invokevirtual 26, 3) := by decide +kernel
theorem dL_law_184 : decode cL_law 184 = .ok (.aload_n 2, 1) := by decide +kernel
theorem dL_law_185 : decode cL_law 185 = .ok (.aload_n 0, 1) := by decide +kernel
theorem dL_law_186 : decode cL_law 186 = .ok (.iload_n 3, 1) := by decide +kernel
theorem dL_law_187 : decode cL_law 187 = .ok (.iconst 1, 1) := by decide +kernel
theorem dL_law_188 : decode cL_law 188 = .ok (.iadd, 1) := by decide +kernel
theorem dL_law_189 : decode cL_law 189 = .ok (.iaload, 1) := by decide +kernel
theorem dL_law_190 : decode cL_law 190 = .ok (.aload_n 0, 1) := by decide +kernel
theorem dL_law_191 : decode cL_law 191 = .ok (.iload_n 3, 1) := by decide +kernel
theorem dL_law_192 : decode cL_law 192 = .ok (.iconst 2, 1) := by decide +kernel
theorem dL_law_193 : decode cL_law 193 = .ok (.iadd, 1) := by decide +kernel
theorem dL_law_194 : decode cL_law 194 = .ok (.iaload, 1) := by decide +kernel
theorem dL_law_195 : decode cL_law 195 = .ok (.aload_n 0, 1) := by decide +kernel
theorem dL_law_196 : decode cL_law 196 = .ok (.iload_n 3, 1) := by decide +kernel
theorem dL_law_197 : decode cL_law 197 = .ok (.iconst 3, 1) := by decide +kernel
theorem dL_law_198 : decode cL_law 198 = .ok (.iadd, 1) := by decide +kernel
theorem dL_law_199 : decode cL_law 199 = .ok (.iaload, 1) := by decide +kernel
theorem dL_law_200 : decode cL_law 200 = .ok (.invokevirtual 30, 3) := by decide +kernel
theorem dL_law_203 : decode cL_law 203 = .ok (.if_icmp .eq 396, 3) := by decide +kernel
theorem dL_law_206 : decode cL_law 206 = .ok (.iconst 0, 1) := by decide +kernel
theorem dL_law_207 : decode cL_law 207 = .ok (.ireturn, 1) := by decide +kernel
theorem dL_law_208 : decode cL_law 208 = .ok (.aload_n 1, 1) := by decide +kernel
theorem dL_law_209 : decode cL_law 209 = .ok (.aload_n 0, 1) := by decide +kernel
theorem dL_law_210 : decode cL_law 210 = .ok (.iload_n 3, 1) := by decide +kernel
theorem dL_law_211 : decode cL_law 211 = .ok (.iconst 1, 1) := by decide +kernel
theorem dL_law_212 : decode cL_law 212 = .ok (.iadd, 1) := by decide +kernel
theorem dL_law_213 : decode cL_law 213 = .ok (.iaload, 1) := by decide +kernel
theorem dL_law_214 : decode cL_law 214 = .ok (.aload_n 0, 1) := by decide +kernel
theorem dL_law_215 : decode cL_law 215 = .ok (.iload_n 3, 1) := by decide +kernel
theorem dL_law_216 : decode cL_law 216 = .ok (.iconst 2, 1) := by decide +kernel
theorem dL_law_217 : decode cL_law 217 = .ok (.iadd, 1) := by decide +kernel
theorem dL_law_218 : decode cL_law 218 = .ok (.iaload, 1) := by decide +kernel
theorem dL_law_219 : decode cL_law 219 = .ok (.aload_n 0, 1) := by decide +kernel
theorem dL_law_220 : decode cL_law 220 = .ok (.iload_n 3, 1) := by decide +kernel
theorem dL_law_221 : decode cL_law 221 = .ok (.iconst 3, 1) := by decide +kernel
theorem dL_law_222 : decode cL_law 222 = .ok (.iadd, 1) := by decide +kernel
theorem dL_law_223 : decode cL_law 223 = .ok (.iaload, 1) := by decide +kernel
theorem dL_law_224 : decode cL_law 224 = .ok (.ifCond .eq 7, 3) := by decide +kernel
theorem dL_law_227 : decode cL_law 227 = .ok (.iconst 1, 1) := by decide +kernel
theorem dL_law_228 : decode cL_law 228 = .ok (.goto 4, 3) := by decide +kernel
theorem dL_law_231 : decode cL_law 231 = .ok (.iconst 0, 1) := by decide +kernel
theorem dL_law_232 : decode cL_law 232 = .ok (.invokevirtual 31, 3) := by decide +kernel
theorem dL_law_235 : decode cL_law 235 = .ok (.aload_n 2, 1) := by decide +kernel
theorem dL_law_236 : decode cL_law 236 = .ok (.aload_n 0, 1) := by decide +kernel
theorem dL_law_237 : decode cL_law 237 = .ok (.iload_n 3, 1) := by decide +kernel
theorem dL_law_238 : decode cL_law 238 = .ok (.iconst 1, 1) := by decide +kernel
theorem dL_law_239 : decode cL_law 239 = .ok (.iadd, 1) := by decide +kernel
theorem dL_law_240 : decode cL_law 240 = .ok (.iaload, 1) := by decide +kernel
theorem dL_law_241 : decode cL_law 241 = .ok (.aload_n 0, 1) := by decide +kernel
theorem dL_law_242 : decode cL_law 242 = .ok (.iload_n 3, 1) := by decide +kernel
theorem dL_law_243 : decode cL_law 243 = .ok (.iconst 2, 1) := by decide +kernel
theorem dL_law_244 : decode cL_law 244 = .ok (.iadd, 1) := by decide +kernel
theorem dL_law_245 : decode cL_law 245 = .ok (.iaload, 1) := by decide +kernel
theorem dL_law_246 : decode cL_law 246 = .ok (.aload_n 0, 1) := by decide +kernel
theorem dL_law_247 : decode cL_law 247 = .ok (.iload_n 3, 1) := by decide +kernel
theorem dL_law_248 : decode cL_law 248 = .ok (.iconst 3, 1) := by decide +kernel
theorem dL_law_249 : decode cL_law 249 = .ok (.iadd, 1) := by decide +kernel
theorem dL_law_250 : decode cL_law 250 = .ok (.iaload, 1) := by decide +kernel
theorem dL_law_251 : decode cL_law 251 = .ok (.ifCond .eq 7, 3) := by decide +kernel
theorem dL_law_254 : decode cL_law 254 = .ok (.iconst 1, 1) := by decide +kernel
theorem dL_law_255 : decode cL_law 255 = .ok (.goto 4, 3) := by decide +kernel
theorem dL_law_258 : decode cL_law 258 = .ok (.iconst 0, 1) := by decide +kernel
theorem dL_law_259 : decode cL_law 259 = .ok (.invokevirtual 35, 3) := by decide +kernel
theorem dL_law_262 : decode cL_law 262 = .ok (.if_icmp .eq 337, 3) := by decide +kernel
theorem dL_law_265 : decode cL_law 265 = .ok (.iconst 0, 1) := by decide +kernel
theorem dL_law_266 : decode cL_law 266 = .ok (.ireturn, 1) := by decide +kernel
theorem dL_law_267 : decode cL_law 267 = .ok (.aload_n 1, 1) := by decide +kernel
theorem dL_law_268 : decode cL_law 268 = .ok (.aload_n 0, 1) := by decide +kernel
theorem dL_law_269 : decode cL_law 269 = .ok (.iload_n 3, 1) := by decide +kernel
theorem dL_law_270 : decode cL_law 270 = .ok (.iconst 1, 1) := by decide +kernel
theorem dL_law_271 : decode cL_law 271 = .ok (.iadd, 1) := by decide +kernel
theorem dL_law_272 : decode cL_law 272 = .ok (.iaload, 1) := by decide +kernel
theorem dL_law_273 : decode cL_law 273 = .ok (.aload_n 0, 1) := by decide +kernel
theorem dL_law_274 : decode cL_law 274 = .ok (.iload_n 3, 1) := by decide +kernel
theorem dL_law_275 : decode cL_law 275 = .ok (.iconst 2, 1) := by decide +kernel
theorem dL_law_276 : decode cL_law 276 = .ok (.iadd, 1) := by decide +kernel
theorem dL_law_277 : decode cL_law 277 = .ok (.iaload, 1) := by decide +kernel
theorem dL_law_278 : decode cL_law 278 = .ok (.invokevirtual 36, 3) := by decide +kernel
theorem dL_law_281 : decode cL_law 281 = .ok (.aload_n 2, 1) := by decide +kernel
theorem dL_law_282 : decode cL_law 282 = .ok (.aload_n 0, 1) := by decide +kernel
theorem dL_law_283 : decode cL_law 283 = .ok (.iload_n 3, 1) := by decide +kernel
theorem dL_law_284 : decode cL_law 284 = .ok (.iconst 1, 1) := by decide +kernel
theorem dL_law_285 : decode cL_law 285 = .ok (.iadd, 1) := by decide +kernel
theorem dL_law_286 : decode cL_law 286 = .ok (.iaload, 1) := by decide +kernel
theorem dL_law_287 : decode cL_law 287 = .ok (.aload_n 0, 1) := by decide +kernel
theorem dL_law_288 : decode cL_law 288 = .ok (.iload_n 3, 1) := by decide +kernel
theorem dL_law_289 : decode cL_law 289 = .ok (.iconst 2, 1) := by decide +kernel
theorem dL_law_290 : decode cL_law 290 = .ok (.iadd, 1) := by decide +kernel
theorem dL_law_291 : decode cL_law 291 = .ok (.iaload, 1) := by decide +kernel
theorem dL_law_292 : decode cL_law 292 = .ok (.invokevirtual 39, 3) := by decide +kernel
theorem dL_law_295 : decode cL_law 295 = .ok (.if_icmp .eq 304, 3) := by decide +kernel
theorem dL_law_298 : decode cL_law 298 = .ok (.iconst 0, 1) := by decide +kernel
theorem dL_law_299 : decode cL_law 299 = .ok (.ireturn, 1) := by decide +kernel
theorem dL_law_300 : decode cL_law 300 = .ok (.aload_n 1, 1) := by decide +kernel
theorem dL_law_301 : decode cL_law 301 = .ok (.aload_n 0, 1) := by decide +kernel
theorem dL_law_302 : decode cL_law 302 = .ok (.iload_n 3, 1) := by decide +kernel
theorem dL_law_303 : decode cL_law 303 = .ok (.iconst 1, 1) := by decide +kernel
theorem dL_law_304 : decode cL_law 304 = .ok (.iadd, 1) := by decide +kernel
theorem dL_law_305 : decode cL_law 305 = .ok (.iaload, 1) := by decide +kernel
theorem dL_law_306 : decode cL_law 306 = .ok (.invokevirtual 40, 3) := by decide +kernel
theorem dL_law_309 : decode cL_law 309 = .ok (.aload_n 2, 1) := by decide +kernel
theorem dL_law_310 : decode cL_law 310 = .ok (.aload_n 0, 1) := by decide +kernel
theorem dL_law_311 : decode cL_law 311 = .ok (.iload_n 3, 1) := by decide +kernel
theorem dL_law_312 : decode cL_law 312 = .ok (.iconst 1, 1) := by decide +kernel
theorem dL_law_313 : decode cL_law 313 = .ok (.iadd, 1) := by decide +kernel
theorem dL_law_314 : decode cL_law 314 = .ok (.iaload, 1) := by decide +kernel
theorem dL_law_315 : decode cL_law 315 = .ok (.invokevirtual 44, 3) := by decide +kernel
theorem dL_law_318 : decode cL_law 318 = .ok (.if_icmp .eq 281, 3) := by decide +kernel
theorem dL_law_321 : decode cL_law 321 = .ok (.iconst 0, 1) := by decide +kernel
theorem dL_law_322 : decode cL_law 322 = .ok (.ireturn, 1) := by decide +kernel
theorem dL_law_323 : decode cL_law 323 = .ok (.aload_n 1, 1) := by decide +kernel
theorem dL_law_324 : decode cL_law 324 = .ok (.aload_n 0, 1) := by decide +kernel
theorem dL_law_325 : decode cL_law 325 = .ok (.iload_n 3, 1) := by decide +kernel
theorem dL_law_326 : decode cL_law 326 = .ok (.iconst 1, 1) := by decide +kernel
theorem dL_law_327 : decode cL_law 327 = .ok (.iadd, 1) := by decide +kernel
theorem dL_law_328 : decode cL_law 328 = .ok (.iaload, 1) := by decide +kernel
theorem dL_law_329 : decode cL_law 329 = .ok (.aload_n 0, 1) := by decide +kernel
theorem dL_law_330 : decode cL_law 330 = .ok (.iload_n 3, 1) := by decide +kernel
theorem dL_law_331 : decode cL_law 331 = .ok (.iconst 2, 1) := by decide +kernel
theorem dL_law_332 : decode cL_law 332 = .ok (.iadd, 1) := by decide +kernel
theorem dL_law_333 : decode cL_law 333 = .ok (.iaload, 1) := by decide +kernel
theorem dL_law_334 : decode cL_law 334 = .ok (.invokevirtual 45, 3) := by decide +kernel
theorem dL_law_337 : decode cL_law 337 = .ok (.aload_n 2, 1) := by decide +kernel
theorem dL_law_338 : decode cL_law 338 = .ok (.aload_n 0, 1) := by decide +kernel
theorem dL_law_339 : decode cL_law 339 = .ok (.iload_n 3, 1) := by decide +kernel
theorem dL_law_340 : decode cL_law 340 = .ok (.iconst 1, 1) := by decide +kernel
theorem dL_law_341 : decode cL_law 341 = .ok (.iadd, 1) := by decide +kernel
theorem dL_law_342 : decode cL_law 342 = .ok (.iaload, 1) := by decide +kernel
theorem dL_law_343 : decode cL_law 343 = .ok (.aload_n 0, 1) := by decide +kernel
theorem dL_law_344 : decode cL_law 344 = .ok (.iload_n 3, 1) := by decide +kernel
theorem dL_law_345 : decode cL_law 345 = .ok (.iconst 2, 1) := by decide +kernel
theorem dL_law_346 : decode cL_law 346 = .ok (.iadd, 1) := by decide +kernel
theorem dL_law_347 : decode cL_law 347 = .ok (.iaload, 1) := by decide +kernel
theorem dL_law_348 : decode cL_law 348 = .ok (.invokevirtual 48, 3) := by decide +kernel
theorem dL_law_351 : decode cL_law 351 = .ok (.if_icmp .eq 248, 3) := by decide +kernel
theorem dL_law_354 : decode cL_law 354 = .ok (.iconst 0, 1) := by decide +kernel
theorem dL_law_355 : decode cL_law 355 = .ok (.ireturn, 1) := by decide +kernel
theorem dL_law_356 : decode cL_law 356 = .ok (.aload_n 1, 1) := by decide +kernel
theorem dL_law_357 : decode cL_law 357 = .ok (.invokevirtual 49, 3) := by decide +kernel
theorem dL_law_360 : decode cL_law 360 = .ok (.aload_n 2, 1) := by decide +kernel
theorem dL_law_361 : decode cL_law 361 = .ok (.invokevirtual 53, 3) := by decide +kernel
theorem dL_law_364 : decode cL_law 364 = .ok (.if_icmp .eq 235, 3) := by decide +kernel
theorem dL_law_367 : decode cL_law 367 = .ok (.iconst 0, 1) := by decide +kernel
theorem dL_law_368 : decode cL_law 368 = .ok (.ireturn, 1) := by decide +kernel
theorem dL_law_369 : decode cL_law 369 = .ok (.aload_n 1, 1) := by decide +kernel
theorem dL_law_370 : decode cL_law 370 = .ok (.invokevirtual 54, 3) := by decide +kernel
theorem dL_law_373 : decode cL_law 373 = .ok (.aload_n 2, 1) := by decide +kernel
theorem dL_law_374 : decode cL_law 374 = .ok (.invokevirtual 57, 3) := by decide +kernel
theorem dL_law_377 : decode cL_law 377 = .ok (.if_icmp .eq 222, 3) := by decide +kernel
theorem dL_law_380 : decode cL_law 380 = .ok (.iconst 0, 1) := by decide +kernel
theorem dL_law_381 : decode cL_law 381 = .ok (.ireturn, 1) := by decide +kernel
theorem dL_law_382 : decode cL_law 382 = .ok (.aload_n 1, 1) := by decide +kernel
theorem dL_law_383 : decode cL_law 383 = .ok (.invokevirtual 58, 3) := by decide +kernel
theorem dL_law_386 : decode cL_law 386 = .ok (.aload_n 2, 1) := by decide +kernel
theorem dL_law_387 : decode cL_law 387 = .ok (.invokevirtual 61, 3) := by decide +kernel
theorem dL_law_390 : decode cL_law 390 = .ok (.if_icmp .eq 209, 3) := by decide +kernel
theorem dL_law_393 : decode cL_law 393 = .ok (.iconst 0, 1) := by decide +kernel
theorem dL_law_394 : decode cL_law 394 = .ok (.ireturn, 1) := by decide +kernel
theorem dL_law_395 : decode cL_law 395 = .ok (.aload_n 1, 1) := by decide +kernel
theorem dL_law_396 : decode cL_law 396 = .ok (.invokevirtual 62, 3) := by decide +kernel
theorem dL_law_399 : decode cL_law 399 = .ok (.aload_n 2, 1) := by decide +kernel
theorem dL_law_400 : decode cL_law 400 = .ok (.invokevirtual 66, 3) := by decide +kernel
theorem dL_law_403 : decode cL_law 403 = .ok (.lcmp, 1) := by decide +kernel
theorem dL_law_404 : decode cL_law 404 = .ok (.ifCond .eq 195, 3) := by decide +kernel
theorem dL_law_407 : decode cL_law 407 = .ok (.iconst 0, 1) := by decide +kernel
theorem dL_law_408 : decode cL_law 408 = .ok (.ireturn, 1) := by decide +kernel
theorem dL_law_409 : decode cL_law 409 = .ok (.aload_n 1, 1) := by decide +kernel
theorem dL_law_410 : decode cL_law 410 = .ok (.aload_n 0, 1) := by decide +kernel
theorem dL_law_411 : decode cL_law 411 = .ok (.iload_n 3, 1) := by decide +kernel
theorem dL_law_412 : decode cL_law 412 = .ok (.iconst 1, 1) := by decide +kernel
theorem dL_law_413 : decode cL_law 413 = .ok (.iadd, 1) := by decide +kernel
theorem dL_law_414 : decode cL_law 414 = .ok (.iaload, 1) := by decide +kernel
theorem dL_law_415 : decode cL_law 415 = .ok (.aload_n 0, 1) := by decide +kernel
theorem dL_law_416 : decode cL_law 416 = .ok (.iload_n 3, 1) := by decide +kernel
theorem dL_law_417 : decode cL_law 417 = .ok (.iconst 2, 1) := by decide +kernel
theorem dL_law_418 : decode cL_law 418 = .ok (.iadd, 1) := by decide +kernel
theorem dL_law_419 : decode cL_law 419 = .ok (.iaload, 1) := by decide +kernel
theorem dL_law_420 : decode cL_law 420 = .ok (.invokevirtual 67, 3) := by decide +kernel
theorem dL_law_423 : decode cL_law 423 = .ok (.aload_n 2, 1) := by decide +kernel
theorem dL_law_424 : decode cL_law 424 = .ok (.aload_n 0, 1) := by decide +kernel
theorem dL_law_425 : decode cL_law 425 = .ok (.iload_n 3, 1) := by decide +kernel
theorem dL_law_426 : decode cL_law 426 = .ok (.iconst 1, 1) := by decide +kernel
theorem dL_law_427 : decode cL_law 427 = .ok (.iadd, 1) := by decide +kernel
theorem dL_law_428 : decode cL_law 428 = .ok (.iaload, 1) := by decide +kernel
theorem dL_law_429 : decode cL_law 429 = .ok (.aload_n 0, 1) := by decide +kernel
theorem dL_law_430 : decode cL_law 430 = .ok (.iload_n 3, 1) := by decide +kernel
theorem dL_law_431 : decode cL_law 431 = .ok (.iconst 2, 1) := by decide +kernel
theorem dL_law_432 : decode cL_law 432 = .ok (.iadd, 1) := by decide +kernel
theorem dL_law_433 : decode cL_law 433 = .ok (.iaload, 1) := by decide +kernel
theorem dL_law_434 : decode cL_law 434 = .ok (.invokevirtual 70, 3) := by decide +kernel
theorem dL_law_437 : decode cL_law 437 = .ok (.if_icmp .eq 162, 3) := by decide +kernel
theorem dL_law_440 : decode cL_law 440 = .ok (.iconst 0, 1) := by decide +kernel
theorem dL_law_441 : decode cL_law 441 = .ok (.ireturn, 1) := by decide +kernel
theorem dL_law_442 : decode cL_law 442 = .ok (.aload_n 1, 1) := by decide +kernel
theorem dL_law_443 : decode cL_law 443 = .ok (.aload_n 0, 1) := by decide +kernel
theorem dL_law_444 : decode cL_law 444 = .ok (.iload_n 3, 1) := by decide +kernel
theorem dL_law_445 : decode cL_law 445 = .ok (.iconst 1, 1) := by decide +kernel
theorem dL_law_446 : decode cL_law 446 = .ok (.iadd, 1) := by decide +kernel
theorem dL_law_447 : decode cL_law 447 = .ok (.iaload, 1) := by decide +kernel
theorem dL_law_448 : decode cL_law 448 = .ok (.aload_n 0, 1) := by decide +kernel
theorem dL_law_449 : decode cL_law 449 = .ok (.iload_n 3, 1) := by decide +kernel
theorem dL_law_450 : decode cL_law 450 = .ok (.iconst 2, 1) := by decide +kernel
theorem dL_law_451 : decode cL_law 451 = .ok (.iadd, 1) := by decide +kernel
theorem dL_law_452 : decode cL_law 452 = .ok (.iaload, 1) := by decide +kernel
theorem dL_law_453 : decode cL_law 453 = .ok (.invokevirtual 71, 3) := by decide +kernel
theorem dL_law_456 : decode cL_law 456 = .ok (.aload_n 2, 1) := by decide +kernel
theorem dL_law_457 : decode cL_law 457 = .ok (.aload_n 0, 1) := by decide +kernel
theorem dL_law_458 : decode cL_law 458 = .ok (.iload_n 3, 1) := by decide +kernel
theorem dL_law_459 : decode cL_law 459 = .ok (.iconst 1, 1) := by decide +kernel
theorem dL_law_460 : decode cL_law 460 = .ok (.iadd, 1) := by decide +kernel
theorem dL_law_461 : decode cL_law 461 = .ok (.iaload, 1) := by decide +kernel
theorem dL_law_462 : decode cL_law 462 = .ok (.aload_n 0, 1) := by decide +kernel
theorem dL_law_463 : decode cL_law 463 = .ok (.iload_n 3, 1) := by decide +kernel
theorem dL_law_464 : decode cL_law 464 = .ok (.iconst 2, 1) := by decide +kernel
theorem dL_law_465 : decode cL_law 465 = .ok (.iadd, 1) := by decide +kernel
theorem dL_law_466 : decode cL_law 466 = .ok (.iaload, 1) := by decide +kernel
theorem dL_law_467 : decode cL_law 467 = .ok (.invokevirtual 74, 3) := by decide +kernel
theorem dL_law_470 : decode cL_law 470 = .ok (.if_icmp .eq 129, 3) := by decide +kernel
theorem dL_law_473 : decode cL_law 473 = .ok (.iconst 0, 1) := by decide +kernel
theorem dL_law_474 : decode cL_law 474 = .ok (.ireturn, 1) := by decide +kernel
theorem dL_law_475 : decode cL_law 475 = .ok (.aload_n 1, 1) := by decide +kernel
theorem dL_law_476 : decode cL_law 476 = .ok (.aload_n 0, 1) := by decide +kernel
theorem dL_law_477 : decode cL_law 477 = .ok (.iload_n 3, 1) := by decide +kernel
theorem dL_law_478 : decode cL_law 478 = .ok (.iconst 1, 1) := by decide +kernel
theorem dL_law_479 : decode cL_law 479 = .ok (.iadd, 1) := by decide +kernel
theorem dL_law_480 : decode cL_law 480 = .ok (.iaload, 1) := by decide +kernel
theorem dL_law_481 : decode cL_law 481 = .ok (.aload_n 0, 1) := by decide +kernel
theorem dL_law_482 : decode cL_law 482 = .ok (.iload_n 3, 1) := by decide +kernel
theorem dL_law_483 : decode cL_law 483 = .ok (.iconst 2, 1) := by decide +kernel
theorem dL_law_484 : decode cL_law 484 = .ok (.iadd, 1) := by decide +kernel
theorem dL_law_485 : decode cL_law 485 = .ok (.iaload, 1) := by decide +kernel
theorem dL_law_486 : decode cL_law 486 = .ok (.invokevirtual 75, 3) := by decide +kernel
theorem dL_law_489 : decode cL_law 489 = .ok (.aload_n 2, 1) := by decide +kernel
theorem dL_law_490 : decode cL_law 490 = .ok (.aload_n 0, 1) := by decide +kernel
theorem dL_law_491 : decode cL_law 491 = .ok (.iload_n 3, 1) := by decide +kernel
theorem dL_law_492 : decode cL_law 492 = .ok (.iconst 1, 1) := by decide +kernel
theorem dL_law_493 : decode cL_law 493 = .ok (.iadd, 1) := by decide +kernel
theorem dL_law_494 : decode cL_law 494 = .ok (.iaload, 1) := by decide +kernel
theorem dL_law_495 : decode cL_law 495 = .ok (.aload_n 0, 1) := by decide +kernel
theorem dL_law_496 : decode cL_law 496 = .ok (.iload_n 3, 1) := by decide +kernel
theorem dL_law_497 : decode cL_law 497 = .ok (.iconst 2, 1) := by decide +kernel
theorem dL_law_498 : decode cL_law 498 = .ok (.iadd, 1) := by decide +kernel
theorem dL_law_499 : decode cL_law 499 = .ok (.iaload, 1) := by decide +kernel
theorem dL_law_500 : decode cL_law 500 = .ok (.invokevirtual 78, 3) := by decide +kernel
theorem dL_law_503 : decode cL_law 503 = .ok (.if_icmp .eq 96, 3) := by decide +kernel
theorem dL_law_506 : decode cL_law 506 = .ok (.iconst 0, 1) := by decide +kernel
theorem dL_law_507 : decode cL_law 507 = .ok (.ireturn, 1) := by decide +kernel
theorem dL_law_508 : decode cL_law 508 = .ok (.aload_n 1, 1) := by decide +kernel
theorem dL_law_509 : decode cL_law 509 = .ok (.aload_n 0, 1) := by decide +kernel
theorem dL_law_510 : decode cL_law 510 = .ok (.iload_n 3, 1) := by decide +kernel
theorem dL_law_511 : decode cL_law 511 = .ok (.iconst 1, 1) := by decide +kernel
theorem dL_law_512 : decode cL_law 512 = .ok (.iadd, 1) := by decide +kernel
theorem dL_law_513 : decode cL_law 513 = .ok (.iaload, 1) := by decide +kernel
theorem dL_law_514 : decode cL_law 514 = .ok (.invokevirtual 79, 3) := by decide +kernel
theorem dL_law_517 : decode cL_law 517 = .ok (.aload_n 2, 1) := by decide +kernel
theorem dL_law_518 : decode cL_law 518 = .ok (.aload_n 0, 1) := by decide +kernel
theorem dL_law_519 : decode cL_law 519 = .ok (.iload_n 3, 1) := by decide +kernel
theorem dL_law_520 : decode cL_law 520 = .ok (.iconst 1, 1) := by decide +kernel
theorem dL_law_521 : decode cL_law 521 = .ok (.iadd, 1) := by decide +kernel
theorem dL_law_522 : decode cL_law 522 = .ok (.iaload, 1) := by decide +kernel
theorem dL_law_523 : decode cL_law 523 = .ok (.invokevirtual 83, 3) := by decide +kernel
theorem dL_law_526 : decode cL_law 526 = .ok (.if_icmp .eq 73, 3) := by decide +kernel
theorem dL_law_529 : decode cL_law 529 = .ok (.iconst 0, 1) := by decide +kernel
theorem dL_law_530 : decode cL_law 530 = .ok (.ireturn, 1) := by decide +kernel
theorem dL_law_531 : decode cL_law 531 = .ok (.aload_n 1, 1) := by decide +kernel
theorem dL_law_532 : decode cL_law 532 = .ok (.aload_n 0, 1) := by decide +kernel
theorem dL_law_533 : decode cL_law 533 = .ok (.iload_n 3, 1) := by decide +kernel
theorem dL_law_534 : decode cL_law 534 = .ok (.iconst 1, 1) := by decide +kernel
theorem dL_law_535 : decode cL_law 535 = .ok (.iadd, 1) := by decide +kernel
theorem dL_law_536 : decode cL_law 536 = .ok (.iaload, 1) := by decide +kernel
theorem dL_law_537 : decode cL_law 537 = .ok (.aload_n 0, 1) := by decide +kernel
theorem dL_law_538 : decode cL_law 538 = .ok (.iload_n 3, 1) := by decide +kernel
theorem dL_law_539 : decode cL_law 539 = .ok (.iconst 2, 1) := by decide +kernel
theorem dL_law_540 : decode cL_law 540 = .ok (.iadd, 1) := by decide +kernel
theorem dL_law_541 : decode cL_law 541 = .ok (.iaload, 1) := by decide +kernel
theorem dL_law_542 : decode cL_law 542 = .ok (.invokevirtual 84, 3) := by decide +kernel
theorem dL_law_545 : decode cL_law 545 = .ok (.aload_n 2, 1) := by decide +kernel
theorem dL_law_546 : decode cL_law 546 = .ok (.aload_n 0, 1) := by decide +kernel
theorem dL_law_547 : decode cL_law 547 = .ok (.iload_n 3, 1) := by decide +kernel
theorem dL_law_548 : decode cL_law 548 = .ok (.iconst 1, 1) := by decide +kernel
theorem dL_law_549 : decode cL_law 549 = .ok (.iadd, 1) := by decide +kernel
theorem dL_law_550 : decode cL_law 550 = .ok (.iaload, 1) := by decide +kernel
theorem dL_law_551 : decode cL_law 551 = .ok (.aload_n 0, 1) := by decide +kernel
theorem dL_law_552 : decode cL_law 552 = .ok (.iload_n 3, 1) := by decide +kernel
theorem dL_law_553 : decode cL_law 553 = .ok (.iconst 2, 1) := by decide +kernel
theorem dL_law_554 : decode cL_law 554 = .ok (.iadd, 1) := by decide +kernel
theorem dL_law_555 : decode cL_law 555 = .ok (.iaload, 1) := by decide +kernel
theorem dL_law_556 : decode cL_law 556 = .ok (.invokevirtual 88, 3) := by decide +kernel
theorem dL_law_559 : decode cL_law 559 = .ok (.lcmp, 1) := by decide +kernel
theorem dL_law_560 : decode cL_law 560 = .ok (.ifCond .eq 39, 3) := by decide +kernel
theorem dL_law_563 : decode cL_law 563 = .ok (.iconst 0, 1) := by decide +kernel
theorem dL_law_564 : decode cL_law 564 = .ok (.ireturn, 1) := by decide +kernel
theorem dL_law_565 : decode cL_law 565 = .ok (.aload_n 1, 1) := by decide +kernel
theorem dL_law_566 : decode cL_law 566 = .ok (.aload_n 0, 1) := by decide +kernel
theorem dL_law_567 : decode cL_law 567 = .ok (.iload_n 3, 1) := by decide +kernel
theorem dL_law_568 : decode cL_law 568 = .ok (.iconst 1, 1) := by decide +kernel
theorem dL_law_569 : decode cL_law 569 = .ok (.iadd, 1) := by decide +kernel
theorem dL_law_570 : decode cL_law 570 = .ok (.iaload, 1) := by decide +kernel
theorem dL_law_571 : decode cL_law 571 = .ok (.aload_n 0, 1) := by decide +kernel
theorem dL_law_572 : decode cL_law 572 = .ok (.iload_n 3, 1) := by decide +kernel
theorem dL_law_573 : decode cL_law 573 = .ok (.iconst 2, 1) := by decide +kernel
theorem dL_law_574 : decode cL_law 574 = .ok (.iadd, 1) := by decide +kernel
theorem dL_law_575 : decode cL_law 575 = .ok (.iaload, 1) := by decide +kernel
theorem dL_law_576 : decode cL_law 576 = .ok (.invokevirtual 89, 3) := by decide +kernel
theorem dL_law_579 : decode cL_law 579 = .ok (.aload_n 2, 1) := by decide +kernel
theorem dL_law_580 : decode cL_law 580 = .ok (.aload_n 0, 1) := by decide +kernel
theorem dL_law_581 : decode cL_law 581 = .ok (.iload_n 3, 1) := by decide +kernel
theorem dL_law_582 : decode cL_law 582 = .ok (.iconst 1, 1) := by decide +kernel
theorem dL_law_583 : decode cL_law 583 = .ok (.iadd, 1) := by decide +kernel
theorem dL_law_584 : decode cL_law 584 = .ok (.iaload, 1) := by decide +kernel
theorem dL_law_585 : decode cL_law 585 = .ok (.aload_n 0, 1) := by decide +kernel
theorem dL_law_586 : decode cL_law 586 = .ok (.iload_n 3, 1) := by decide +kernel
theorem dL_law_587 : decode cL_law 587 = .ok (.iconst 2, 1) := by decide +kernel
theorem dL_law_588 : decode cL_law 588 = .ok (.iadd, 1) := by decide +kernel
theorem dL_law_589 : decode cL_law 589 = .ok (.iaload, 1) := by decide +kernel
theorem dL_law_590 : decode cL_law 590 = .ok (.invokevirtual 92, 3) := by decide +kernel
theorem dL_law_593 : decode cL_law 593 = .ok (.lcmp, 1) := by decide +kernel
theorem dL_law_594 : decode cL_law 594 = .ok (.ifCond .eq 5, 3) := by decide +kernel
theorem dL_law_597 : decode cL_law 597 = .ok (.iconst 0, 1) := by decide +kernel
theorem dL_law_598 : decode cL_law 598 = .ok (.ireturn, 1) := by decide +kernel
theorem dL_law_599 : decode cL_law 599 = .ok (.iinc 3 4, 3) := by decide +kernel
theorem dL_law_602 : decode cL_law 602 = .ok (.goto (-564), 3) := by decide +kernel
theorem dL_law_605 : decode cL_law 605 = .ok (.iconst 1, 1) := by decide +kernel
theorem dL_law_606 : decode cL_law 606 = .ok (.ireturn, 1) := by decide +kernel
abbrev vwCl : List vw_C := [(RX0, TX0, 8), (RX1, TX1, 7), (RX2, TX2, 8), (RX3, TX3, 4), (RX4, TX4, 18)]
end
section
noncomputable section
def jI (z : Int) : Int32 := Int32.ofInt z
def jL (z : Int) : Int64 := Int64.ofInt z
def jZ (P : Prop) : Int32 := @ite _ P (Classical.propDecidable P) 1 0
def updI (F : Int → Int) (k v : Int) : Int → Int := fun j => if j = k then v else F j
def updB (F : Int → Bool) (k : Int) (v : Bool) : Int → Bool := fun j => if j = k then v else F j
theorem jZ_t {P : Prop} (h : P) : jZ P = jI 1 := by unfold jZ; rw [if_pos h]; decide
theorem jZ_f {P : Prop} (h : ¬ P) : jZ P = jI 0 := by unfold jZ; rw [if_neg h]; decide
theorem jZ_c {P P' : Prop} (h : P ↔ P') : jZ P = jZ P' := by rw [propext h]
theorem jZ_0 {P : Prop} : jZ P = 0 ↔ ¬ P := by
  by_cases h : P
  · rw [jZ_t h]; exact ⟨fun q => absurd q (by decide), fun q => absurd h q⟩
  · rw [jZ_f h]; exact ⟨fun _ => h, fun _ => by decide⟩
theorem jI_toInt {z : Int} (h1 : -2147483648 ≤ z) (h2 : z < 2147483648) : (jI z).toInt = z := Int32.toInt_ofInt_of_le (by omega) (by omega)
theorem jL_toInt {z : Int} (h1 : -9223372036854775808 ≤ z) (h2 : z < 9223372036854775808) : (jL z).toInt = z := Int64.toInt_ofInt_of_le (by omega) (by omega)
theorem jI_add (a b : Int) : jI a + jI b = jI (a + b) := (Int32.ofInt_add a b).symm
theorem jI_sub (a b : Int) : jI a - jI b = jI (a - b) := (Int32.ofInt_sub a b).symm
theorem jI_mul (a b : Int) : jI a * jI b = jI (a * b) := (Int32.ofInt_mul a b).symm
theorem jI_neg (a : Int) : -jI a = jI (-a) := (Int32.ofInt_neg a).symm
theorem jL_add (a b : Int) : jL a + jL b = jL (a + b) := (Int64.ofInt_add a b).symm
theorem jL_sub (a b : Int) : jL a - jL b = jL (a - b) := (Int64.ofInt_sub a b).symm
theorem jL_mul (a b : Int) : jL a * jL b = jL (a * b) := (Int64.ofInt_mul a b).symm
theorem jL_neg (a : Int) : -jL a = jL (-a) := (Int64.ofInt_neg a).symm
theorem jI_of (x : Int32) : ∃ z : Int, x = jI z ∧ -2147483648 ≤ z ∧ z < 2147483648 := ⟨x.toInt, (Int32.ofInt_toInt x).symm, by have := Int32.le_toInt x; simpa using this, by have := Int32.toInt_lt x; simpa using this⟩
def i32 (z : Int) : Prop := -2147483648 ≤ z ∧ z < 2147483648
def i64 (z : Int) : Prop := -9223372036854775808 ≤ z ∧ z < 9223372036854775808
theorem jI_eq {a b : Int} (ha : i32 a) (hb : i32 b) : jI a = jI b ↔ a = b := by rw [← Int32.toInt_inj, jI_toInt ha.1 ha.2, jI_toInt hb.1 hb.2]
theorem jI_lt {a b : Int} (ha : i32 a) (hb : i32 b) : jI a < jI b ↔ a < b := by rw [Int32.lt_iff_toInt_lt, jI_toInt ha.1 ha.2, jI_toInt hb.1 hb.2]
theorem jI_le {a b : Int} (ha : i32 a) (hb : i32 b) : jI a ≤ jI b ↔ a ≤ b := by rw [Int32.le_iff_toInt_le, jI_toInt ha.1 ha.2, jI_toInt hb.1 hb.2]
theorem jL_eq {a b : Int} (ha : i64 a) (hb : i64 b) : jL a = jL b ↔ a = b := by rw [← Int64.toInt_inj, jL_toInt ha.1 ha.2, jL_toInt hb.1 hb.2]
theorem jL_lt {a b : Int} (ha : i64 a) (hb : i64 b) : jL a < jL b ↔ a < b := by rw [Int64.lt_iff_toInt_lt, jL_toInt ha.1 ha.2, jL_toInt hb.1 hb.2]
theorem jL_le {a b : Int} (ha : i64 a) (hb : i64 b) : jL a ≤ jL b ↔ a ≤ b := by rw [Int64.le_iff_toInt_le, jL_toInt ha.1 ha.2, jL_toInt hb.1 hb.2]
theorem i32_0 : i32 0 := by unfold i32; omega
theorem jI_div {a b : Int} (ha : 0 ≤ a ∧ a < 2147483648) (hb : 0 < b ∧ b < 2147483648) : jI a / jI b = jI (a / b) := by
  apply Int32.toInt_inj.mp
  have h1 := jI_toInt (z := a) (by omega) ha.2
  have h2 := jI_toInt (z := b) (by omega) hb.2
  have h3 : 0 ≤ a / b := Int.ediv_nonneg ha.1 (by omega)
  have h4 : a / b ≤ a := Int.ediv_le_self _ ha.1
  rw [lg_idiv_nonneg (by rw [h1]; exact ha.1) (by rw [h2]; exact hb.1), h1, h2, jI_toInt (by omega) (by omega)]
theorem jL_div {a b : Int} (ha : 0 ≤ a ∧ a < 9223372036854775808) (hb : 0 < b ∧ b < 9223372036854775808) : jL a / jL b = jL (a / b) := by
  apply Int64.toInt_inj.mp
  have h1 := jL_toInt (z := a) (by omega) ha.2
  have h2 := jL_toInt (z := b) (by omega) hb.2
  have h3 : 0 ≤ a / b := Int.ediv_nonneg ha.1 (by omega)
  have h4 : a / b ≤ a := Int.ediv_le_self _ ha.1
  rw [lg_ldiv_nonneg (by rw [h1]; exact ha.1) (by rw [h2]; exact hb.1), h1, h2, jL_toInt (by omega) (by omega)]
theorem jI_l {a : Int} (h : i32 a) : (jI a).toInt64 = jL a := Int64.toInt_inj.mp (by rw [Int32.toInt_toInt64, jI_toInt h.1 h.2, jL_toInt (by have := h.1; omega) (by have := h.2; omega)])
theorem jL_i (a : Int) : (jL a).toInt32 = jI a := Int64.toInt32_ofInt
theorem jI_cl {i : Int} (h : 0 ≤ i) (h2 : i < 2147483648) : (jI i).toNatClampNeg = i.toNat := by
  show (jI i).toInt.toNat = i.toNat
  rw [jI_toInt (by omega) h2]
theorem jI_in {i : Int} {n : Nat} (h : 0 ≤ i ∧ i < n) (hn : n < 2147483648) : vp_in (jI i) n := by
  rw [vp_in_iff, jI_toInt (by omega) (by omega)]
  exact h
theorem jI_ix {i : Int} (h : 0 ≤ i) (h2 : i < 2147483648) : (((jI i).toNatClampNeg : Nat) : Int) = i := by rw [jI_cl h h2]; omega
theorem jI_upd {F : Int → Int} {i v : Int} (h : 0 ≤ i) (h2 : i < 2147483648) : upd (fun k : Nat => jI (F k)) (jI i).toNatClampNeg (jI v) = fun k : Nat => jI (updI F i v k) := by
  funext j
  have h3 := jI_ix h h2
  unfold upd updI
  by_cases q : j = (jI i).toNatClampNeg
  · rw [if_pos q, if_pos (by rw [q]; exact h3)]
  · rw [if_neg q, if_neg (fun z => q (by omega))]
theorem jL_upd {F : Int → Int} {i v : Int} (h : 0 ≤ i) (h2 : i < 2147483648) : vp_updL (fun k : Nat => jL (F k)) (jI i).toNatClampNeg (jL v) = fun k : Nat => jL (updI F i v k) := by
  funext j
  have h3 := jI_ix h h2
  unfold vp_updL updI
  by_cases q : j = (jI i).toNatClampNeg
  · rw [if_pos q, if_pos (by rw [q]; exact h3)]
  · rw [if_neg q, if_neg (fun z => q (by omega))]
theorem jZ_nar (P : Prop) : vp_nar .boolean (jZ P) = jZ P := by
  by_cases h : P
  · rw [jZ_t h]; decide
  · rw [jZ_f h]; decide
theorem jZ_narrow (P : Prop) : narrow .boolean (.int (jZ P)) = .int (jZ P) := by
  by_cases h : P
  · rw [jZ_t h]; decide
  · rw [jZ_f h]; decide
theorem jZ_fits (P : Prop) : fits .boolean (.int (jZ P)) = true := by
  by_cases h : P
  · rw [jZ_t h]; decide
  · rw [jZ_f h]; decide
theorem jZ_upd {F : Int → Bool} {i : Int} {v : Bool} (h : 0 ≤ i) (h2 : i < 2147483648) : upd (fun k : Nat => jZ (F k = true)) (jI i).toNatClampNeg (vp_nar .boolean (jZ (v = true))) = fun k : Nat => jZ (updB F i v k = true) := by
  funext j
  have h3 := jI_ix h h2
  unfold upd updB
  rw [jZ_nar]
  by_cases q : j = (jI i).toNatClampNeg
  · rw [if_pos q, if_pos (by rw [q]; exact h3)]
  · rw [if_neg q, if_neg (fun z => q (by omega))]
theorem updI_s (F : Int → Int) (k v : Int) : updI F k v k = v := if_pos rfl
theorem updI_n {F : Int → Int} {k v j : Int} (h : j ≠ k) : updI F k v j = F j := if_neg h
theorem updB_s (F : Int → Bool) (k : Int) (v : Bool) : updB F k v k = v := if_pos rfl
theorem updB_n {F : Int → Bool} {k j : Int} {v : Bool} (h : j ≠ k) : updB F k v j = F j := if_neg h
section JB
variable {p : Program} {l : Launch} {e : Env} {R : Room} {s : State} {m : MethodId} {args : Array Value} {below : List Frame} {meth : Method} {c : Code} {H : Heap} {locs : List Loc} {cells slots : Nat} {Q : State → Prop} {cc : ByteArray} {pc : Nat} {ls : Array Slot} {rest : List Value}
theorem j_iconst (hx : p.tables.exec = Jvm.exec) (hb : c.code = cc) {n : Int} (hdg : decode cc pc = .ok (.iconst n, 1)) (k : W p l e R s m args below meth c H locs cells slots Q (F0 m (pc + 1) ls (.int (jI n) :: rest))) : W p l e R s m args below meth c H locs cells slots Q (F0 m pc ls rest) := lv_iconst hx hb hdg rfl k
theorem j_bipush (hx : p.tables.exec = Jvm.exec) (hb : c.code = cc) {n : Int} (hdg : decode cc pc = .ok (.bipush n, 2)) (hv : (Int8.ofInt n).toInt32 = jI n) (k : W p l e R s m args below meth c H locs cells slots Q (F0 m (pc + 2) ls (.int (jI n) :: rest))) : W p l e R s m args below meth c H locs cells slots Q (F0 m pc ls rest) := lv_bipush hx hb hdg hv k
theorem j_sipush (hx : p.tables.exec = Jvm.exec) (hb : c.code = cc) {n : Int} (hdg : decode cc pc = .ok (.sipush n, 3)) (hv : (Int16.ofInt n).toInt32 = jI n) (k : W p l e R s m args below meth c H locs cells slots Q (F0 m (pc + 3) ls (.int (jI n) :: rest))) : W p l e R s m args below meth c H locs cells slots Q (F0 m pc ls rest) := lv_sipush hx hb hdg hv k
theorem j_lconst0 (hx : p.tables.exec = Jvm.exec) (hb : c.code = cc) (hdg : decode cc pc = .ok (.lconst 0, 1)) (k : W p l e R s m args below meth c H locs cells slots Q (F0 m (pc + 1) ls (.long (jL 0) :: rest))) : W p l e R s m args below meth c H locs cells slots Q (F0 m pc ls rest) := lv_lconst hx hb hdg (by decide) k
theorem j_lconst1 (hx : p.tables.exec = Jvm.exec) (hb : c.code = cc) (hdg : decode cc pc = .ok (.lconst 1, 1)) (k : W p l e R s m args below meth c H locs cells slots Q (F0 m (pc + 1) ls (.long (jL 1) :: rest))) : W p l e R s m args below meth c H locs cells slots Q (F0 m pc ls rest) := lv_lconst hx hb hdg (by decide) k
theorem j_iadd (hx : p.tables.exec = Jvm.exec) (hb : c.code = cc) {a b : Int} (hdg : decode cc pc = .ok (.iadd, 1)) (k : W p l e R s m args below meth c H locs cells slots Q (F0 m (pc + 1) ls (.int (jI (a + b)) :: rest))) : W p l e R s m args below meth c H locs cells slots Q (F0 m pc ls (.int (jI b) :: .int (jI a) :: rest)) := by
  refine lv_iadd hx hb hdg ?_
  rw [jI_add]; exact k
theorem j_ladd (hx : p.tables.exec = Jvm.exec) (hb : c.code = cc) {a b : Int} (hdg : decode cc pc = .ok (.ladd, 1)) (k : W p l e R s m args below meth c H locs cells slots Q (F0 m (pc + 1) ls (.long (jL (a + b)) :: rest))) : W p l e R s m args below meth c H locs cells slots Q (F0 m pc ls (.long (jL b) :: .long (jL a) :: rest)) := by
  refine lv_ladd hx hb hdg ?_
  rw [jL_add]; exact k
theorem j_isub (hx : p.tables.exec = Jvm.exec) (hb : c.code = cc) {a b : Int} (hdg : decode cc pc = .ok (.isub, 1)) (k : W p l e R s m args below meth c H locs cells slots Q (F0 m (pc + 1) ls (.int (jI (a - b)) :: rest))) : W p l e R s m args below meth c H locs cells slots Q (F0 m pc ls (.int (jI b) :: .int (jI a) :: rest)) := by
  refine lv_isub hx hb hdg ?_
  rw [jI_sub]; exact k
theorem j_lsub (hx : p.tables.exec = Jvm.exec) (hb : c.code = cc) {a b : Int} (hdg : decode cc pc = .ok (.lsub, 1)) (k : W p l e R s m args below meth c H locs cells slots Q (F0 m (pc + 1) ls (.long (jL (a - b)) :: rest))) : W p l e R s m args below meth c H locs cells slots Q (F0 m pc ls (.long (jL b) :: .long (jL a) :: rest)) := by
  refine lv_lsub hx hb hdg ?_
  rw [jL_sub]; exact k
theorem j_imul (hx : p.tables.exec = Jvm.exec) (hb : c.code = cc) {a b : Int} (hdg : decode cc pc = .ok (.imul, 1)) (k : W p l e R s m args below meth c H locs cells slots Q (F0 m (pc + 1) ls (.int (jI (a * b)) :: rest))) : W p l e R s m args below meth c H locs cells slots Q (F0 m pc ls (.int (jI b) :: .int (jI a) :: rest)) := by
  refine lv_imul hx hb hdg ?_
  rw [jI_mul]; exact k
theorem j_lmul (hx : p.tables.exec = Jvm.exec) (hb : c.code = cc) {a b : Int} (hdg : decode cc pc = .ok (.lmul, 1)) (k : W p l e R s m args below meth c H locs cells slots Q (F0 m (pc + 1) ls (.long (jL (a * b)) :: rest))) : W p l e R s m args below meth c H locs cells slots Q (F0 m pc ls (.long (jL b) :: .long (jL a) :: rest)) := by
  refine lv_lmul hx hb hdg ?_
  rw [jL_mul]; exact k
theorem j_ineg (hx : p.tables.exec = Jvm.exec) (hb : c.code = cc) {a : Int} (hdg : decode cc pc = .ok (.ineg, 1)) (k : W p l e R s m args below meth c H locs cells slots Q (F0 m (pc + 1) ls (.int (jI (-a)) :: rest))) : W p l e R s m args below meth c H locs cells slots Q (F0 m pc ls (.int (jI a) :: rest)) := by
  refine lv_ineg hx hb hdg ?_
  rw [jI_neg]; exact k
theorem j_idiv (hx : p.tables.exec = Jvm.exec) (hb : c.code = cc) {a b : Int} (h : (0 ≤ a ∧ a < 2147483648) ∧ 0 < b ∧ b < 2147483648) (hdg : decode cc pc = .ok (.idiv, 1)) (k : W p l e R s m args below meth c H locs cells slots Q (F0 m (pc + 1) ls (.int (jI (a / b)) :: rest))) : W p l e R s m args below meth c H locs cells slots Q (F0 m pc ls (.int (jI b) :: .int (jI a) :: rest)) := by
  refine lv_idiv hx hb hdg (fun q => ?_) ?_
  · have q2 := congrArg (Int32.toInt) q
    rw [jI_toInt (by omega) h.2.2] at q2
    have q3 : (0 : Int32).toInt = 0 := by decide
    omega
  · rw [jI_div h.1 h.2]; exact k
theorem j_lneg (hx : p.tables.exec = Jvm.exec) (hb : c.code = cc) {a : Int} (hdg : decode cc pc = .ok (.lneg, 1)) (k : W p l e R s m args below meth c H locs cells slots Q (F0 m (pc + 1) ls (.long (jL (-a)) :: rest))) : W p l e R s m args below meth c H locs cells slots Q (F0 m pc ls (.long (jL a) :: rest)) := by
  refine lv_lneg hx hb hdg ?_
  rw [jL_neg]; exact k
theorem j_ldiv (hx : p.tables.exec = Jvm.exec) (hb : c.code = cc) {a b : Int} (h : (0 ≤ a ∧ a < 9223372036854775808) ∧ 0 < b ∧ b < 9223372036854775808) (hdg : decode cc pc = .ok (.ldiv, 1)) (k : W p l e R s m args below meth c H locs cells slots Q (F0 m (pc + 1) ls (.long (jL (a / b)) :: rest))) : W p l e R s m args below meth c H locs cells slots Q (F0 m pc ls (.long (jL b) :: .long (jL a) :: rest)) := by
  refine lv_ldiv hx hb hdg (fun q => ?_) ?_
  · have q2 := congrArg (Int64.toInt) q
    rw [jL_toInt (by omega) h.2.2] at q2
    have q3 : (0 : Int64).toInt = 0 := by decide
    omega
  · rw [jL_div h.1 h.2]; exact k
theorem j_irem (hx : p.tables.exec = Jvm.exec) (hb : c.code = cc) {a b : Int} (h : (0 ≤ a ∧ a < 2147483648) ∧ 0 < b ∧ b < 2147483648) (hdg : decode cc pc = .ok (.irem, 1)) (k : W p l e R s m args below meth c H locs cells slots Q (F0 m (pc + 1) ls (.int (jI (a % b)) :: rest))) : W p l e R s m args below meth c H locs cells slots Q (F0 m pc ls (.int (jI b) :: .int (jI a) :: rest)) := by
  refine lv_irem hx hb hdg (fun q => ?_) ?_
  · have q2 := congrArg (Int32.toInt) q
    rw [jI_toInt (by omega) h.2.2] at q2
    have q3 : (0 : Int32).toInt = 0 := by decide
    omega
  · rw [jI_div h.1 h.2, jI_mul, jI_sub, show a - a / b * b = a % b by rw [Int.emod_def, Int.mul_comm b]]; exact k
theorem j_i2l (hx : p.tables.exec = Jvm.exec) (hb : c.code = cc) {a : Int} (h : i32 a) (hdg : decode cc pc = .ok (.i2l, 1)) (k : W p l e R s m args below meth c H locs cells slots Q (F0 m (pc + 1) ls (.long (jL a) :: rest))) : W p l e R s m args below meth c H locs cells slots Q (F0 m pc ls (.int (jI a) :: rest)) := lv_i2l hx hb hdg (jI_l h) k
theorem j_l2i (hx : p.tables.exec = Jvm.exec) (hb : c.code = cc) {a : Int} (hdg : decode cc pc = .ok (.l2i, 1)) (k : W p l e R s m args below meth c H locs cells slots Q (F0 m (pc + 1) ls (.int (jI a) :: rest))) : W p l e R s m args below meth c H locs cells slots Q (F0 m pc ls (.long (jL a) :: rest)) := lv_l2i hx hb hdg (jL_i a) k
theorem j_icmp_eq (hx : p.tables.exec = Jvm.exec) (hb : c.code = cc) {a b : Int} (h : i32 a ∧ i32 b) {off : Int} {tgt : Nat} (hdg : decode cc pc = .ok (.if_icmp .eq off, 3)) (ht : (pc : Int) + off = (tgt : Int)) (kt : a = b → W p l e R s m args below meth c H locs cells slots Q (F0 m tgt ls rest)) (kf : ¬ a = b → W p l e R s m args below meth c H locs cells slots Q (F0 m (pc + 3) ls rest)) : W p l e R s m args below meth c H locs cells slots Q (F0 m pc ls (.int (jI b) :: .int (jI a) :: rest)) :=
  lv_icmp_eq hx hb hdg ht (fun q => kt ((jI_eq h.1 h.2).mp q)) (fun q => kf (fun z => q ((jI_eq h.1 h.2).mpr z)))
theorem j_if_eq (hx : p.tables.exec = Jvm.exec) (hb : c.code = cc) {a : Int} (h : i32 a) {off : Int} {tgt : Nat} (hdg : decode cc pc = .ok (.ifCond .eq off, 3)) (ht : (pc : Int) + off = (tgt : Int)) (kt : a = 0 → W p l e R s m args below meth c H locs cells slots Q (F0 m tgt ls rest)) (kf : ¬ a = 0 → W p l e R s m args below meth c H locs cells slots Q (F0 m (pc + 3) ls rest)) : W p l e R s m args below meth c H locs cells slots Q (F0 m pc ls (.int (jI a) :: rest)) :=
  lv_if_eq hx hb hdg ht (fun q => kt ((jI_eq h i32_0).mp q)) (fun q => kf (fun z => q ((jI_eq h i32_0).mpr z)))
theorem j_lcmp_eq (hx : p.tables.exec = Jvm.exec) (hb : c.code = cc) {a b : Int} (h : i64 a ∧ i64 b) {off : Int} {tgt : Nat} (hd0 : decode cc pc = .ok (.lcmp, 1)) (hdg : decode cc (pc + 1) = .ok (.ifCond .eq off, 3)) (ht : ((pc + 1 : Nat) : Int) + off = (tgt : Int)) (kt : a = b → W p l e R s m args below meth c H locs cells slots Q (F0 m tgt ls rest)) (kf : ¬ a = b → W p l e R s m args below meth c H locs cells slots Q (F0 m (pc + 1 + 3) ls rest)) : W p l e R s m args below meth c H locs cells slots Q (F0 m pc ls (.long (jL b) :: .long (jL a) :: rest)) :=
  W.lcmp hx hb hd0 (lv_if_eq hx hb hdg ht (fun q => kt ((jL_eq h.1 h.2).mp ((lg_cmp_eq (jL a) (jL b)).mp q))) (fun q => kf (fun z => q ((lg_cmp_eq (jL a) (jL b)).mpr ((jL_eq h.1 h.2).mpr z)))))
theorem j_icmp_ne (hx : p.tables.exec = Jvm.exec) (hb : c.code = cc) {a b : Int} (h : i32 a ∧ i32 b) {off : Int} {tgt : Nat} (hdg : decode cc pc = .ok (.if_icmp .ne off, 3)) (ht : (pc : Int) + off = (tgt : Int)) (kt : ¬ a = b → W p l e R s m args below meth c H locs cells slots Q (F0 m tgt ls rest)) (kf : a = b → W p l e R s m args below meth c H locs cells slots Q (F0 m (pc + 3) ls rest)) : W p l e R s m args below meth c H locs cells slots Q (F0 m pc ls (.int (jI b) :: .int (jI a) :: rest)) :=
  lv_icmp_ne hx hb hdg ht (fun q => kt (fun z => q ((jI_eq h.1 h.2).mpr z))) (fun q => kf ((jI_eq h.1 h.2).mp q))
theorem j_if_ne (hx : p.tables.exec = Jvm.exec) (hb : c.code = cc) {a : Int} (h : i32 a) {off : Int} {tgt : Nat} (hdg : decode cc pc = .ok (.ifCond .ne off, 3)) (ht : (pc : Int) + off = (tgt : Int)) (kt : ¬ a = 0 → W p l e R s m args below meth c H locs cells slots Q (F0 m tgt ls rest)) (kf : a = 0 → W p l e R s m args below meth c H locs cells slots Q (F0 m (pc + 3) ls rest)) : W p l e R s m args below meth c H locs cells slots Q (F0 m pc ls (.int (jI a) :: rest)) :=
  lv_if_ne hx hb hdg ht (fun q => kt (fun z => q ((jI_eq h i32_0).mpr z))) (fun q => kf ((jI_eq h i32_0).mp q))
theorem j_lcmp_ne (hx : p.tables.exec = Jvm.exec) (hb : c.code = cc) {a b : Int} (h : i64 a ∧ i64 b) {off : Int} {tgt : Nat} (hd0 : decode cc pc = .ok (.lcmp, 1)) (hdg : decode cc (pc + 1) = .ok (.ifCond .ne off, 3)) (ht : ((pc + 1 : Nat) : Int) + off = (tgt : Int)) (kt : ¬ a = b → W p l e R s m args below meth c H locs cells slots Q (F0 m tgt ls rest)) (kf : a = b → W p l e R s m args below meth c H locs cells slots Q (F0 m (pc + 1 + 3) ls rest)) : W p l e R s m args below meth c H locs cells slots Q (F0 m pc ls (.long (jL b) :: .long (jL a) :: rest)) :=
  W.lcmp hx hb hd0 (lv_if_ne hx hb hdg ht (fun q => kt (fun z => q ((lg_cmp_eq (jL a) (jL b)).mpr ((jL_eq h.1 h.2).mpr z)))) (fun q => kf ((jL_eq h.1 h.2).mp ((lg_cmp_eq (jL a) (jL b)).mp q))))
theorem j_icmp_lt (hx : p.tables.exec = Jvm.exec) (hb : c.code = cc) {a b : Int} (h : i32 a ∧ i32 b) {off : Int} {tgt : Nat} (hdg : decode cc pc = .ok (.if_icmp .lt off, 3)) (ht : (pc : Int) + off = (tgt : Int)) (kt : a < b → W p l e R s m args below meth c H locs cells slots Q (F0 m tgt ls rest)) (kf : b ≤ a → W p l e R s m args below meth c H locs cells slots Q (F0 m (pc + 3) ls rest)) : W p l e R s m args below meth c H locs cells slots Q (F0 m pc ls (.int (jI b) :: .int (jI a) :: rest)) :=
  lv_icmp_lt hx hb hdg ht (fun q => kt ((jI_lt h.1 h.2).mp q)) (fun q => kf (Int.not_lt.mp (fun z => q ((jI_lt h.1 h.2).mpr z))))
theorem j_if_lt (hx : p.tables.exec = Jvm.exec) (hb : c.code = cc) {a : Int} (h : i32 a) {off : Int} {tgt : Nat} (hdg : decode cc pc = .ok (.ifCond .lt off, 3)) (ht : (pc : Int) + off = (tgt : Int)) (kt : a < 0 → W p l e R s m args below meth c H locs cells slots Q (F0 m tgt ls rest)) (kf : 0 ≤ a → W p l e R s m args below meth c H locs cells slots Q (F0 m (pc + 3) ls rest)) : W p l e R s m args below meth c H locs cells slots Q (F0 m pc ls (.int (jI a) :: rest)) :=
  lv_if_lt hx hb hdg ht (fun q => kt ((jI_lt h i32_0).mp q)) (fun q => kf (Int.not_lt.mp (fun z => q ((jI_lt h i32_0).mpr z))))
theorem j_lcmp_lt (hx : p.tables.exec = Jvm.exec) (hb : c.code = cc) {a b : Int} (h : i64 a ∧ i64 b) {off : Int} {tgt : Nat} (hd0 : decode cc pc = .ok (.lcmp, 1)) (hdg : decode cc (pc + 1) = .ok (.ifCond .lt off, 3)) (ht : ((pc + 1 : Nat) : Int) + off = (tgt : Int)) (kt : a < b → W p l e R s m args below meth c H locs cells slots Q (F0 m tgt ls rest)) (kf : b ≤ a → W p l e R s m args below meth c H locs cells slots Q (F0 m (pc + 1 + 3) ls rest)) : W p l e R s m args below meth c H locs cells slots Q (F0 m pc ls (.long (jL b) :: .long (jL a) :: rest)) :=
  W.lcmp hx hb hd0 (lv_if_lt hx hb hdg ht (fun q => kt ((jL_lt h.1 h.2).mp ((lg_cmp_lt (jL a) (jL b)).mp q))) (fun q => kf (Int.not_lt.mp (fun z => q ((lg_cmp_lt (jL a) (jL b)).mpr ((jL_lt h.1 h.2).mpr z))))))
theorem j_icmp_ge (hx : p.tables.exec = Jvm.exec) (hb : c.code = cc) {a b : Int} (h : i32 a ∧ i32 b) {off : Int} {tgt : Nat} (hdg : decode cc pc = .ok (.if_icmp .ge off, 3)) (ht : (pc : Int) + off = (tgt : Int)) (kt : b ≤ a → W p l e R s m args below meth c H locs cells slots Q (F0 m tgt ls rest)) (kf : a < b → W p l e R s m args below meth c H locs cells slots Q (F0 m (pc + 3) ls rest)) : W p l e R s m args below meth c H locs cells slots Q (F0 m pc ls (.int (jI b) :: .int (jI a) :: rest)) :=
  lv_icmp_ge hx hb hdg ht (fun q => kt ((jI_le h.2 h.1).mp q)) (fun q => kf (Int.not_le.mp (fun z => q ((jI_le h.2 h.1).mpr z))))
theorem j_if_ge (hx : p.tables.exec = Jvm.exec) (hb : c.code = cc) {a : Int} (h : i32 a) {off : Int} {tgt : Nat} (hdg : decode cc pc = .ok (.ifCond .ge off, 3)) (ht : (pc : Int) + off = (tgt : Int)) (kt : 0 ≤ a → W p l e R s m args below meth c H locs cells slots Q (F0 m tgt ls rest)) (kf : a < 0 → W p l e R s m args below meth c H locs cells slots Q (F0 m (pc + 3) ls rest)) : W p l e R s m args below meth c H locs cells slots Q (F0 m pc ls (.int (jI a) :: rest)) :=
  lv_if_ge hx hb hdg ht (fun q => kt ((jI_le i32_0 h).mp q)) (fun q => kf (Int.not_le.mp (fun z => q ((jI_le i32_0 h).mpr z))))
theorem j_lcmp_ge (hx : p.tables.exec = Jvm.exec) (hb : c.code = cc) {a b : Int} (h : i64 a ∧ i64 b) {off : Int} {tgt : Nat} (hd0 : decode cc pc = .ok (.lcmp, 1)) (hdg : decode cc (pc + 1) = .ok (.ifCond .ge off, 3)) (ht : ((pc + 1 : Nat) : Int) + off = (tgt : Int)) (kt : b ≤ a → W p l e R s m args below meth c H locs cells slots Q (F0 m tgt ls rest)) (kf : a < b → W p l e R s m args below meth c H locs cells slots Q (F0 m (pc + 1 + 3) ls rest)) : W p l e R s m args below meth c H locs cells slots Q (F0 m pc ls (.long (jL b) :: .long (jL a) :: rest)) :=
  W.lcmp hx hb hd0 (lv_if_ge hx hb hdg ht (fun q => kt ((jL_le h.2 h.1).mp ((lg_cmp_ge (jL a) (jL b)).mp q))) (fun q => kf (Int.not_le.mp (fun z => q ((lg_cmp_ge (jL a) (jL b)).mpr ((jL_le h.2 h.1).mpr z))))))
theorem j_icmp_gt (hx : p.tables.exec = Jvm.exec) (hb : c.code = cc) {a b : Int} (h : i32 a ∧ i32 b) {off : Int} {tgt : Nat} (hdg : decode cc pc = .ok (.if_icmp .gt off, 3)) (ht : (pc : Int) + off = (tgt : Int)) (kt : b < a → W p l e R s m args below meth c H locs cells slots Q (F0 m tgt ls rest)) (kf : a ≤ b → W p l e R s m args below meth c H locs cells slots Q (F0 m (pc + 3) ls rest)) : W p l e R s m args below meth c H locs cells slots Q (F0 m pc ls (.int (jI b) :: .int (jI a) :: rest)) :=
  lv_icmp_gt hx hb hdg ht (fun q => kt ((jI_lt h.2 h.1).mp q)) (fun q => kf (Int.not_lt.mp (fun z => q ((jI_lt h.2 h.1).mpr z))))
theorem j_if_gt (hx : p.tables.exec = Jvm.exec) (hb : c.code = cc) {a : Int} (h : i32 a) {off : Int} {tgt : Nat} (hdg : decode cc pc = .ok (.ifCond .gt off, 3)) (ht : (pc : Int) + off = (tgt : Int)) (kt : 0 < a → W p l e R s m args below meth c H locs cells slots Q (F0 m tgt ls rest)) (kf : a ≤ 0 → W p l e R s m args below meth c H locs cells slots Q (F0 m (pc + 3) ls rest)) : W p l e R s m args below meth c H locs cells slots Q (F0 m pc ls (.int (jI a) :: rest)) :=
  lv_if_gt hx hb hdg ht (fun q => kt ((jI_lt i32_0 h).mp q)) (fun q => kf (Int.not_lt.mp (fun z => q ((jI_lt i32_0 h).mpr z))))
theorem j_lcmp_gt (hx : p.tables.exec = Jvm.exec) (hb : c.code = cc) {a b : Int} (h : i64 a ∧ i64 b) {off : Int} {tgt : Nat} (hd0 : decode cc pc = .ok (.lcmp, 1)) (hdg : decode cc (pc + 1) = .ok (.ifCond .gt off, 3)) (ht : ((pc + 1 : Nat) : Int) + off = (tgt : Int)) (kt : b < a → W p l e R s m args below meth c H locs cells slots Q (F0 m tgt ls rest)) (kf : a ≤ b → W p l e R s m args below meth c H locs cells slots Q (F0 m (pc + 1 + 3) ls rest)) : W p l e R s m args below meth c H locs cells slots Q (F0 m pc ls (.long (jL b) :: .long (jL a) :: rest)) :=
  W.lcmp hx hb hd0 (lv_if_gt hx hb hdg ht (fun q => kt ((jL_lt h.2 h.1).mp ((lg_cmp_gt (jL a) (jL b)).mp q))) (fun q => kf (Int.not_lt.mp (fun z => q ((lg_cmp_gt (jL a) (jL b)).mpr ((jL_lt h.2 h.1).mpr z))))))
theorem j_icmp_le (hx : p.tables.exec = Jvm.exec) (hb : c.code = cc) {a b : Int} (h : i32 a ∧ i32 b) {off : Int} {tgt : Nat} (hdg : decode cc pc = .ok (.if_icmp .le off, 3)) (ht : (pc : Int) + off = (tgt : Int)) (kt : a ≤ b → W p l e R s m args below meth c H locs cells slots Q (F0 m tgt ls rest)) (kf : b < a → W p l e R s m args below meth c H locs cells slots Q (F0 m (pc + 3) ls rest)) : W p l e R s m args below meth c H locs cells slots Q (F0 m pc ls (.int (jI b) :: .int (jI a) :: rest)) :=
  lv_icmp_le hx hb hdg ht (fun q => kt ((jI_le h.1 h.2).mp q)) (fun q => kf (Int.not_le.mp (fun z => q ((jI_le h.1 h.2).mpr z))))
theorem j_if_le (hx : p.tables.exec = Jvm.exec) (hb : c.code = cc) {a : Int} (h : i32 a) {off : Int} {tgt : Nat} (hdg : decode cc pc = .ok (.ifCond .le off, 3)) (ht : (pc : Int) + off = (tgt : Int)) (kt : a ≤ 0 → W p l e R s m args below meth c H locs cells slots Q (F0 m tgt ls rest)) (kf : 0 < a → W p l e R s m args below meth c H locs cells slots Q (F0 m (pc + 3) ls rest)) : W p l e R s m args below meth c H locs cells slots Q (F0 m pc ls (.int (jI a) :: rest)) :=
  lv_if_le hx hb hdg ht (fun q => kt ((jI_le h i32_0).mp q)) (fun q => kf (Int.not_le.mp (fun z => q ((jI_le h i32_0).mpr z))))
theorem j_lcmp_le (hx : p.tables.exec = Jvm.exec) (hb : c.code = cc) {a b : Int} (h : i64 a ∧ i64 b) {off : Int} {tgt : Nat} (hd0 : decode cc pc = .ok (.lcmp, 1)) (hdg : decode cc (pc + 1) = .ok (.ifCond .le off, 3)) (ht : ((pc + 1 : Nat) : Int) + off = (tgt : Int)) (kt : a ≤ b → W p l e R s m args below meth c H locs cells slots Q (F0 m tgt ls rest)) (kf : b < a → W p l e R s m args below meth c H locs cells slots Q (F0 m (pc + 1 + 3) ls rest)) : W p l e R s m args below meth c H locs cells slots Q (F0 m pc ls (.long (jL b) :: .long (jL a) :: rest)) :=
  W.lcmp hx hb hd0 (lv_if_le hx hb hdg ht (fun q => kt ((jL_le h.1 h.2).mp ((lg_cmp_le (jL a) (jL b)).mp q))) (fun q => kf (Int.not_le.mp (fun z => q ((lg_cmp_le (jL a) (jL b)).mpr ((jL_le h.1 h.2).mpr z))))))
theorem j_ifeqZ (hx : p.tables.exec = Jvm.exec) (hb : c.code = cc) {P : Prop} {off : Int} {tgt : Nat} (hdg : decode cc pc = .ok (.ifCond .eq off, 3)) (ht : (pc : Int) + off = (tgt : Int)) (kt : ¬ P → W p l e R s m args below meth c H locs cells slots Q (F0 m tgt ls rest)) (kf : P → W p l e R s m args below meth c H locs cells slots Q (F0 m (pc + 3) ls rest)) : W p l e R s m args below meth c H locs cells slots Q (F0 m pc ls (.int (jZ P) :: rest)) :=
  lv_if_eq hx hb hdg ht (fun q => kt (jZ_0.mp q)) (fun q => kf (Classical.byContradiction fun z => q (jZ_0.mpr z)))
theorem j_ifneZ (hx : p.tables.exec = Jvm.exec) (hb : c.code = cc) {P : Prop} {off : Int} {tgt : Nat} (hdg : decode cc pc = .ok (.ifCond .ne off, 3)) (ht : (pc : Int) + off = (tgt : Int)) (kt : P → W p l e R s m args below meth c H locs cells slots Q (F0 m tgt ls rest)) (kf : ¬ P → W p l e R s m args below meth c H locs cells slots Q (F0 m (pc + 3) ls rest)) : W p l e R s m args below meth c H locs cells slots Q (F0 m pc ls (.int (jZ P) :: rest)) :=
  lv_if_ne hx hb hdg ht (fun q => kt (Classical.byContradiction fun z => q (jZ_0.mpr z))) (fun q => kf (jZ_0.mp q))
theorem j_topi {x y : Int32} (h : x = y) (k : W p l e R s m args below meth c H locs cells slots Q (F0 m pc ls (.int y :: rest))) : W p l e R s m args below meth c H locs cells slots Q (F0 m pc ls (.int x :: rest)) := by rw [h]; exact k
theorem j_topl {x y : Int64} (h : x = y) (k : W p l e R s m args below meth c H locs cells slots Q (F0 m pc ls (.long y :: rest))) : W p l e R s m args below meth c H locs cells slots Q (F0 m pc ls (.long x :: rest)) := by rw [h]; exact k
theorem j_iald (hx : p.tables.exec = Jvm.exec) (hb : c.code = cc) {D : va_G} {cl : List vw_C} {tys : List (ClassId × FieldType)} {ws : va_W} {a : Nat} (hK : va_K D cl tys s) (hP : va_P D cl ws H) (q0 t0 : Nat) {cA : ClassId} {n : Nat} {F : Int → Int} (ha : ws[q0]? = some (a, .inl (cA, n, .inl (fun k : Nat => jI (F k))))) (ht : tys[t0]? = some (cA, .int)) {i : Int} (hi : 0 ≤ i ∧ i < (n : Int)) (hn : n < 2147483648) (hdg : decode cc pc = .ok (.iaload, 1)) (kk : W p l e R s m args below meth c H locs cells slots Q (F0 m (pc + 1) ls (.int (jI (F i)) :: rest))) : W p l e R s m args below meth c H locs cells slots Q (F0 m pc ls (.int (jI i) :: .ref a :: rest)) := by
  refine va_iald hx hb hK hP q0 t0 ha ht (jI_in hi hn) hdg ?_
  have h3 := jI_ix hi.1 (by omega)
  show W p l e R s m args below meth c H locs cells slots Q (F0 m (pc + 1) ls (.int (jI (F (((jI i).toNatClampNeg : Nat) : Int))) :: rest))
  rw [h3]
  exact kk
theorem j_lald (hx : p.tables.exec = Jvm.exec) (hb : c.code = cc) {D : va_G} {cl : List vw_C} {tys : List (ClassId × FieldType)} {ws : va_W} {a : Nat} (hK : va_K D cl tys s) (hP : va_P D cl ws H) (q0 t0 : Nat) {cA : ClassId} {n : Nat} {F : Int → Int} (ha : ws[q0]? = some (a, .inl (cA, n, .inr (.inl (fun k : Nat => jL (F k)))))) (ht : tys[t0]? = some (cA, .long)) {i : Int} (hi : 0 ≤ i ∧ i < (n : Int)) (hn : n < 2147483648) (hdg : decode cc pc = .ok (.laload, 1)) (kk : W p l e R s m args below meth c H locs cells slots Q (F0 m (pc + 1) ls (.long (jL (F i)) :: rest))) : W p l e R s m args below meth c H locs cells slots Q (F0 m pc ls (.int (jI i) :: .ref a :: rest)) := by
  refine va_lald hx hb hK hP q0 t0 ha ht (jI_in hi hn) hdg ?_
  have h3 := jI_ix hi.1 (by omega)
  show W p l e R s m args below meth c H locs cells slots Q (F0 m (pc + 1) ls (.long (jL (F (((jI i).toNatClampNeg : Nat) : Int))) :: rest))
  rw [h3]
  exact kk
theorem j_zald (hx : p.tables.exec = Jvm.exec) (hb : c.code = cc) {D : va_G} {cl : List vw_C} {tys : List (ClassId × FieldType)} {ws : va_W} {a : Nat} (hK : va_K D cl tys s) (hP : va_P D cl ws H) (q0 t0 : Nat) {cA : ClassId} {n : Nat} {F : Int → Bool} (ha : ws[q0]? = some (a, .inl (cA, n, .inl (fun k : Nat => jZ (F k = true))))) (ht : tys[t0]? = some (cA, .boolean)) {i : Int} (hi : 0 ≤ i ∧ i < (n : Int)) (hn : n < 2147483648) (hdg : decode cc pc = .ok (.baload, 1)) (kk : W p l e R s m args below meth c H locs cells slots Q (F0 m (pc + 1) ls (.int (jZ (F i = true)) :: rest))) : W p l e R s m args below meth c H locs cells slots Q (F0 m pc ls (.int (jI i) :: .ref a :: rest)) := by
  refine va_zald hx hb hK hP q0 t0 ha ht (jI_in hi hn) hdg ?_
  have h3 := jI_ix hi.1 (by omega)
  show W p l e R s m args below meth c H locs cells slots Q (F0 m (pc + 1) ls (.int (jZ (F (((jI i).toNatClampNeg : Nat) : Int) = true)) :: rest))
  rw [h3]
  exact kk
theorem j_ialdR (hx : p.tables.exec = Jvm.exec) (hb : c.code = cc) {D : va_G} {cl : List vw_C} {tys : List (ClassId × FieldType)} {ws : va_W} {a : Nat} (hK : va_K D cl tys s) (hP : va_P D cl ws H) (q0 t0 : Nat) {cA : ClassId} {n : Nat} {F : Nat → Int32} (ha : ws[q0]? = some (a, .inl (cA, n, .inl F))) (ht : tys[t0]? = some (cA, .int)) {i : Int} (hi : 0 ≤ i ∧ i < (n : Int)) (hn : n < 2147483648) (hdg : decode cc pc = .ok (.iaload, 1)) (kk : W p l e R s m args below meth c H locs cells slots Q (F0 m (pc + 1) ls (.int (F i.toNat) :: rest))) : W p l e R s m args below meth c H locs cells slots Q (F0 m pc ls (.int (jI i) :: .ref a :: rest)) := by
  refine va_iald hx hb hK hP q0 t0 ha ht (jI_in hi hn) hdg ?_
  have h3 := jI_ix hi.1 (by omega)
  rw [jI_cl hi.1 (by omega)]
  exact kk
theorem j_iast (hx : p.tables.exec = Jvm.exec) (hb : c.code = cc) {D : va_G} {cl : List vw_C} {tys : List (ClassId × FieldType)} {ws : va_W} {a : Nat} {A : Nat → Prop} {H0 : Heap} (hK : va_K D cl tys s) (hP : va_P D cl ws H) (hD : va_D A ws) (hS : va_S A H0 H locs) (q0 t0 : Nat) {cA : ClassId} {n : Nat} {F : Int → Int} {v : Int} (ha : ws[q0]? = some (a, .inl (cA, n, .inl (fun k : Nat => jI (F k))))) (ht : tys[t0]? = some (cA, .int)) {i : Int} (hi : 0 ≤ i ∧ i < (n : Int)) (hn : n < 2147483648) (hdg : decode cc pc = .ok (.iastore, 1)) (kk : ∀ (H1 : Heap) (locs1 : List Loc), va_P D cl (ws.set q0 (a, .inl (cA, n, .inl (fun k : Nat => jI (updI F i v k))))) H1 → va_D A (ws.set q0 (a, .inl (cA, n, .inl (fun k : Nat => jI (updI F i v k))))) → va_S A H0 H1 locs1 → W p l e R s m args below meth c H1 locs1 cells slots Q (F0 m (pc + 1) ls rest)) : W p l e R s m args below meth c H locs cells slots Q (F0 m pc ls (.int (jI v) :: .int (jI i) :: .ref a :: rest)) := by
  refine va_iast hx hb hK hP hD hS q0 t0 ha ht (jI_in hi hn) hdg (fun H1 locs1 h1 h2 h3 => ?_)
  rw [jI_upd hi.1 (by omega)] at h1 h2
  exact kk H1 locs1 h1 h2 h3
theorem j_last (hx : p.tables.exec = Jvm.exec) (hb : c.code = cc) {D : va_G} {cl : List vw_C} {tys : List (ClassId × FieldType)} {ws : va_W} {a : Nat} {A : Nat → Prop} {H0 : Heap} (hK : va_K D cl tys s) (hP : va_P D cl ws H) (hD : va_D A ws) (hS : va_S A H0 H locs) (q0 t0 : Nat) {cA : ClassId} {n : Nat} {F : Int → Int} {v : Int} (ha : ws[q0]? = some (a, .inl (cA, n, .inr (.inl (fun k : Nat => jL (F k)))))) (ht : tys[t0]? = some (cA, .long)) {i : Int} (hi : 0 ≤ i ∧ i < (n : Int)) (hn : n < 2147483648) (hdg : decode cc pc = .ok (.lastore, 1)) (kk : ∀ (H1 : Heap) (locs1 : List Loc), va_P D cl (ws.set q0 (a, .inl (cA, n, .inr (.inl (fun k : Nat => jL (updI F i v k)))))) H1 → va_D A (ws.set q0 (a, .inl (cA, n, .inr (.inl (fun k : Nat => jL (updI F i v k)))))) → va_S A H0 H1 locs1 → W p l e R s m args below meth c H1 locs1 cells slots Q (F0 m (pc + 1) ls rest)) : W p l e R s m args below meth c H locs cells slots Q (F0 m pc ls (.long (jL v) :: .int (jI i) :: .ref a :: rest)) := by
  refine va_last hx hb hK hP hD hS q0 t0 ha ht (jI_in hi hn) hdg (fun H1 locs1 h1 h2 h3 => ?_)
  rw [jL_upd hi.1 (by omega)] at h1 h2
  exact kk H1 locs1 h1 h2 h3
theorem j_zast (hx : p.tables.exec = Jvm.exec) (hb : c.code = cc) {D : va_G} {cl : List vw_C} {tys : List (ClassId × FieldType)} {ws : va_W} {a : Nat} {A : Nat → Prop} {H0 : Heap} (hK : va_K D cl tys s) (hP : va_P D cl ws H) (hD : va_D A ws) (hS : va_S A H0 H locs) (q0 t0 : Nat) {cA : ClassId} {n : Nat} {F : Int → Bool} {v : Bool} (ha : ws[q0]? = some (a, .inl (cA, n, .inl (fun k : Nat => jZ (F k = true))))) (ht : tys[t0]? = some (cA, .boolean)) {i : Int} (hi : 0 ≤ i ∧ i < (n : Int)) (hn : n < 2147483648) (hdg : decode cc pc = .ok (.bastore, 1)) (kk : ∀ (H1 : Heap) (locs1 : List Loc), va_P D cl (ws.set q0 (a, .inl (cA, n, .inl (fun k : Nat => jZ (updB F i v k = true))))) H1 → va_D A (ws.set q0 (a, .inl (cA, n, .inl (fun k : Nat => jZ (updB F i v k = true))))) → va_S A H0 H1 locs1 → W p l e R s m args below meth c H1 locs1 cells slots Q (F0 m (pc + 1) ls rest)) : W p l e R s m args below meth c H locs cells slots Q (F0 m pc ls (.int (jZ (v = true)) :: .int (jI i) :: .ref a :: rest)) := by
  refine va_zast hx hb hK hP hD hS q0 t0 ha ht (jI_in hi hn) hdg (fun H1 locs1 h1 h2 h3 => ?_)
  rw [jZ_upd hi.1 (by omega)] at h1 h2
  exact kk H1 locs1 h1 h2 h3
theorem j_iastR (hx : p.tables.exec = Jvm.exec) (hb : c.code = cc) {D : va_G} {cl : List vw_C} {tys : List (ClassId × FieldType)} {ws : va_W} {a : Nat} {A : Nat → Prop} {H0 : Heap} (hK : va_K D cl tys s) (hP : va_P D cl ws H) (hD : va_D A ws) (hS : va_S A H0 H locs) (q0 t0 : Nat) {cA : ClassId} {n : Nat} {F : Nat → Int32} {v : Int32} (ha : ws[q0]? = some (a, .inl (cA, n, .inl F))) (ht : tys[t0]? = some (cA, .int)) {i : Int} (hi : 0 ≤ i ∧ i < (n : Int)) (hn : n < 2147483648) (hdg : decode cc pc = .ok (.iastore, 1)) (kk : ∀ (H1 : Heap) (locs1 : List Loc), va_P D cl (ws.set q0 (a, .inl (cA, n, .inl (upd F i.toNat v)))) H1 → va_D A (ws.set q0 (a, .inl (cA, n, .inl (upd F i.toNat v)))) → va_S A H0 H1 locs1 → W p l e R s m args below meth c H1 locs1 cells slots Q (F0 m (pc + 1) ls rest)) : W p l e R s m args below meth c H locs cells slots Q (F0 m pc ls (.int v :: .int (jI i) :: .ref a :: rest)) := by
  refine va_iast hx hb hK hP hD hS q0 t0 ha ht (jI_in hi hn) hdg (fun H1 locs1 h1 h2 h3 => ?_)
  rw [jI_cl hi.1 (by omega)] at h1 h2
  exact kk H1 locs1 h1 h2 h3
theorem j_retI (hx : p.tables.exec = Jvm.exec) (hb : c.code = cc) {v : Int32} {post : Int32 → Prop} (hr : meth.sig.returnType = some .int)  (hlocks : meth.locks = false) (hdg : decode cc pc = .ok (.ireturn, 1)) (hp : post v) : W p l e R s m args below meth c s.heap [] cells slots (MQ below (vp_Si post) args s cells slots (fun _ => False)) (F0 m pc ls [.int v]) :=
  W.iret hx hb hr (fun t ht _ => ⟨v, rfl, hp, ht⟩) (fun _ h => by cases h) hdg hlocks
theorem j_retZ (hx : p.tables.exec = Jvm.exec) (hb : c.code = cc) {v : Int32} {post : Int32 → Prop} (hr : meth.sig.returnType = some .boolean) (hn : narrow .boolean (.int v) = .int v) (hlocks : meth.locks = false) (hdg : decode cc pc = .ok (.ireturn, 1)) (hp : post v) : W p l e R s m args below meth c s.heap [] cells slots (MQ below (vp_Si post) args s cells slots (fun _ => False)) (F0 m pc ls [.int v]) :=
  W.zret hx hb hr hn (fun t ht _ => ⟨v, rfl, hp, ht⟩) (fun _ h => by cases h) hdg hlocks
theorem j_retL (hx : p.tables.exec = Jvm.exec) (hb : c.code = cc) {v : Int64} {post : Int64 → Prop} (hr : meth.sig.returnType = some .long)  (hlocks : meth.locks = false) (hdg : decode cc pc = .ok (.lreturn, 1)) (hp : post v) : W p l e R s m args below meth c s.heap [] cells slots (MQ below (vp_Sl post) args s cells slots (fun _ => False)) (F0 m pc ls [.long v]) :=
  W.lret hx hb hr (fun t ht _ => ⟨v, rfl, hp, ht⟩) (fun _ h => by cases h) hdg hlocks
theorem j_join {α : Sort _} {g : JFrame} {f : α → JFrame} {P : α → Prop} (k : ∀ x, P x → W p l e R s m args below meth c H locs cells slots Q (f x)) (b : (∀ x, P x → W p l e R s m args below meth c H locs cells slots Q (f x)) → W p l e R s m args below meth c H locs cells slots Q g) : W p l e R s m args below meth c H locs cells slots Q g := b k
theorem j_gen {g : JFrame} (k : ∀ (H1 : Heap) (locs1 : List Loc), H1 = H → locs1 = locs → W p l e R s m args below meth c H1 locs1 cells slots Q g) : W p l e R s m args below meth c H locs cells slots Q g := k H locs rfl rfl
theorem j_joinM {α : Sort _} {g : JFrame} (h : α → Heap) (lc : α → List Loc) (f : α → JFrame) (P : α → Prop) (k : ∀ x, P x → W p l e R s m args below meth c (h x) (lc x) cells slots Q (f x)) (b : (∀ x, P x → W p l e R s m args below meth c (h x) (lc x) cells slots Q (f x)) → W p l e R s m args below meth c H locs cells slots Q g) : W p l e R s m args below meth c H locs cells slots Q g := b k
theorem j_loop {α : Type _} (h : α → Heap) (lc : α → List Loc) (f : α → JFrame) (P : Nat → α → Prop) (h0 : ∀ z, ¬ P 0 z) (k : ∀ n, (∀ z, P n z → W p l e R s m args below meth c (h z) (lc z) cells slots Q (f z)) → ∀ z, P (n + 1) z → W p l e R s m args below meth c (h z) (lc z) cells slots Q (f z)) (n : Nat) (z : α) (hz : P n z) : W p l e R s m args below meth c (h z) (lc z) cells slots Q (f z) := by
  induction n generalizing z with
  | zero => exact absurd hz (h0 z)
  | succ n ih => exact k n ih z hz
theorem j_min {a b : Int} (h : i32 a ∧ i32 b) : (if jI b < jI a then jI b else jI a) = jI (min a b) := by
  by_cases q : b < a
  · rw [if_pos ((jI_lt h.2 h.1).mpr q)]; congr 1; omega
  · rw [if_neg (fun z => q ((jI_lt h.2 h.1).mp z))]; congr 1; omega
theorem j_max {a b : Int} (h : i32 a ∧ i32 b) : (if jI a < jI b then jI b else jI a) = jI (max a b) := by
  by_cases q : a < b
  · rw [if_pos ((jI_lt h.1 h.2).mpr q)]; congr 1; omega
  · rw [if_neg (fun z => q ((jI_lt h.1 h.2).mp z))]; congr 1; omega
end JB
abbrev tyc (cI cJ cZ : ClassId) : List (ClassId × FieldType) := [(cI, .int), (cJ, .long), (cZ, .boolean)]
abbrev RoPre (D : va_G) (tys : List (ClassId × FieldType)) (w : va_W) (av : List Value) : Array Value → State → Prop := va_Pc av (fun U => va_P D vwCl w U.heap ∧ va_K D vwCl tys U)
abbrev rmOf (fr lo : Nat) : Room := { frames := fr, cells := 0, slots := 0, locals := lo }
abbrev RoI (l : Launch) (y : MethodName) (ws : List Cond) (fr lo : Nat) (D : va_G) (tys : List (ClassId × FieldType)) (w : va_W) (av : List Value) (v : Int32) : Prop := Met l y ws (rmOf fr lo) (RoPre D tys w av) (vp_Si (fun r => r = v)) 0 0 (fun _ => False)
abbrev RoL (l : Launch) (y : MethodName) (ws : List Cond) (fr lo : Nat) (D : va_G) (tys : List (ClassId × FieldType)) (w : va_W) (av : List Value) (v : Int64) : Prop := Met l y ws (rmOf fr lo) (RoPre D tys w av) (vp_Sl (fun r => r = v)) 0 0 (fun _ => False)
theorem RoPre.blind {D : va_G} {tys : List (ClassId × FieldType)} {w : va_W} {av : List Value} : FrameBlind (RoPre D tys w av) := fun a U g mk q => by
  obtain ⟨q0, qP, qK⟩ := q
  exact ⟨q0, qP, va_K.moved (u := U) (U := U.calling g mk a) (Vm.Alike.refl U.vm) qK⟩
section JC
variable {p : Program} {l : Launch} {e : Env} {R : Room} {s : State} {m : MethodId} {args : Array Value} {below : List Frame} {meth : Method} {c : Code} {H : Heap} {locs : List Loc} {cells slots : Nat} {Q : State → Prop} {cc : ByteArray} {pc : Nat} {ls : Array Slot} {rest : List Value} {D : va_G} {tys : List (ClassId × FieldType)} {w wr : va_W} {y : MethodName} {ws : List Cond} {fr lo fr0 lo0 nL n maxL index : Nat} {Ts : List Cond} {own C : String} {bytes : ByteArray} {ret : Option FieldType} {b : Nat} {As st0 : List Value} {a : Array Value}
theorem j_gosI {post : Int32 → Prop} (hr : va_Run p l e R s m args below meth c H locs cells slots 0 0 (F0 m pc ls st0) rest (vp_Si post a) (fun _ => False)) (kk : ∀ r : Int32, post r → W p l e R s m args below meth c H locs cells slots Q (F0 m (pc + 3) ls (.int r :: rest))) : W p l e R s m args below meth c H locs cells slots Q (F0 m pc ls st0) := by
  intro T hT X
  obtain ⟨v, st₀, t, T', L, h0, X', hL, e1, -, ⟨r, hv, hp, hh⟩, st⟩ := hr T hT X
  cases hv
  obtain ⟨t2, a1, b1⟩ := kk r hp T' (by rw [e1, hh, h0]) (Stand.forget X' (fun q h => (hL q h).elim))
  exact ⟨t2, st t2 a1, b1⟩
theorem j_gosL {post : Int64 → Prop} (hr : va_Run p l e R s m args below meth c H locs cells slots 0 0 (F0 m pc ls st0) rest (vp_Sl post a) (fun _ => False)) (kk : ∀ r : Int64, post r → W p l e R s m args below meth c H locs cells slots Q (F0 m (pc + 3) ls (.long r :: rest))) : W p l e R s m args below meth c H locs cells slots Q (F0 m pc ls st0) := by
  intro T hT X
  obtain ⟨v, st₀, t, T', L, h0, X', hL, e1, -, ⟨r, hv, hp, hh⟩, st⟩ := hr T hT X
  cases hv
  obtain ⟨t2, a1, b1⟩ := kk r hp T' (by rw [e1, hh, h0]) (Stand.forget X' (fun q h => (hL q h).elim))
  exact ⟨t2, st t2 a1, b1⟩
theorem j_cVI (S : CallFix p m c cc nL s args Ts own) {v : Int32} (hM : RoI l y ws fr lo D tys w (.ref b :: As) v) (cw : CallW R s args own C index y bytes maxL ret ws (rmOf fr lo) 0 0 n) (hK : va_K D vwCl tys s) (hP : va_P D vwCl w H) (hrv : ∃ cell : Cell, H[b]? = some cell ∧ cell.vm.isStatics = false ∧ s.vm.findClass C = some cell.cls) (hn : As.length = n) (hsize : ls.size = nL) (hst : st0 = As.reverse ++ .ref b :: rest) (hW : (rest.map fun v => v.category).sum ≤ 8) (hf : cells ≤ R.cells ∧ slots ≤ R.slots) (hdg : decode cc pc = .ok (.invokevirtual index, 3)) (kk : W p l e R s m args below meth c H locs cells slots Q (F0 m (pc + 3) ls (.int v :: rest))) : W p l e R s m args below meth c H locs cells slots Q (F0 m pc ls st0) :=
  j_gosI (va_runV S hM cw ⟨RoPre.blind, hrv, fun U hU hW => ⟨rfl, by rw [hU]; exact hP, va_K.moved hW.alike hK⟩⟩ rfl hn hsize hst (lv_room hW) hdg hf) (fun r hr => by subst hr; exact kk)
theorem j_cSI (S : CallFix p m c cc nL s args Ts own) {v : Int32} (hM : RoI l y ws fr lo D tys w As v) (cw : CallB R s args own index y bytes maxL ret ws (rmOf fr lo) 0 0 n ∧ (Cond.static y).before args s = true) (hK : va_K D vwCl tys s) (hP : va_P D vwCl w H) (hn : As.length = n) (hsize : ls.size = nL) (hst : st0 = As.reverse ++ rest) (hW : (rest.map fun v => v.category).sum ≤ 8) (hf : cells ≤ R.cells ∧ slots ≤ R.slots) (hdg : decode cc pc = .ok (.invokestatic index, 3)) (kk : W p l e R s m args below meth c H locs cells slots Q (F0 m (pc + 3) ls (.int v :: rest))) : W p l e R s m args below meth c H locs cells slots Q (F0 m pc ls st0) :=
  j_gosI (va_runS S hM cw ⟨RoPre.blind, fun U hU hW => ⟨rfl, by rw [hU]; exact hP, va_K.moved hW.alike hK⟩⟩ rfl hn hsize hst (lv_room hW) hdg hf) (fun r hr => by subst hr; exact kk)
theorem j_cVL (S : CallFix p m c cc nL s args Ts own) {v : Int64} (hM : RoL l y ws fr lo D tys w (.ref b :: As) v) (cw : CallW R s args own C index y bytes maxL ret ws (rmOf fr lo) 0 0 n) (hK : va_K D vwCl tys s) (hP : va_P D vwCl w H) (hrv : ∃ cell : Cell, H[b]? = some cell ∧ cell.vm.isStatics = false ∧ s.vm.findClass C = some cell.cls) (hn : As.length = n) (hsize : ls.size = nL) (hst : st0 = As.reverse ++ .ref b :: rest) (hW : (rest.map fun v => v.category).sum ≤ 8) (hf : cells ≤ R.cells ∧ slots ≤ R.slots) (hdg : decode cc pc = .ok (.invokevirtual index, 3)) (kk : W p l e R s m args below meth c H locs cells slots Q (F0 m (pc + 3) ls (.long v :: rest))) : W p l e R s m args below meth c H locs cells slots Q (F0 m pc ls st0) :=
  j_gosL (va_runV S hM cw ⟨RoPre.blind, hrv, fun U hU hW => ⟨rfl, by rw [hU]; exact hP, va_K.moved hW.alike hK⟩⟩ rfl hn hsize hst (lv_room hW) hdg hf) (fun r hr => by subst hr; exact kk)
theorem j_cSL (S : CallFix p m c cc nL s args Ts own) {v : Int64} (hM : RoL l y ws fr lo D tys w As v) (cw : CallB R s args own index y bytes maxL ret ws (rmOf fr lo) 0 0 n ∧ (Cond.static y).before args s = true) (hK : va_K D vwCl tys s) (hP : va_P D vwCl w H) (hn : As.length = n) (hsize : ls.size = nL) (hst : st0 = As.reverse ++ rest) (hW : (rest.map fun v => v.category).sum ≤ 8) (hf : cells ≤ R.cells ∧ slots ≤ R.slots) (hdg : decode cc pc = .ok (.invokestatic index, 3)) (kk : W p l e R s m args below meth c H locs cells slots Q (F0 m (pc + 3) ls (.long v :: rest))) : W p l e R s m args below meth c H locs cells slots Q (F0 m pc ls st0) :=
  j_gosL (va_runS S hM cw ⟨RoPre.blind, fun U hU hW => ⟨rfl, by rw [hU]; exact hP, va_K.moved hW.alike hK⟩⟩ rfl hn hsize hst (lv_room hW) hdg hf) (fun r hr => by subst hr; exact kk)
/-- the start of a method's walk: what its head gives -/
theorem j_start {y : MethodName} {ws ws' : List Cond} {rm : Room} {av : List Value} {B : State → Prop} {Qc : Array Value → State → Outcome → State → Prop} {free : Addr → Prop} {cc : ByteArray} {maxL : Nat} {ret : Option FieldType} {mc ms : Nat} (own : String) (hown : y.cls = own) (hy : plainName y.cls = true) (hw : ws = Cond.code y cc maxL ret :: ws') (hlen : (lg_sl av).length ≤ maxL)
    (body : ∀ (p : Program) (e : Env) (s : State) (m : MethodId) (below : List Frame) (meth : Method) (c : Code) (ls : Array Slot), p.tables.exec = Jvm.exec → c.code = cc → meth.sig.returnType = ret → meth.locks = false → c.maxLocals = maxL → s.vm.findClass own = some m.cls → (∀ w ∈ ws, w.before av.toArray s = true) → meth.name = y.name → lv_has ls maxL (lv_args 0 av) → B s →
      W p l e rm s m av.toArray below meth c s.heap [] 0 0 (MQ below Qc av.toArray s mc ms free) (F0 m 0 ls [])) : Met l y ws rm (va_Pc av B) Qc mc ms free := by
  refine Met.ofW (cc := cc) (maxL := maxL) (ret := ret) hy hw ?_
  intro p e s m args below meth c s₁ X hml hv
  obtain ⟨rfl, hB⟩ := hv
  have hl := lv_entry av (n := maxL) hlen
  rw [lg_entry_eq]
  subst hown
  exact body p e s m below meth c _ X.exec X.bytes X.returns X.notSynchronized hml (findClass_of_methodNamed X.named) (atoms_spec X.pre) (name_of_methodNamed X.named X.method).1 hl hB
end JC
/-! contracts that keep the addresses of their world -/
theorem va_D.re {A : Nat → Prop} {w w' : va_W} (h : va_D A w) (e : w'.map Prod.fst = w.map Prod.fst) : va_D A w' := by
  have at' : ∀ (k : Nat) (q : Nat × va_E), w'[k]? = some q → ∃ q2, w[k]? = some q2 ∧ q2.1 = q.1 := by
    intro k q hk
    have h1 : (w'.map Prod.fst)[k]? = some q.1 := by rw [List.getElem?_map, hk]; rfl
    rw [e, List.getElem?_map] at h1
    cases hw : w[k]? with
    | none => rw [hw] at h1; cases h1
    | some q2 => rw [hw] at h1; exact ⟨q2, rfl, Option.some.inj h1⟩
  refine ⟨fun i j x y hx hy hxy => ?_, fun k q hk => ?_⟩
  · obtain ⟨x2, h1, h2⟩ := at' i x hx
    obtain ⟨y2, h3, h4⟩ := at' j y hy
    exact h.1 i j x2 y2 h1 h3 (by rw [h2, h4]; exact hxy)
  · obtain ⟨q2, h1, h2⟩ := at' k q hk
    rw [← h2]; exact h.2 k q2 h1
abbrev MuPre (D : va_G) (tys : List (ClassId × FieldType)) (sz : Nat) (w : va_W) (av : List Value) : Array Value → State → Prop := va_Pc av (fun U => U.heap.size = sz ∧ va_P D vwCl w U.heap ∧ va_K D vwCl tys U ∧ va_D (fun _ => True) w)
theorem MuPre.blind {D : va_G} {tys : List (ClassId × FieldType)} {w : va_W} {av : List Value} {sz : Nat} : FrameBlind (MuPre D tys sz w av) := fun a U g mk q => by
  obtain ⟨q0, q1, qP, qK, qD⟩ := q
  exact ⟨q0, q1, qP, va_K.moved (u := U) (U := U.calling g mk a) (Vm.Alike.refl U.vm) qK, qD⟩
abbrev MuV (l : Launch) (y : MethodName) (ws : List Cond) (fr lo : Nat) (D : va_G) (tys : List (ClassId × FieldType)) (w : va_W) (av : List Value) {S : Type} (post : S → Prop) (w1 : S → va_W) : Prop := ∀ sz : Nat, Met l y ws (rmOf fr lo) (MuPre D tys sz w av) (va_Qv post (fun u t => va_P D vwCl (w1 u) t.heap) (va_A w sz)) 0 0 (va_A w sz)
abbrev MuI (l : Launch) (y : MethodName) (ws : List Cond) (fr lo : Nat) (D : va_G) (tys : List (ClassId × FieldType)) (w : va_W) (av : List Value) {S : Type} (post : Int32 → S → Prop) (w1 : S → va_W) : Prop := ∀ sz : Nat, Met l y ws (rmOf fr lo) (MuPre D tys sz w av) (va_Qi post (fun u t => va_P D vwCl (w1 u) t.heap) (va_A w sz)) 0 0 (va_A w sz)
abbrev MuL (l : Launch) (y : MethodName) (ws : List Cond) (fr lo : Nat) (D : va_G) (tys : List (ClassId × FieldType)) (w : va_W) (av : List Value) {S : Type} (post : Int64 → S → Prop) (w1 : S → va_W) : Prop := ∀ sz : Nat, Met l y ws (rmOf fr lo) (MuPre D tys sz w av) (va_Ql post (fun u t => va_P D vwCl (w1 u) t.heap) (va_A w sz)) 0 0 (va_A w sz)
theorem fm_of {α β : Type _} {g : α → Option β} : ∀ {l : List α} {w : List β}, l.map g = w.map some → l.filterMap g = w := by
  intro l
  induction l with
  | nil =>
    intro w h
    cases w with
    | nil => rfl
    | cons y w => simp at h
  | cons x l ih =>
    intro w h
    cases w with
    | nil => simp at h
    | cons y w =>
      simp only [List.map_cons, List.cons.injEq] at h
      rw [List.filterMap_cons, h.1]
      simp only
      rw [ih h.2]
section JM
variable {p : Program} {l : Launch} {e : Env} {R : Room} {s : State} {m : MethodId} {args : Array Value} {below : List Frame} {meth : Method} {c : Code} {H : Heap} {locs : List Loc} {cells slots : Nat} {Q : State → Prop} {cc : ByteArray} {pc : Nat} {ls : Array Slot} {rest : List Value} {D : va_G} {tys : List (ClassId × FieldType)} {wc wr W0 : va_W} {y : MethodName} {ws : List Cond} {fr lo nL n maxL index : Nat} {Ts : List Cond} {own C : String} {bytes : ByteArray} {ret : Option FieldType} {b : Nat} {As st0 : List Value} {a : Array Value} {A : Nat → Prop} {H0 : Heap}
theorem j_mVV (S9 : CallFix p m c cc nL s args Ts own) {S : Type} {post : S → Prop} {w1 : S → va_W} (hM : MuV l y ws fr lo D tys wc (.ref b :: As) post w1) (cw : CallW R s args own C index y bytes maxL ret ws (rmOf fr lo) 0 0 n) (hK : va_K D vwCl tys s) (hP : va_P D vwCl W0 H) (hD : va_D A W0) (hS : va_S A H0 H locs) (hA : ∀ q, H0.size ≤ q → A q) (hrv : ∃ cell : Cell, H[b]? = some cell ∧ cell.vm.isStatics = false ∧ s.vm.findClass C = some cell.cls) (hn : As.length = n) (hsize : ls.size = nL) (hst : st0 = As.reverse ++ .ref b :: rest) (hW : (rest.map fun v => v.category).sum ≤ 8) (hf : cells ≤ R.cells ∧ slots ≤ R.slots) (hdg : decode cc pc = .ok (.invokevirtual index, 3))
    (isC isR perm : List Nat) (hC : isC.map (fun i => W0[i]?) = wc.map some) (hcn : va_nd isC = true) (hR : isR.map (fun i => W0[i]?) = wr.map some) (hnd : va_nd isR = true) (hdis : ∀ i ∈ isR, i ∉ isC) (ad1 : ∀ u, (w1 u).map Prod.fst = wc.map Prod.fst) (W1 : S → va_W) (hperm : ∀ u, perm.filterMap (fun i => (wr ++ w1 u)[i]?) = W1 u) (adr : ∀ u, (W1 u).map Prod.fst = W0.map Prod.fst)
    (kk : ∀ (u : S) (H1 : Heap) (locs1 : List Loc), post u → va_P D vwCl (W1 u) H1 → va_D A (W1 u) → va_S A H0 H1 locs1 → W p l e R s m args below meth c H1 locs1 cells slots Q (F0 m (pc + 3) ls (rest))) : W p l e R s m args below meth c H locs cells slots Q (F0 m pc ls st0) := by
  have hPc := hP.sub isC (fm_of hC)
  have hDc := hD.sub isC hcn hC
  have hFc := va_free (wc := wc) hD hS hA isC hC
  refine va_callv (va_runV S9 (hM H.size) cw ⟨MuPre.blind, hrv, fun U hU hW => ⟨rfl, by rw [hU], by rw [hU]; exact hPc, va_K.moved hW.alike hK, hDc.weaken (fun _ _ _ _ => trivial)⟩⟩ rfl hn hsize hst (lv_room hW) hdg hf) hS (fun q _ h => hFc q h) hFc (fun u t H1 locs1 ht hvm hw hB hz1 hk1 hS1 => ?_)
  have hB : va_P D vwCl (w1 u) t.heap := hB
  rw [ht] at hB
  obtain ⟨hP1, hD1⟩ := va_join (wr := wr) (w1 := w1 u) hP hD isC isR hC hR hnd hdis hk1 hFc hB ((hDc.self (sz := H.size)).re (ad1 u))
  exact kk u H1 locs1 hw (hP1.sub perm (hperm u)) (hD.re (adr u)) hS1
theorem j_mVI (S9 : CallFix p m c cc nL s args Ts own) {S : Type} {post : Int32 → S → Prop} {w1 : S → va_W} (hM : MuI l y ws fr lo D tys wc (.ref b :: As) post w1) (cw : CallW R s args own C index y bytes maxL ret ws (rmOf fr lo) 0 0 n) (hK : va_K D vwCl tys s) (hP : va_P D vwCl W0 H) (hD : va_D A W0) (hS : va_S A H0 H locs) (hA : ∀ q, H0.size ≤ q → A q) (hrv : ∃ cell : Cell, H[b]? = some cell ∧ cell.vm.isStatics = false ∧ s.vm.findClass C = some cell.cls) (hn : As.length = n) (hsize : ls.size = nL) (hst : st0 = As.reverse ++ .ref b :: rest) (hW : (rest.map fun v => v.category).sum ≤ 8) (hf : cells ≤ R.cells ∧ slots ≤ R.slots) (hdg : decode cc pc = .ok (.invokevirtual index, 3))
    (isC isR perm : List Nat) (hC : isC.map (fun i => W0[i]?) = wc.map some) (hcn : va_nd isC = true) (hR : isR.map (fun i => W0[i]?) = wr.map some) (hnd : va_nd isR = true) (hdis : ∀ i ∈ isR, i ∉ isC) (ad1 : ∀ u, (w1 u).map Prod.fst = wc.map Prod.fst) (W1 : S → va_W) (hperm : ∀ u, perm.filterMap (fun i => (wr ++ w1 u)[i]?) = W1 u) (adr : ∀ u, (W1 u).map Prod.fst = W0.map Prod.fst)
    (kk : ∀ (r : Int32) (u : S) (H1 : Heap) (locs1 : List Loc), post r u → va_P D vwCl (W1 u) H1 → va_D A (W1 u) → va_S A H0 H1 locs1 → W p l e R s m args below meth c H1 locs1 cells slots Q (F0 m (pc + 3) ls (.int r :: rest))) : W p l e R s m args below meth c H locs cells slots Q (F0 m pc ls st0) := by
  have hPc := hP.sub isC (fm_of hC)
  have hDc := hD.sub isC hcn hC
  have hFc := va_free (wc := wc) hD hS hA isC hC
  refine va_calli (va_runV S9 (hM H.size) cw ⟨MuPre.blind, hrv, fun U hU hW => ⟨rfl, by rw [hU], by rw [hU]; exact hPc, va_K.moved hW.alike hK, hDc.weaken (fun _ _ _ _ => trivial)⟩⟩ rfl hn hsize hst (lv_room hW) hdg hf) hS (fun q _ h => hFc q h) hFc (fun r u t H1 locs1 ht hvm hw hB hz1 hk1 hS1 => ?_)
  have hB : va_P D vwCl (w1 u) t.heap := hB
  rw [ht] at hB
  obtain ⟨hP1, hD1⟩ := va_join (wr := wr) (w1 := w1 u) hP hD isC isR hC hR hnd hdis hk1 hFc hB ((hDc.self (sz := H.size)).re (ad1 u))
  exact kk r u H1 locs1 hw (hP1.sub perm (hperm u)) (hD.re (adr u)) hS1
theorem j_mVL (S9 : CallFix p m c cc nL s args Ts own) {S : Type} {post : Int64 → S → Prop} {w1 : S → va_W} (hM : MuL l y ws fr lo D tys wc (.ref b :: As) post w1) (cw : CallW R s args own C index y bytes maxL ret ws (rmOf fr lo) 0 0 n) (hK : va_K D vwCl tys s) (hP : va_P D vwCl W0 H) (hD : va_D A W0) (hS : va_S A H0 H locs) (hA : ∀ q, H0.size ≤ q → A q) (hrv : ∃ cell : Cell, H[b]? = some cell ∧ cell.vm.isStatics = false ∧ s.vm.findClass C = some cell.cls) (hn : As.length = n) (hsize : ls.size = nL) (hst : st0 = As.reverse ++ .ref b :: rest) (hW : (rest.map fun v => v.category).sum ≤ 8) (hf : cells ≤ R.cells ∧ slots ≤ R.slots) (hdg : decode cc pc = .ok (.invokevirtual index, 3))
    (isC isR perm : List Nat) (hC : isC.map (fun i => W0[i]?) = wc.map some) (hcn : va_nd isC = true) (hR : isR.map (fun i => W0[i]?) = wr.map some) (hnd : va_nd isR = true) (hdis : ∀ i ∈ isR, i ∉ isC) (ad1 : ∀ u, (w1 u).map Prod.fst = wc.map Prod.fst) (W1 : S → va_W) (hperm : ∀ u, perm.filterMap (fun i => (wr ++ w1 u)[i]?) = W1 u) (adr : ∀ u, (W1 u).map Prod.fst = W0.map Prod.fst)
    (kk : ∀ (r : Int64) (u : S) (H1 : Heap) (locs1 : List Loc), post r u → va_P D vwCl (W1 u) H1 → va_D A (W1 u) → va_S A H0 H1 locs1 → W p l e R s m args below meth c H1 locs1 cells slots Q (F0 m (pc + 3) ls (.long r :: rest))) : W p l e R s m args below meth c H locs cells slots Q (F0 m pc ls st0) := by
  have hPc := hP.sub isC (fm_of hC)
  have hDc := hD.sub isC hcn hC
  have hFc := va_free (wc := wc) hD hS hA isC hC
  refine va_calll (va_runV S9 (hM H.size) cw ⟨MuPre.blind, hrv, fun U hU hW => ⟨rfl, by rw [hU], by rw [hU]; exact hPc, va_K.moved hW.alike hK, hDc.weaken (fun _ _ _ _ => trivial)⟩⟩ rfl hn hsize hst (lv_room hW) hdg hf) hS (fun q _ h => hFc q h) hFc (fun r u t H1 locs1 ht hvm hw hB hz1 hk1 hS1 => ?_)
  have hB : va_P D vwCl (w1 u) t.heap := hB
  rw [ht] at hB
  obtain ⟨hP1, hD1⟩ := va_join (wr := wr) (w1 := w1 u) hP hD isC isR hC hR hnd hdis hk1 hFc hB ((hDc.self (sz := H.size)).re (ad1 u))
  exact kk r u H1 locs1 hw (hP1.sub perm (hperm u)) (hD.re (adr u)) hS1
theorem j_mretV (hx : p.tables.exec = Jvm.exec) (hb : c.code = cc) {S : Type} {post : S → Prop} {w1 : S → va_W} (hr : meth.sig.returnType = none) (hlocks : meth.locks = false) (hS : va_S A s.heap H locs) (hdg : decode cc pc = .ok (.return_, 1)) (u : S) (hp : post u) (hP : va_P D vwCl (w1 u) H) : W p l e R s m args below meth c H locs cells slots (MQ below (va_Qv post (fun u t => va_P D vwCl (w1 u) t.heap) A) args s cells slots A) (F0 m pc ls []) :=
  W.vret hx hb hr (fun t ht _ => ⟨⟨u, rfl, hp, by show va_P D vwCl (w1 u) t.heap; rw [ht]; exact hP⟩, hS.F ht⟩) hS.2.2 hdg hlocks
theorem j_mretI (hx : p.tables.exec = Jvm.exec) (hb : c.code = cc) {S : Type} {post : Int32 → S → Prop} {w1 : S → va_W} {v : Int32} (hr : meth.sig.returnType = some .int) (hlocks : meth.locks = false) (hS : va_S A s.heap H locs) (hdg : decode cc pc = .ok (.ireturn, 1)) (u : S) (hp : post v u) (hP : va_P D vwCl (w1 u) H) : W p l e R s m args below meth c H locs cells slots (MQ below (va_Qi post (fun u t => va_P D vwCl (w1 u) t.heap) A) args s cells slots A) (F0 m pc ls [.int v]) :=
  W.iret hx hb hr (fun t ht _ => ⟨⟨v, u, rfl, hp, by show va_P D vwCl (w1 u) t.heap; rw [ht]; exact hP⟩, hS.F ht⟩) hS.2.2 hdg hlocks
theorem j_mretZ (hx : p.tables.exec = Jvm.exec) (hb : c.code = cc) {S : Type} {post : Int32 → S → Prop} {w1 : S → va_W} {v : Int32} (hr : meth.sig.returnType = some .boolean) (hnr : narrow .boolean (.int v) = .int v) (hlocks : meth.locks = false) (hS : va_S A s.heap H locs) (hdg : decode cc pc = .ok (.ireturn, 1)) (u : S) (hp : post v u) (hP : va_P D vwCl (w1 u) H) : W p l e R s m args below meth c H locs cells slots (MQ below (va_Qi post (fun u t => va_P D vwCl (w1 u) t.heap) A) args s cells slots A) (F0 m pc ls [.int v]) :=
  W.zret hx hb hr hnr (fun t ht _ => ⟨⟨v, u, rfl, hp, by show va_P D vwCl (w1 u) t.heap; rw [ht]; exact hP⟩, hS.F ht⟩) hS.2.2 hdg hlocks
theorem j_mretL (hx : p.tables.exec = Jvm.exec) (hb : c.code = cc) {S : Type} {post : Int64 → S → Prop} {w1 : S → va_W} {v : Int64} (hr : meth.sig.returnType = some .long) (hlocks : meth.locks = false) (hS : va_S A s.heap H locs) (hdg : decode cc pc = .ok (.lreturn, 1)) (u : S) (hp : post v u) (hP : va_P D vwCl (w1 u) H) : W p l e R s m args below meth c H locs cells slots (MQ below (va_Ql post (fun u t => va_P D vwCl (w1 u) t.heap) A) args s cells slots A) (F0 m pc ls [.long v]) :=
  W.lret hx hb hr (fun t ht _ => ⟨⟨v, u, rfl, hp, by show va_P D vwCl (w1 u) t.heap; rw [ht]; exact hP⟩, hS.F ht⟩) hS.2.2 hdg hlocks
end JM
end
end
section
/-! bits: rows of the kit's text to paste -/
def bt (x : Int32) (i : Nat) : Bool := x.toBitVec.getLsbD i
theorem b_ext {x y : Int32} (h : ∀ i, i < 32 → bt x i = bt y i) : x = y := Int32.toBitVec_inj.mp (BitVec.eq_of_getLsbD_eq (fun i hi => h i hi))
theorem b_or (x y : Int32) (i : Nat) : bt (x ||| y) i = (bt x i || bt y i) := by unfold bt; rw [Int32.toBitVec_or, BitVec.getLsbD_or]
theorem b_and (x y : Int32) (i : Nat) : bt (x &&& y) i = (bt x i && bt y i) := by unfold bt; rw [Int32.toBitVec_and, BitVec.getLsbD_and]
theorem b_xor (x y : Int32) (i : Nat) : bt (x ^^^ y) i = (bt x i ^^ bt y i) := by unfold bt; rw [Int32.toBitVec_xor, BitVec.getLsbD_xor]
theorem b_big {x : Int32} {i : Nat} (h : 32 ≤ i) : bt x i = false := BitVec.getLsbD_of_ge _ _ h
theorem b_m1 : ∀ i, i < 32 → bt (-1) i = true := by decide +kernel
theorem b_0 (i : Nat) : bt 0 i = false := BitVec.getLsbD_zero
theorem s_l : ∀ n, n < 32 → ((nI n &&& 31).toBitVec.smod 32).toNat = n := by decide +kernel
theorem s_u : ∀ n, n < 32 → (((nI n).toUInt32 &&& Int32.toUInt32 31).toBitVec % 32).toNat = n := by decide +kernel
theorem b_shl (n : Nat) (hn : n < 32) (x : Int32) {i : Nat} (hi : i < 32) : bt (x <<< (nI n &&& 31)) i = (decide (n ≤ i) && bt x (i - n)) := by
  unfold bt
  rw [Int32.toBitVec_shiftLeft]
  show (x.toBitVec <<< ((nI n &&& 31).toBitVec.smod 32).toNat).getLsbD i = _
  rw [s_l n hn, BitVec.getLsbD_shiftLeft]
  rcases Nat.lt_or_ge i n with h | h
  · simp [h, Nat.not_le.mpr h]
  · simp [hi, h, Nat.not_lt.mpr h]
theorem b_ushr (n : Nat) (hn : n < 32) (x : Int32) (i : Nat) : bt ((x.toUInt32 >>> ((nI n).toUInt32 &&& Int32.toUInt32 31)).toInt32) i = bt x (n + i) := by
  show (x.toUInt32 >>> ((nI n).toUInt32 &&& Int32.toUInt32 31)).toBitVec.getLsbD i = x.toUInt32.toBitVec.getLsbD (n + i)
  rw [UInt32.toBitVec_shiftRight]
  show (x.toUInt32.toBitVec >>> (((nI n).toUInt32 &&& Int32.toUInt32 31).toBitVec % 32).toNat).getLsbD i = _
  rw [s_u n hn, BitVec.getLsbD_ushiftRight]
theorem b_sshr (n : Nat) (hn : n < 32) (x : Int32) {i : Nat} (hi : i < 32) : bt (x >>> (nI n &&& 31)) i = if n + i < 32 then bt x (n + i) else bt x 31 := by
  unfold bt
  rw [Int32.toBitVec_shiftRight]
  show (x.toBitVec.sshiftRight ((nI n &&& 31).toBitVec.smod 32).toNat).getLsbD i = _
  rw [s_l n hn, BitVec.getLsbD_sshiftRight, BitVec.msb_eq_getLsbD_last]
  simp [hi]
noncomputable section
/-! the mathematical state: bars, width, lines a page, count, costs, least widths, wished widths, marks (3 * bar + mark) -/
abbrev Sg : Type := Int × Int × Int × Int × (Int → Int) × (Int → Int) × (Int → Int) × (Int → Bool)
def sNb (σ : Sg) : Int := σ.1
def sWd (σ : Sg) : Int := σ.2.1
def sPp (σ : Sg) : Int := σ.2.2.1
def sCt (σ : Sg) : Int := σ.2.2.2.1
def sCs (σ : Sg) : Int → Int := σ.2.2.2.2.1
def sLs (σ : Sg) : Int → Int := σ.2.2.2.2.2.1
def sWs (σ : Sg) : Int → Int := σ.2.2.2.2.2.2.1
def sM (σ : Sg) : Int → Bool := σ.2.2.2.2.2.2.2
def okS (σ : Sg) : Prop := (0 ≤ sNb σ ∧ sNb σ ≤ 24) ∧ (100 ≤ sWd σ ∧ sWd σ ≤ 5000) ∧ (1 ≤ sPp σ ∧ sPp σ ≤ 8) ∧ (0 ≤ sCt σ ∧ sCt σ ≤ 24) ∧ (∀ k, 0 ≤ k → k < 5 → 0 ≤ sCs σ k ∧ sCs σ k ≤ 1000000) ∧ (∀ k, 0 ≤ k → k < sNb σ → 1 ≤ sLs σ k ∧ sLs σ k ≤ sWs σ k ∧ sWs σ k ≤ 400)
def preN (f : Int → Int) : Nat → Int
  | 0 => 0
  | n + 1 => preN f n + f n
def pre (f : Int → Int) (k : Int) : Int := preN f k.toNat
theorem pre_0 (f : Int → Int) : pre f 0 = 0 := rfl
theorem pre_s (f : Int → Int) {k : Int} (h : 0 ≤ k) : pre f (k + 1) = pre f k + f k := by
  obtain ⟨n, rfl⟩ : ∃ n : Nat, k = n := ⟨k.toNat, by omega⟩
  show preN f ((n : Int) + 1).toNat = preN f (n : Int).toNat + f n
  rw [show ((n : Int) + 1).toNat = n + 1 by omega, show ((n : Int)).toNat = n by omega]
  rfl
theorem pre_c {f g : Int → Int} : ∀ {k : Int}, (∀ j, 0 ≤ j → j < k → f j = g j) → pre f k = pre g k := by
  intro k h
  unfold pre
  have : ∀ n : Nat, (n : Int) ≤ k.toNat → preN f n = preN g n := by
    intro n
    induction n with
    | zero => intro _; rfl
    | succ n ih =>
      intro hn
      show preN f n + f n = preN g n + g n
      rw [ih (by omega), h n (by omega) (by omega)]
  exact this _ (Int.le_refl _)
def tot (f : Int → Int) (a b : Int) : Int := pre f (b + 1) - pre f a
def dd (σ : Sg) (a b : Int) : Int := sWd σ - tot (sWs σ) a b
def cst (σ : Sg) (a b : Int) : Int := if sWd σ < tot (sLs σ) a b then sCs σ 3 else if dd σ a b < 0 then sCs σ 0 * dd σ a b * dd σ a b else if b = sNb σ - 1 then 0 else sCs σ 4 * dd σ a b * dd σ a b
def may (σ : Sg) (a b : Int) : Prop := (∀ k, a ≤ k → k < b → sM σ (3 * k) = false) ∧ (sM σ (3 * b + 1) = false ∨ sM σ (3 * b) = true ∨ b = sNb σ - 1) ∧ (a = b ∨ ¬ sWd σ < tot (sLs σ) a b)
def trn (σ : Sg) (b : Int) : Int := if sM σ (3 * b + 2) = true then 0 else sCs σ 1
def lpr (σ : Sg) (a b : Int) : Int := @ite _ (may σ a b) (Classical.propDecidable _) (cst σ a b) (-1)
/-- how wide the bars of the line a..b ahead of k are set together -/
def ahd (σ : Sg) (a b k : Int) : Int := if sWd σ < tot (sLs σ) a b then pre (sLs σ) k - pre (sLs σ) a else if 0 ≤ dd σ a b then (pre (sWs σ) k - pre (sWs σ) a) + dd σ a b * (pre (sWs σ) k - pre (sWs σ) a) / tot (sWs σ) a b else (pre (sWs σ) k - pre (sWs σ) a) - (-dd σ a b) * ((pre (sWs σ) k - pre (sWs σ) a) - (pre (sLs σ) k - pre (sLs σ) a)) / (tot (sWs σ) a b - tot (sLs σ) a b)
theorem preB {σ : Sg} (h : okS σ) {a b : Int} (ha : 0 ≤ a) (hab : a ≤ b) (hb : b ≤ sNb σ) : b - a ≤ pre (sLs σ) b - pre (sLs σ) a ∧ pre (sLs σ) b - pre (sLs σ) a ≤ pre (sWs σ) b - pre (sWs σ) a ∧ pre (sWs σ) b - pre (sWs σ) a ≤ 400 * (b - a) := by
  obtain ⟨n, hn⟩ : ∃ n : Nat, b = a + n := ⟨(b - a).toNat, by omega⟩
  subst hn
  clear hab
  induction n with
  | zero => simp
  | succ n ih =>
    have h1 := ih (by omega)
    have h2 := h.2.2.2.2.2 (a + n) (by omega) (by omega)
    have e : a + ((n + 1 : Nat) : Int) = (a + n) + 1 := by omega
    rw [e, pre_s _ (by omega), pre_s _ (by omega)]
    omega
/-- the first object's parts: its sums of widths and its marks as bits say the state -/
def okP (σ : Sg) (la wa : Int → Int) (mk : Nat → Int32) : Prop := okS σ ∧ (∀ k, 0 ≤ k → k ≤ sNb σ → la k = pre (sLs σ) k ∧ wa k = pre (sWs σ) k) ∧ (∀ m b : Nat, m < 3 → b < 24 → bt (mk m) b = sM σ (3 * b + m))
/-! bits of ints that are images -/
theorem jI_n {z : Int} (h : 0 ≤ z) : jI z = nI z.toNat := by
  show Int32.ofInt z = Int32.ofNat z.toNat
  rw [← Int32.ofInt_eq_ofNat]
  congr 1
  omega
theorem jL_n {z : Int} (h : 0 ≤ z) : jL z = lN z.toNat := by
  show Int64.ofInt z = Int64.ofNat z.toNat
  rw [← Int64.ofInt_eq_ofNat]
  congr 1
  omega
theorem bt_1 : ∀ i, i < 32 → bt (jI 1) i = decide (i = 0) := by decide +kernel
theorem bt_and1 (y : Int32) : y &&& jI 1 = jI 1 ↔ bt y 0 = true := by
  constructor
  · intro h
    have h1 := congrArg (fun x => bt x 0) h
    simp only [b_and, bt_1 0 (by omega)] at h1
    simpa using h1
  · intro h
    apply b_ext
    intro i hi
    rw [b_and, bt_1 i hi]
    by_cases q : i = 0
    · subst q; simp [h]
    · simp [q]
theorem bt_mark {b : Int} (x : Int32) (h0 : 0 ≤ b) (h : b < 24) : x >>> (jI b &&& 31) &&& jI 1 = jI 1 ↔ bt x b.toNat = true := by
  rw [jI_n h0, bt_and1, b_sshr b.toNat (by omega) x (by omega), if_pos (by omega)]
  simp
theorem jI_pow : ∀ n, n < 24 → jI 1 <<< (nI n &&& 31) = jI (2 ^ n) := by decide +kernel
theorem jI_bit {b : Int} (h0 : 0 ≤ b) (h : b < 24) : jI 1 <<< (jI b &&& 31) = jI (2 ^ b.toNat) := by
  rw [jI_n h0]
  exact jI_pow b.toNat (by omega)
theorem bt_pow : ∀ n, n < 24 → ∀ i, i < 32 → bt (jI (2 ^ n)) i = decide (i = n) := by decide +kernel
theorem bt_inv : ∀ n, n < 24 → ∀ i, i < 32 → bt (jI (2 ^ n) ^^^ jI (-1)) i = decide (i ≠ n) := by decide +kernel
theorem bt_rng : ∀ t, t < 24 → ∀ f, f < 24 → f ≤ t → ∀ i, i < 32 → bt (jI (2 ^ t - 2 ^ f)) i = decide (f ≤ i ∧ i < t) := by decide +kernel
theorem bt_may {x : Int32} {f t : Int} (h0 : 0 ≤ f) (h1 : f ≤ t) (h2 : t < 24) : x &&& jI (2 ^ t.toNat - 2 ^ f.toNat) = 0 ↔ ∀ k : Int, f ≤ k → k < t → bt x k.toNat = false := by
  constructor
  · intro h k hk1 hk2
    have q := congrArg (fun y => bt y k.toNat) h
    simp only [b_and, b_0] at q
    rw [bt_rng t.toNat (by omega) f.toNat (by omega) (by omega) k.toNat (by omega), decide_eq_true (by omega), Bool.and_true] at q
    exact q
  · intro h
    apply b_ext
    intro i hi
    rw [b_and, b_0, bt_rng t.toNat (by omega) f.toNat (by omega) (by omega) i hi]
    by_cases q : f.toNat ≤ i ∧ i < t.toNat
    · have := h i (by omega) (by omega)
      rw [show ((i : Int)).toNat = i by omega] at this
      simp [this]
    · rw [decide_eq_false q]; simp
theorem jL_pow : ∀ n, n < 48 → jL 1 <<< ((nI n).toInt64 &&& 63) = jL (2 ^ n) := by decide +kernel
theorem jL_bit {b : Int} (h0 : 0 ≤ b) (h : b < 48) : jL 1 <<< ((jI b).toInt64 &&& 63) = jL (2 ^ b.toNat) := by
  rw [jI_n h0]
  exact jL_pow b.toNat (by omega)
theorem jL_and {o : Int} {k : Nat} (h0 : 0 ≤ o) (h : o < 9223372036854775808) (hk : k < 63) : jL o &&& jL (2 ^ k) = jL 0 ↔ ¬ o / 2 ^ k % 2 = 1 := by
  obtain ⟨n, rfl⟩ : ∃ n : Nat, o = n := ⟨o.toNat, by omega⟩
  have e2 : ((2 : Int) ^ k) = ((2 ^ k : Nat) : Int) := (Int.natCast_pow 2 k).symm
  have hp : (2 : Nat) ^ k < 2 ^ 63 := Nat.pow_lt_pow_right (by omega) hk
  have hn : n < 2 ^ 63 := by omega
  rw [e2, jL_n (by omega), jL_n (Int.natCast_nonneg _)]
  rw [Int.toNat_natCast, Int.toNat_natCast]
  have hb : lN n &&& lN (2 ^ k) = lN (n &&& 2 ^ k) := by
    apply Int64.toBitVec_inj.1
    show BitVec.ofNat 64 n &&& BitVec.ofNat 64 (2 ^ k) = BitVec.ofNat 64 (n &&& 2 ^ k)
    apply BitVec.eq_of_getLsbD_eq
    intro i hi
    simp [hi]
  have hl : n &&& 2 ^ k < 2 ^ 63 := Nat.lt_of_le_of_lt Nat.and_le_left hn
  rw [hb, show jL 0 = lN 0 from rfl, pk_lEQ hl (by omega)]
  have hz : n &&& 2 ^ k = 0 ↔ n.testBit k = false := by
    constructor
    · intro w
      have w2 := congrArg (fun x => Nat.testBit x k) w
      simpa [Nat.testBit_and] using w2
    · intro w
      apply Nat.eq_of_testBit_eq
      intro i
      rw [Nat.testBit_and, Nat.testBit_two_pow, Nat.zero_testBit]
      by_cases q : k = i
      · subst q; simp [w]
      · simp [q]
  have ht : n.testBit k = decide (n / 2 ^ k % 2 = 1) := Nat.testBit_eq_decide_div_mod_eq
  have hc : ((n : Int) / ((2 ^ k : Nat) : Int) % 2 = 1) ↔ n / 2 ^ k % 2 = 1 := by omega
  rw [hz, hc, ht, decide_eq_false_iff_not]
/-! the worlds: the class's sixteen cells are q 0 .. q 15, the reference's eleven r 0 .. r 10 -/
abbrev wPc (q : Nat → Nat) (cI : ClassId) (nb wd pp ct : Int) (cs : Int → Int) (mk : Nat → Int32) (la wa : Int → Int) : va_W := [(q 0, .inr (0, [.int (jI nb), .int (jI wd), .int (jI pp), .int (jI ct), .ref (q 1), .ref (q 2), .ref (q 3), .ref (q 4)])), (q 1, .inl (cI, 5, .inl (fun k : Nat => jI (cs k)))), (q 2, .inl (cI, 3, .inl mk)), (q 3, .inl (cI, 25, .inl (fun k : Nat => jI (la k)))), (q 4, .inl (cI, 25, .inl (fun k : Nat => jI (wa k))))]
abbrev wSe (q : Nat → Nat) (cJ : ClassId) (lp tp rk od : Int → Int) (fr fo : Int) : va_W := [(q 5, .inr (1, [.ref (q 0), .ref (q 6), .ref (q 7), .ref (q 8), .ref (q 9), .long (jL fr), .long (jL fo)])), (q 6, .inl (cJ, 576, .inr (.inl (fun k : Nat => jL (lp k))))), (q 7, .inl (cJ, 24, .inr (.inl (fun k : Nat => jL (tp k))))), (q 8, .inl (cJ, 192, .inr (.inl (fun k : Nat => jL (rk k))))), (q 9, .inl (cJ, 192, .inr (.inl (fun k : Nat => jL (od k)))))]
abbrev wSt (q : Nat → Nat) (cI : ClassId) (ex : Prop) (to ln pg : Int) (fb fl pl lb : Int → Int) : va_W := [(q 10, .inr (2, [.int (jZ ex), .long (jL to), .int (jI ln), .int (jI pg), .ref (q 11), .ref (q 12), .ref (q 13), .ref (q 14)])), (q 11, .inl (cI, 25, .inl (fun k : Nat => jI (fb k)))), (q 12, .inl (cI, 25, .inl (fun k : Nat => jI (fl k)))), (q 13, .inl (cI, 24, .inl (fun k : Nat => jI (pl k)))), (q 14, .inl (cI, 24, .inl (fun k : Nat => jI (lb k))))]
abbrev wBl (q : Nat → Nat) (kn : Prop) : va_W := [(q 15, .inr (3, [.ref (q 0), .ref (q 5), .ref (q 10), .int (jZ kn)]))]
abbrev wMo (r : Nat → Nat) (cI cJ cZ : ClassId) (wd pp nb : Int) (ls ws : Int → Int) (M : Int → Bool) (cs : Int → Int) (ct : Int) (rs : Int → Int) (kn : Prop) (be lm : Int) (lf : Int → Int) (pm : Int) (pf nw th pg : Int → Int) : va_W := [(r 0, .inr (4, [.int (jI wd), .int (jI pp), .int (jI nb), .ref (r 1), .ref (r 2), .ref (r 3), .ref (r 4), .int (jI ct), .ref (r 5), .int (jZ kn), .long (jL be), .int (jI lm), .ref (r 6), .int (jI pm), .ref (r 7), .ref (r 8), .ref (r 9), .ref (r 10)])), (r 1, .inl (cI, 24, .inl (fun k : Nat => jI (ls k)))), (r 2, .inl (cI, 24, .inl (fun k : Nat => jI (ws k)))), (r 3, .inl (cZ, 72, .inl (fun k : Nat => jZ (M k = true)))), (r 4, .inl (cJ, 5, .inr (.inl (fun k : Nat => jL (cs k))))), (r 5, .inl (cJ, 11250, .inr (.inl (fun k : Nat => jL (rs k))))), (r 6, .inl (cI, 25, .inl (fun k : Nat => jI (lf k)))), (r 7, .inl (cI, 25, .inl (fun k : Nat => jI (pf k)))), (r 8, .inl (cJ, 18, .inr (.inl (fun k : Nat => jL (nw k))))), (r 9, .inl (cJ, 18, .inr (.inl (fun k : Nat => jL (th k))))), (r 10, .inl (cJ, 25, .inr (.inl (fun k : Nat => jL (pg k)))))]
end
end
section
/-! the contracts of BreakLines$Piece -/
noncomputable section
set_option maxHeartbeats 4000000 in
set_option maxRecDepth 100000 in
theorem kX0_hasBar (l : Launch) (D : va_G) (cI cJ cZ : ClassId) (q : Nat → Nat) (σ : Sg) (la wa : Int → Int) (mk : Nat → Int32) (hok : okP σ la wa mk) (a : Int) (ha : i32 a) : RoI l yX0_hasBar wsX0_hasBar 0 0 D (tyc cI cJ cZ) (wPc q cI (sNb σ) (sWd σ) (sPp σ) (sCt σ) (sCs σ) mk la wa) [.ref (q 0), .int (jI a)] (jZ (0 ≤ a ∧ a < sNb σ)) := by
  refine j_start RX0 rfl (by decide) rfl (Nat.le_of_ble_eq_true rfl) ?_
  intro p e s m below meth c ls hx hb hr hlocks hml hown hts hnm hl ⟨hP, hK⟩
  have hP : va_P D vwCl (wPc q cI (sNb σ) (sWd σ) (sPp σ) (sCt σ) (sCs σ) mk la wa) s.heap := hP
  have hl : lv_has ls 2 [(0, .ref (q 0)), (1, .int (jI a))] := hl
  have hinX0 : ∀ w ∈ u_ws RX0 TX0 8, w ∈ wsX0_hasBar := by decide +kernel
  have hS0 := hok.1
  have hnb := hS0.1
  have hwd := hS0.2.1
  have hpp := hS0.2.2.1
  unfold i32 at ha
  refine lv_iload_n hx hb dX0_hasBar_0 rfl (lv_at hl 1 rfl) ?_
  refine j_if_lt (tgt := 16) hx hb (by unfold i32; omega) dX0_hasBar_1 (by decide) (fun c1 => ?_) (fun c1 => ?_)
  · skip
    refine j_iconst hx hb dX0_hasBar_16 ?_
    exact j_retZ hx hb hr (by decide) hlocks dX0_hasBar_17 ((jZ_f (by omega)).symm)
  · skip
    refine lv_iload_n hx hb dX0_hasBar_4 rfl (lv_at hl 1 rfl) ?_
    refine lv_aload_n hx hb dX0_hasBar_5 rfl (lv_at hl 0 rfl) ?_
    refine va_get (D := D) (ci := 0) (v := .int (jI (sNb σ))) (C := RX0) (T := TX0) (N := 8) hx hb hts hinX0 hown hK hP 0 rfl rfl 0 (by decide) (hts (.fieldLink RX0 9 "BreakLines$Piece" "bars" "I") (by decide +kernel)) (fun _ h9 => h9) rfl dX0_hasBar_6 ?_
    refine j_icmp_ge (tgt := 16) hx hb (by unfold i32; omega) dX0_hasBar_9 (by decide) (fun c9 => ?_) (fun c9 => ?_)
    · skip
      refine j_iconst hx hb dX0_hasBar_16 ?_
      exact j_retZ hx hb hr (by decide) hlocks dX0_hasBar_17 ((jZ_f (by omega)).symm)
    · skip
      refine j_iconst hx hb dX0_hasBar_12 ?_
      refine lv_goto (tgt := 17) hx hb dX0_hasBar_13 (by decide) ?_
      exact j_retZ hx hb hr (by decide) hlocks dX0_hasBar_17 ((jZ_t (by omega)).symm)
set_option maxHeartbeats 4000000 in
set_option maxRecDepth 100000 in
theorem kX0_isMarked (l : Launch) (D : va_G) (cI cJ cZ : ClassId) (q : Nat → Nat) (σ : Sg) (la wa : Int → Int) (mk : Nat → Int32) (hok : okP σ la wa mk) (a m0 : Int) (h : (0 ≤ a ∧ a < 24) ∧ 0 ≤ m0 ∧ m0 < 3) : RoI l yX0_isMarked wsX0_isMarked 0 0 D (tyc cI cJ cZ) (wPc q cI (sNb σ) (sWd σ) (sPp σ) (sCt σ) (sCs σ) mk la wa) [.ref (q 0), .int (jI a), .int (jI m0)] (jZ (sM σ (3 * a + m0) = true)) := by
  refine j_start RX0 rfl (by decide) rfl (Nat.le_of_ble_eq_true rfl) ?_
  intro p e s m below meth c ls hx hb hr hlocks hml hown hts hnm hl ⟨hP, hK⟩
  have hP : va_P D vwCl (wPc q cI (sNb σ) (sWd σ) (sPp σ) (sCt σ) (sCs σ) mk la wa) s.heap := hP
  have hl : lv_has ls 3 [(0, .ref (q 0)), (1, .int (jI a)), (2, .int (jI m0))] := hl
  have hinX0 : ∀ w ∈ u_ws RX0 TX0 8, w ∈ wsX0_isMarked := by decide +kernel
  have e5 := hok.2.2 m0.toNat a.toNat (by omega) (by omega)
  rw [show (3 * (a.toNat : Int) + (m0.toNat : Int)) = 3 * a + m0 by omega] at e5
  refine lv_aload_n hx hb dX0_isMarked_0 rfl (lv_at hl 0 rfl) ?_
  refine va_get (D := D) (ci := 0) (v := .ref (q 2)) (C := RX0) (T := TX0) (N := 8) hx hb hts hinX0 hown hK hP 0 rfl rfl 5 (by decide) (hts (.fieldLink RX0 29 "BreakLines$Piece" "marked" "[I") (by decide +kernel)) (fun _ h9 => h9) rfl dX0_isMarked_1 ?_
  refine lv_iload_n hx hb dX0_isMarked_4 rfl (lv_at hl 2 rfl) ?_
  refine j_ialdR hx hb hK hP 2 0 rfl rfl (i := m0) (by omega) (by decide) dX0_isMarked_5 ?_
  refine lv_iload_n hx hb dX0_isMarked_6 rfl (lv_at hl 1 rfl) ?_
  refine lv_ishr hx hb dX0_isMarked_7 ?_
  refine j_iconst hx hb dX0_isMarked_8 ?_
  refine lv_iand hx hb dX0_isMarked_9 ?_
  refine j_iconst hx hb dX0_isMarked_10 ?_
  refine lv_icmp_ne (tgt := 18) hx hb dX0_isMarked_11 (by decide) (fun c11 => ?_) (fun c11 => ?_)
  · skip
    refine j_iconst hx hb dX0_isMarked_18 ?_
    exact j_retZ hx hb hr (by decide) hlocks dX0_isMarked_19 ((jZ_f (by rw [← e5]; first | exact (bt_mark _ (by omega) (by omega)).mp c11 | exact fun z => c11 ((bt_mark _ (by omega) (by omega)).mpr z))).symm)
  · skip
    refine j_iconst hx hb dX0_isMarked_14 ?_
    refine lv_goto (tgt := 19) hx hb dX0_isMarked_15 (by decide) ?_
    exact j_retZ hx hb hr (by decide) hlocks dX0_isMarked_19 ((jZ_t (by rw [← e5]; first | exact (bt_mark _ (by omega) (by omega)).mp c11 | exact fun z => c11 ((bt_mark _ (by omega) (by omega)).mpr z))).symm)
set_option maxHeartbeats 4000000 in
set_option maxRecDepth 100000 in
theorem kX0_leastOf (l : Launch) (D : va_G) (cI cJ cZ : ClassId) (q : Nat → Nat) (σ : Sg) (la wa : Int → Int) (mk : Nat → Int32) (hok : okP σ la wa mk) (a b : Int) (h : 0 ≤ a ∧ a ≤ b ∧ b < sNb σ) : RoI l yX0_leastOf wsX0_leastOf 0 0 D (tyc cI cJ cZ) (wPc q cI (sNb σ) (sWd σ) (sPp σ) (sCt σ) (sCs σ) mk la wa) [.ref (q 0), .int (jI a), .int (jI b)] (jI (tot (sLs σ) a b)) := by
  refine j_start RX0 rfl (by decide) rfl (Nat.le_of_ble_eq_true rfl) ?_
  intro p e s m below meth c ls hx hb hr hlocks hml hown hts hnm hl ⟨hP, hK⟩
  have hP : va_P D vwCl (wPc q cI (sNb σ) (sWd σ) (sPp σ) (sCt σ) (sCs σ) mk la wa) s.heap := hP
  have hl : lv_has ls 3 [(0, .ref (q 0)), (1, .int (jI a)), (2, .int (jI b))] := hl
  have hinX0 : ∀ w ∈ u_ws RX0 TX0 8, w ∈ wsX0_leastOf := by decide +kernel
  have hS0 := hok.1
  have hnb := hS0.1
  have hwd := hS0.2.1
  have hpp := hS0.2.2.1
  have e1 := hok.2.1 (b + 1) (by omega) (by omega)
  have e2 := hok.2.1 a (by omega) (by omega)
  have e3 := preB hS0 (a := a) (b := b + 1) (by omega) (by omega) (by omega)
  have e4 := preB hS0 (a := 0) (b := a) (by omega) (by omega) (by omega)
  rw [pre_0, pre_0] at e4
  refine lv_aload_n hx hb dX0_leastOf_0 rfl (lv_at hl 0 rfl) ?_
  refine va_get (D := D) (ci := 0) (v := .ref (q 3)) (C := RX0) (T := TX0) (N := 8) hx hb hts hinX0 hown hK hP 0 rfl rfl 6 (by decide) (hts (.fieldLink RX0 32 "BreakLines$Piece" "leastAhead" "[I") (by decide +kernel)) (fun _ h9 => h9) rfl dX0_leastOf_1 ?_
  refine lv_iload_n hx hb dX0_leastOf_4 rfl (lv_at hl 2 rfl) ?_
  refine j_iconst hx hb dX0_leastOf_5 ?_
  refine j_iadd hx hb dX0_leastOf_6 ?_
  refine j_iald hx hb hK hP 3 0 rfl rfl (i := b + 1) (by omega) (by decide) dX0_leastOf_7 ?_
  refine lv_aload_n hx hb dX0_leastOf_8 rfl (lv_at hl 0 rfl) ?_
  refine va_get (D := D) (ci := 0) (v := .ref (q 3)) (C := RX0) (T := TX0) (N := 8) hx hb hts hinX0 hown hK hP 0 rfl rfl 6 (by decide) (hts (.fieldLink RX0 32 "BreakLines$Piece" "leastAhead" "[I") (by decide +kernel)) (fun _ h9 => h9) rfl dX0_leastOf_9 ?_
  refine lv_iload_n hx hb dX0_leastOf_12 rfl (lv_at hl 1 rfl) ?_
  refine j_iald hx hb hK hP 3 0 rfl rfl (i := a) (by omega) (by decide) dX0_leastOf_13 ?_
  refine j_isub hx hb dX0_leastOf_14 ?_
  exact j_retI hx hb hr hlocks dX0_leastOf_15 (congrArg jI (by unfold tot; omega))
set_option maxHeartbeats 4000000 in
set_option maxRecDepth 100000 in
theorem kX0_wishedOf (l : Launch) (D : va_G) (cI cJ cZ : ClassId) (q : Nat → Nat) (σ : Sg) (la wa : Int → Int) (mk : Nat → Int32) (hok : okP σ la wa mk) (a b : Int) (h : 0 ≤ a ∧ a ≤ b ∧ b < sNb σ) : RoI l yX0_wishedOf wsX0_wishedOf 0 0 D (tyc cI cJ cZ) (wPc q cI (sNb σ) (sWd σ) (sPp σ) (sCt σ) (sCs σ) mk la wa) [.ref (q 0), .int (jI a), .int (jI b)] (jI (tot (sWs σ) a b)) := by
  refine j_start RX0 rfl (by decide) rfl (Nat.le_of_ble_eq_true rfl) ?_
  intro p e s m below meth c ls hx hb hr hlocks hml hown hts hnm hl ⟨hP, hK⟩
  have hP : va_P D vwCl (wPc q cI (sNb σ) (sWd σ) (sPp σ) (sCt σ) (sCs σ) mk la wa) s.heap := hP
  have hl : lv_has ls 3 [(0, .ref (q 0)), (1, .int (jI a)), (2, .int (jI b))] := hl
  have hinX0 : ∀ w ∈ u_ws RX0 TX0 8, w ∈ wsX0_wishedOf := by decide +kernel
  have hS0 := hok.1
  have hnb := hS0.1
  have hwd := hS0.2.1
  have hpp := hS0.2.2.1
  have e1 := hok.2.1 (b + 1) (by omega) (by omega)
  have e2 := hok.2.1 a (by omega) (by omega)
  have e3 := preB hS0 (a := a) (b := b + 1) (by omega) (by omega) (by omega)
  have e4 := preB hS0 (a := 0) (b := a) (by omega) (by omega) (by omega)
  rw [pre_0, pre_0] at e4
  refine lv_aload_n hx hb dX0_wishedOf_0 rfl (lv_at hl 0 rfl) ?_
  refine va_get (D := D) (ci := 0) (v := .ref (q 4)) (C := RX0) (T := TX0) (N := 8) hx hb hts hinX0 hown hK hP 0 rfl rfl 7 (by decide) (hts (.fieldLink RX0 35 "BreakLines$Piece" "wishedAhead" "[I") (by decide +kernel)) (fun _ h9 => h9) rfl dX0_wishedOf_1 ?_
  refine lv_iload_n hx hb dX0_wishedOf_4 rfl (lv_at hl 2 rfl) ?_
  refine j_iconst hx hb dX0_wishedOf_5 ?_
  refine j_iadd hx hb dX0_wishedOf_6 ?_
  refine j_iald hx hb hK hP 4 0 rfl rfl (i := b + 1) (by omega) (by decide) dX0_wishedOf_7 ?_
  refine lv_aload_n hx hb dX0_wishedOf_8 rfl (lv_at hl 0 rfl) ?_
  refine va_get (D := D) (ci := 0) (v := .ref (q 4)) (C := RX0) (T := TX0) (N := 8) hx hb hts hinX0 hown hK hP 0 rfl rfl 7 (by decide) (hts (.fieldLink RX0 35 "BreakLines$Piece" "wishedAhead" "[I") (by decide +kernel)) (fun _ h9 => h9) rfl dX0_wishedOf_9 ?_
  refine lv_iload_n hx hb dX0_wishedOf_12 rfl (lv_at hl 1 rfl) ?_
  refine j_iald hx hb hK hP 4 0 rfl rfl (i := a) (by omega) (by decide) dX0_wishedOf_13 ?_
  refine j_isub hx hb dX0_wishedOf_14 ?_
  exact j_retI hx hb hr hlocks dX0_wishedOf_15 (congrArg jI (by unfold tot; omega))
set_option maxHeartbeats 4000000 in
set_option maxRecDepth 100000 in
theorem kX0_spare (l : Launch) (D : va_G) (cI cJ cZ : ClassId) (q : Nat → Nat) (σ : Sg) (la wa : Int → Int) (mk : Nat → Int32) (hok : okP σ la wa mk) (a b : Int) (h : 0 ≤ a ∧ a ≤ b ∧ b < sNb σ) : RoI l yX0_spare wsX0_spare 1 22 D (tyc cI cJ cZ) (wPc q cI (sNb σ) (sWd σ) (sPp σ) (sCt σ) (sCs σ) mk la wa) [.ref (q 0), .int (jI a), .int (jI b)] (jI (dd σ a b)) := by
  refine j_start RX0 rfl (by decide) rfl (Nat.le_of_ble_eq_true rfl) ?_
  intro p e s m below meth c ls hx hb hr hlocks hml hown hts hnm hl ⟨hP, hK⟩
  have hP : va_P D vwCl (wPc q cI (sNb σ) (sWd σ) (sPp σ) (sCt σ) (sCs σ) mk la wa) s.heap := hP
  have hl : lv_has ls 3 [(0, .ref (q 0)), (1, .int (jI a)), (2, .int (jI b))] := hl
  have hinX0 : ∀ w ∈ u_ws RX0 TX0 8, w ∈ wsX0_spare := by decide +kernel
  have hS0 := hok.1
  have hnb := hS0.1
  have hwd := hS0.2.1
  have hpp := hS0.2.2.1
  have e1 := hok.2.1 (b + 1) (by omega) (by omega)
  have e2 := hok.2.1 a (by omega) (by omega)
  have e3 := preB hS0 (a := a) (b := b + 1) (by omega) (by omega) (by omega)
  have e4 := preB hS0 (a := 0) (b := a) (by omega) (by omega) (by omega)
  rw [pre_0, pre_0] at e4
  refine lv_aload_n hx hb dX0_spare_0 rfl (lv_at hl 0 rfl) ?_
  refine va_get (D := D) (ci := 0) (v := .int (jI (sWd σ))) (C := RX0) (T := TX0) (N := 8) hx hb hts hinX0 hown hK hP 0 rfl rfl 1 (by decide) (hts (.fieldLink RX0 15 "BreakLines$Piece" "width" "I") (by decide +kernel)) (fun _ h9 => h9) rfl dX0_spare_1 ?_
  refine lv_aload_n hx hb dX0_spare_4 rfl (lv_at hl 0 rfl) ?_
  refine lv_iload_n hx hb dX0_spare_5 rfl (lv_at hl 1 rfl) ?_
  refine lv_iload_n hx hb dX0_spare_6 rfl (lv_at hl 2 rfl) ?_
  refine j_cVI (As := [.int (jI a), .int (jI b)]) (rest := [.int (jI (sWd σ))]) ⟨hx, hb, hml, hown, hts⟩ (kX0_wishedOf l D cI cJ cZ q σ la wa mk hok a b (by omega)) (cwV 2 hts gX0_spare_X0_wishedOf rfl rfl rfl (by decide +kernel) ⟨Nat.le_of_ble_eq_true rfl, Nat.le_of_ble_eq_true rfl⟩) hK hP (va_recv hK hP (ci := 0) (q0 := 0) rfl rfl) rfl hl.1 rfl (Nat.le_of_ble_eq_true rfl) ⟨Nat.zero_le _, Nat.zero_le _⟩ dX0_spare_7 ?_
  refine j_isub hx hb dX0_spare_10 ?_
  exact j_retI hx hb hr hlocks dX0_spare_11 rfl
set_option maxHeartbeats 4000000 in
set_option maxRecDepth 100000 in
theorem kX0_isOver (l : Launch) (D : va_G) (cI cJ cZ : ClassId) (q : Nat → Nat) (σ : Sg) (la wa : Int → Int) (mk : Nat → Int32) (hok : okP σ la wa mk) (a b : Int) (h : 0 ≤ a ∧ a ≤ b ∧ b < sNb σ) : RoI l yX0_isOver wsX0_isOver 0 0 D (tyc cI cJ cZ) (wPc q cI (sNb σ) (sWd σ) (sPp σ) (sCt σ) (sCs σ) mk la wa) [.ref (q 0), .int (jI a), .int (jI b)] (jZ (sWd σ < tot (sLs σ) a b)) := by
  refine j_start RX0 rfl (by decide) rfl (Nat.le_of_ble_eq_true rfl) ?_
  intro p e s m below meth c ls hx hb hr hlocks hml hown hts hnm hl ⟨hP, hK⟩
  have hP : va_P D vwCl (wPc q cI (sNb σ) (sWd σ) (sPp σ) (sCt σ) (sCs σ) mk la wa) s.heap := hP
  have hl : lv_has ls 3 [(0, .ref (q 0)), (1, .int (jI a)), (2, .int (jI b))] := hl
  have hinX0 : ∀ w ∈ u_ws RX0 TX0 8, w ∈ wsX0_isOver := by decide +kernel
  have hS0 := hok.1
  have hnb := hS0.1
  have hwd := hS0.2.1
  have hpp := hS0.2.2.1
  have e1 := hok.2.1 (b + 1) (by omega) (by omega)
  have e2 := hok.2.1 a (by omega) (by omega)
  have e3 := preB hS0 (a := a) (b := b + 1) (by omega) (by omega) (by omega)
  have e4 := preB hS0 (a := 0) (b := a) (by omega) (by omega) (by omega)
  rw [pre_0, pre_0] at e4
  refine lv_aload_n hx hb dX0_isOver_0 rfl (lv_at hl 0 rfl) ?_
  refine va_get (D := D) (ci := 0) (v := .ref (q 3)) (C := RX0) (T := TX0) (N := 8) hx hb hts hinX0 hown hK hP 0 rfl rfl 6 (by decide) (hts (.fieldLink RX0 32 "BreakLines$Piece" "leastAhead" "[I") (by decide +kernel)) (fun _ h9 => h9) rfl dX0_isOver_1 ?_
  refine lv_iload_n hx hb dX0_isOver_4 rfl (lv_at hl 2 rfl) ?_
  refine j_iconst hx hb dX0_isOver_5 ?_
  refine j_iadd hx hb dX0_isOver_6 ?_
  refine j_iald hx hb hK hP 3 0 rfl rfl (i := b + 1) (by omega) (by decide) dX0_isOver_7 ?_
  refine lv_aload_n hx hb dX0_isOver_8 rfl (lv_at hl 0 rfl) ?_
  refine va_get (D := D) (ci := 0) (v := .ref (q 3)) (C := RX0) (T := TX0) (N := 8) hx hb hts hinX0 hown hK hP 0 rfl rfl 6 (by decide) (hts (.fieldLink RX0 32 "BreakLines$Piece" "leastAhead" "[I") (by decide +kernel)) (fun _ h9 => h9) rfl dX0_isOver_9 ?_
  refine lv_iload_n hx hb dX0_isOver_12 rfl (lv_at hl 1 rfl) ?_
  refine j_iald hx hb hK hP 3 0 rfl rfl (i := a) (by omega) (by decide) dX0_isOver_13 ?_
  refine j_isub hx hb dX0_isOver_14 ?_
  refine lv_aload_n hx hb dX0_isOver_15 rfl (lv_at hl 0 rfl) ?_
  refine va_get (D := D) (ci := 0) (v := .int (jI (sWd σ))) (C := RX0) (T := TX0) (N := 8) hx hb hts hinX0 hown hK hP 0 rfl rfl 1 (by decide) (hts (.fieldLink RX0 15 "BreakLines$Piece" "width" "I") (by decide +kernel)) (fun _ h9 => h9) rfl dX0_isOver_16 ?_
  refine j_icmp_le (tgt := 26) hx hb (by unfold i32; omega) dX0_isOver_19 (by decide) (fun c19 => ?_) (fun c19 => ?_)
  · skip
    refine j_iconst hx hb dX0_isOver_26 ?_
    exact j_retZ hx hb hr (by decide) hlocks dX0_isOver_27 ((jZ_f (by unfold tot; omega)).symm)
  · skip
    refine j_iconst hx hb dX0_isOver_22 ?_
    refine lv_goto (tgt := 27) hx hb dX0_isOver_23 (by decide) ?_
    exact j_retZ hx hb hr (by decide) hlocks dX0_isOver_27 ((jZ_t (by unfold tot; omega)).symm)
set_option maxHeartbeats 4000000 in
set_option maxRecDepth 100000 in
theorem kX0_mayBe (l : Launch) (D : va_G) (cI cJ cZ : ClassId) (q : Nat → Nat) (σ : Sg) (la wa : Int → Int) (mk : Nat → Int32) (hok : okP σ la wa mk) (a b : Int) (h : 0 ≤ a ∧ a ≤ b ∧ b < sNb σ) : RoI l yX0_mayBe wsX0_mayBe 1 22 D (tyc cI cJ cZ) (wPc q cI (sNb σ) (sWd σ) (sPp σ) (sCt σ) (sCs σ) mk la wa) [.ref (q 0), .int (jI a), .int (jI b)] (jZ (may σ a b)) := by
  refine j_start RX0 rfl (by decide) rfl (Nat.le_of_ble_eq_true rfl) ?_
  intro p e s m below meth c ls hx hb hr hlocks hml hown hts hnm hl ⟨hP, hK⟩
  have hP : va_P D vwCl (wPc q cI (sNb σ) (sWd σ) (sPp σ) (sCt σ) (sCs σ) mk la wa) s.heap := hP
  have hl : lv_has ls 4 [(0, .ref (q 0)), (1, .int (jI a)), (2, .int (jI b))] := hl
  have hinX0 : ∀ w ∈ u_ws RX0 TX0 8, w ∈ wsX0_mayBe := by decide +kernel
  have hS0 := hok.1
  have hnb := hS0.1
  have hwd := hS0.2.1
  have hpp := hS0.2.2.1
  have e1 := hok.2.1 (b + 1) (by omega) (by omega)
  have e2 := hok.2.1 a (by omega) (by omega)
  have e3 := preB hS0 (a := a) (b := b + 1) (by omega) (by omega) (by omega)
  have e4 := preB hS0 (a := 0) (b := a) (by omega) (by omega) (by omega)
  rw [pre_0, pre_0] at e4
  have ek : ∀ k : Int, a ≤ k → k < b → bt (mk (Int.toNat 0)) k.toNat = sM σ (3 * k) := fun k h1 h2 => by
    have e5 := hok.2.2 0 k.toNat (by omega) (by omega)
    rw [show (3 * (k.toNat : Int) + ((0 : Nat) : Int)) = 3 * k by omega] at e5
    exact e5
  refine j_iconst hx hb dX0_mayBe_0 ?_
  refine lv_iload_n hx hb dX0_mayBe_1 rfl (lv_at hl 2 rfl) ?_
  refine lv_ishl hx hb dX0_mayBe_2 ?_
  refine j_topi (y := (jI (2 ^ b.toNat))) (jI_bit (by omega) (by omega)) ?_
  refine j_iconst hx hb dX0_mayBe_3 ?_
  refine lv_iload_n hx hb dX0_mayBe_4 rfl (lv_at hl 1 rfl) ?_
  refine lv_ishl hx hb dX0_mayBe_5 ?_
  refine j_topi (y := (jI (2 ^ a.toNat))) (jI_bit (by omega) (by omega)) ?_
  refine j_isub hx hb dX0_mayBe_6 ?_
  refine lv_istore_n (lv' := [(3, .int (jI ((2 ^ b.toNat) - (2 ^ a.toNat)))), (0, .ref (q 0)), (1, .int (jI a)), (2, .int (jI b))]) hx hb dX0_mayBe_7 rfl hl (by decide) rfl (fun ls hl => ?_)
  refine lv_aload_n hx hb dX0_mayBe_8 rfl (lv_at hl 1 rfl) ?_
  refine va_get (D := D) (ci := 0) (v := .ref (q 2)) (C := RX0) (T := TX0) (N := 8) hx hb hts hinX0 hown hK hP 0 rfl rfl 5 (by decide) (hts (.fieldLink RX0 29 "BreakLines$Piece" "marked" "[I") (by decide +kernel)) (fun _ h9 => h9) rfl dX0_mayBe_9 ?_
  refine j_iconst hx hb dX0_mayBe_12 ?_
  refine j_ialdR hx hb hK hP 2 0 rfl rfl (i := 0) (by omega) (by decide) dX0_mayBe_13 ?_
  refine lv_iload_n hx hb dX0_mayBe_14 rfl (lv_at hl 0 rfl) ?_
  refine lv_iand hx hb dX0_mayBe_15 ?_
  refine lv_if_eq (tgt := 21) hx hb dX0_mayBe_16 (by decide) (fun c16 => ?_) (fun c16 => ?_)
  · skip
    refine lv_aload_n hx hb dX0_mayBe_21 rfl (lv_at hl 1 rfl) ?_
    refine lv_iload_n hx hb dX0_mayBe_22 rfl (lv_at hl 3 rfl) ?_
    refine j_iconst hx hb dX0_mayBe_23 ?_
    refine j_cVI (As := [.int (jI b), .int (jI 1)]) (rest := []) ⟨hx, hb, hml, hown, hts⟩ (kX0_isMarked l D cI cJ cZ q σ la wa mk hok b 1 (by omega)) (cwV 2 hts gX0_mayBe_X0_isMarked rfl rfl rfl (by decide +kernel) ⟨Nat.le_of_ble_eq_true rfl, Nat.le_of_ble_eq_true rfl⟩) hK hP (va_recv hK hP (ci := 0) (q0 := 0) rfl rfl) rfl hl.1 rfl (Nat.le_of_ble_eq_true rfl) ⟨Nat.zero_le _, Nat.zero_le _⟩ dX0_mayBe_24 ?_
    refine j_ifeqZ (tgt := 51) hx hb dX0_mayBe_27 (by decide) (fun c27 => ?_) (fun c27 => ?_)
    · skip
      refine lv_iload_n hx hb dX0_mayBe_51 rfl (lv_at hl 2 rfl) ?_
      refine lv_iload_n hx hb dX0_mayBe_52 rfl (lv_at hl 3 rfl) ?_
      refine j_icmp_eq (tgt := 65) hx hb (by unfold i32; omega) dX0_mayBe_53 (by decide) (fun c53 => ?_) (fun c53 => ?_)
      · skip
        refine j_iconst hx hb dX0_mayBe_65 ?_
        refine lv_goto (tgt := 70) hx hb dX0_mayBe_66 (by decide) ?_
        exact j_retZ hx hb hr (by decide) hlocks dX0_mayBe_70 ((jZ_t ⟨(fun k h1 h2 => by have z := (bt_may (by omega) (by omega) (by omega)).mp c16 k h1 h2; rw [ek k h1 h2] at z; exact z), (by first | (left; simp_all; done) | (right; left; simp_all; done) | (right; right; omega)), (by first | exact Or.inl c53 | exact Or.inr c62)⟩).symm)
      · skip
        refine lv_aload_n hx hb dX0_mayBe_56 rfl (lv_at hl 1 rfl) ?_
        refine lv_iload_n hx hb dX0_mayBe_57 rfl (lv_at hl 2 rfl) ?_
        refine lv_iload_n hx hb dX0_mayBe_58 rfl (lv_at hl 3 rfl) ?_
        refine j_cVI (As := [.int (jI a), .int (jI b)]) (rest := []) ⟨hx, hb, hml, hown, hts⟩ (kX0_isOver l D cI cJ cZ q σ la wa mk hok a b (by omega)) (cwV 2 hts gX0_mayBe_X0_isOver rfl rfl rfl (by decide +kernel) ⟨Nat.le_of_ble_eq_true rfl, Nat.le_of_ble_eq_true rfl⟩) hK hP (va_recv hK hP (ci := 0) (q0 := 0) rfl rfl) rfl hl.1 rfl (Nat.le_of_ble_eq_true rfl) ⟨Nat.zero_le _, Nat.zero_le _⟩ dX0_mayBe_59 ?_
        refine j_ifneZ (tgt := 69) hx hb dX0_mayBe_62 (by decide) (fun c62 => ?_) (fun c62 => ?_)
        · skip
          refine j_iconst hx hb dX0_mayBe_69 ?_
          exact j_retZ hx hb hr (by decide) hlocks dX0_mayBe_70 ((jZ_f (fun z => by rcases z.2.2 with q | q <;> simp_all)).symm)
        · skip
          refine j_iconst hx hb dX0_mayBe_65 ?_
          refine lv_goto (tgt := 70) hx hb dX0_mayBe_66 (by decide) ?_
          exact j_retZ hx hb hr (by decide) hlocks dX0_mayBe_70 ((jZ_t ⟨(fun k h1 h2 => by have z := (bt_may (by omega) (by omega) (by omega)).mp c16 k h1 h2; rw [ek k h1 h2] at z; exact z), (by first | (left; simp_all; done) | (right; left; simp_all; done) | (right; right; omega)), (by first | exact Or.inl c53 | exact Or.inr c62)⟩).symm)
    · skip
      refine lv_aload_n hx hb dX0_mayBe_30 rfl (lv_at hl 1 rfl) ?_
      refine lv_iload_n hx hb dX0_mayBe_31 rfl (lv_at hl 3 rfl) ?_
      refine j_iconst hx hb dX0_mayBe_32 ?_
      refine j_cVI (As := [.int (jI b), .int (jI 0)]) (rest := []) ⟨hx, hb, hml, hown, hts⟩ (kX0_isMarked l D cI cJ cZ q σ la wa mk hok b 0 (by omega)) (cwV 2 hts gX0_mayBe_X0_isMarked rfl rfl rfl (by decide +kernel) ⟨Nat.le_of_ble_eq_true rfl, Nat.le_of_ble_eq_true rfl⟩) hK hP (va_recv hK hP (ci := 0) (q0 := 0) rfl rfl) rfl hl.1 rfl (Nat.le_of_ble_eq_true rfl) ⟨Nat.zero_le _, Nat.zero_le _⟩ dX0_mayBe_33 ?_
      refine j_ifneZ (tgt := 51) hx hb dX0_mayBe_36 (by decide) (fun c36 => ?_) (fun c36 => ?_)
      · skip
        refine lv_iload_n hx hb dX0_mayBe_51 rfl (lv_at hl 2 rfl) ?_
        refine lv_iload_n hx hb dX0_mayBe_52 rfl (lv_at hl 3 rfl) ?_
        refine j_icmp_eq (tgt := 65) hx hb (by unfold i32; omega) dX0_mayBe_53 (by decide) (fun c53 => ?_) (fun c53 => ?_)
        · skip
          refine j_iconst hx hb dX0_mayBe_65 ?_
          refine lv_goto (tgt := 70) hx hb dX0_mayBe_66 (by decide) ?_
          exact j_retZ hx hb hr (by decide) hlocks dX0_mayBe_70 ((jZ_t ⟨(fun k h1 h2 => by have z := (bt_may (by omega) (by omega) (by omega)).mp c16 k h1 h2; rw [ek k h1 h2] at z; exact z), (by first | (left; simp_all; done) | (right; left; simp_all; done) | (right; right; omega)), (by first | exact Or.inl c53 | exact Or.inr c62)⟩).symm)
        · skip
          refine lv_aload_n hx hb dX0_mayBe_56 rfl (lv_at hl 1 rfl) ?_
          refine lv_iload_n hx hb dX0_mayBe_57 rfl (lv_at hl 2 rfl) ?_
          refine lv_iload_n hx hb dX0_mayBe_58 rfl (lv_at hl 3 rfl) ?_
          refine j_cVI (As := [.int (jI a), .int (jI b)]) (rest := []) ⟨hx, hb, hml, hown, hts⟩ (kX0_isOver l D cI cJ cZ q σ la wa mk hok a b (by omega)) (cwV 2 hts gX0_mayBe_X0_isOver rfl rfl rfl (by decide +kernel) ⟨Nat.le_of_ble_eq_true rfl, Nat.le_of_ble_eq_true rfl⟩) hK hP (va_recv hK hP (ci := 0) (q0 := 0) rfl rfl) rfl hl.1 rfl (Nat.le_of_ble_eq_true rfl) ⟨Nat.zero_le _, Nat.zero_le _⟩ dX0_mayBe_59 ?_
          refine j_ifneZ (tgt := 69) hx hb dX0_mayBe_62 (by decide) (fun c62 => ?_) (fun c62 => ?_)
          · skip
            refine j_iconst hx hb dX0_mayBe_69 ?_
            exact j_retZ hx hb hr (by decide) hlocks dX0_mayBe_70 ((jZ_f (fun z => by rcases z.2.2 with q | q <;> simp_all)).symm)
          · skip
            refine j_iconst hx hb dX0_mayBe_65 ?_
            refine lv_goto (tgt := 70) hx hb dX0_mayBe_66 (by decide) ?_
            exact j_retZ hx hb hr (by decide) hlocks dX0_mayBe_70 ((jZ_t ⟨(fun k h1 h2 => by have z := (bt_may (by omega) (by omega) (by omega)).mp c16 k h1 h2; rw [ek k h1 h2] at z; exact z), (by first | (left; simp_all; done) | (right; left; simp_all; done) | (right; right; omega)), (by first | exact Or.inl c53 | exact Or.inr c62)⟩).symm)
      · skip
        refine lv_iload_n hx hb dX0_mayBe_39 rfl (lv_at hl 3 rfl) ?_
        refine lv_aload_n hx hb dX0_mayBe_40 rfl (lv_at hl 1 rfl) ?_
        refine va_get (D := D) (ci := 0) (v := .int (jI (sNb σ))) (C := RX0) (T := TX0) (N := 8) hx hb hts hinX0 hown hK hP 0 rfl rfl 0 (by decide) (hts (.fieldLink RX0 9 "BreakLines$Piece" "bars" "I") (by decide +kernel)) (fun _ h9 => h9) rfl dX0_mayBe_41 ?_
        refine j_iconst hx hb dX0_mayBe_44 ?_
        refine j_isub hx hb dX0_mayBe_45 ?_
        refine j_icmp_eq (tgt := 51) hx hb (by unfold i32; omega) dX0_mayBe_46 (by decide) (fun c46 => ?_) (fun c46 => ?_)
        · skip
          refine lv_iload_n hx hb dX0_mayBe_51 rfl (lv_at hl 2 rfl) ?_
          refine lv_iload_n hx hb dX0_mayBe_52 rfl (lv_at hl 3 rfl) ?_
          refine j_icmp_eq (tgt := 65) hx hb (by unfold i32; omega) dX0_mayBe_53 (by decide) (fun c53 => ?_) (fun c53 => ?_)
          · skip
            refine j_iconst hx hb dX0_mayBe_65 ?_
            refine lv_goto (tgt := 70) hx hb dX0_mayBe_66 (by decide) ?_
            exact j_retZ hx hb hr (by decide) hlocks dX0_mayBe_70 ((jZ_t ⟨(fun k h1 h2 => by have z := (bt_may (by omega) (by omega) (by omega)).mp c16 k h1 h2; rw [ek k h1 h2] at z; exact z), (by first | (left; simp_all; done) | (right; left; simp_all; done) | (right; right; omega)), (by first | exact Or.inl c53 | exact Or.inr c62)⟩).symm)
          · skip
            refine lv_aload_n hx hb dX0_mayBe_56 rfl (lv_at hl 1 rfl) ?_
            refine lv_iload_n hx hb dX0_mayBe_57 rfl (lv_at hl 2 rfl) ?_
            refine lv_iload_n hx hb dX0_mayBe_58 rfl (lv_at hl 3 rfl) ?_
            refine j_cVI (As := [.int (jI a), .int (jI b)]) (rest := []) ⟨hx, hb, hml, hown, hts⟩ (kX0_isOver l D cI cJ cZ q σ la wa mk hok a b (by omega)) (cwV 2 hts gX0_mayBe_X0_isOver rfl rfl rfl (by decide +kernel) ⟨Nat.le_of_ble_eq_true rfl, Nat.le_of_ble_eq_true rfl⟩) hK hP (va_recv hK hP (ci := 0) (q0 := 0) rfl rfl) rfl hl.1 rfl (Nat.le_of_ble_eq_true rfl) ⟨Nat.zero_le _, Nat.zero_le _⟩ dX0_mayBe_59 ?_
            refine j_ifneZ (tgt := 69) hx hb dX0_mayBe_62 (by decide) (fun c62 => ?_) (fun c62 => ?_)
            · skip
              refine j_iconst hx hb dX0_mayBe_69 ?_
              exact j_retZ hx hb hr (by decide) hlocks dX0_mayBe_70 ((jZ_f (fun z => by rcases z.2.2 with q | q <;> simp_all)).symm)
            · skip
              refine j_iconst hx hb dX0_mayBe_65 ?_
              refine lv_goto (tgt := 70) hx hb dX0_mayBe_66 (by decide) ?_
              exact j_retZ hx hb hr (by decide) hlocks dX0_mayBe_70 ((jZ_t ⟨(fun k h1 h2 => by have z := (bt_may (by omega) (by omega) (by omega)).mp c16 k h1 h2; rw [ek k h1 h2] at z; exact z), (by first | (left; simp_all; done) | (right; left; simp_all; done) | (right; right; omega)), (by first | exact Or.inl c53 | exact Or.inr c62)⟩).symm)
        · skip
          refine j_iconst hx hb dX0_mayBe_49 ?_
          exact j_retZ hx hb hr (by decide) hlocks dX0_mayBe_50 ((jZ_f (fun z => by rcases z.2.1 with q | q | q <;> simp_all)).symm)
  · skip
    refine j_iconst hx hb dX0_mayBe_19 ?_
    exact j_retZ hx hb hr (by decide) hlocks dX0_mayBe_20 ((jZ_f (fun z => c16 ((bt_may (by omega) (by omega) (by omega)).mpr (fun k h1 h2 => by rw [ek k h1 h2]; exact z.1 k h1 h2)))).symm)
set_option maxHeartbeats 4000000 in
set_option maxRecDepth 100000 in
theorem kX0_linePrice (l : Launch) (D : va_G) (cI cJ cZ : ClassId) (q : Nat → Nat) (σ : Sg) (la wa : Int → Int) (mk : Nat → Int32) (hok : okP σ la wa mk) (a b : Int) (h : 0 ≤ a ∧ a ≤ b ∧ b < sNb σ) : RoL l yX0_linePrice wsX0_linePrice 2 45 D (tyc cI cJ cZ) (wPc q cI (sNb σ) (sWd σ) (sPp σ) (sCt σ) (sCs σ) mk la wa) [.ref (q 0), .int (jI a), .int (jI b)] (jL (lpr σ a b)) := by
  refine j_start RX0 rfl (by decide) rfl (Nat.le_of_ble_eq_true rfl) ?_
  intro p e s m below meth c ls hx hb hr hlocks hml hown hts hnm hl ⟨hP, hK⟩
  have hP : va_P D vwCl (wPc q cI (sNb σ) (sWd σ) (sPp σ) (sCt σ) (sCs σ) mk la wa) s.heap := hP
  have hl : lv_has ls 5 [(0, .ref (q 0)), (1, .int (jI a)), (2, .int (jI b))] := hl
  have hinX0 : ∀ w ∈ u_ws RX0 TX0 8, w ∈ wsX0_linePrice := by decide +kernel
  have hS0 := hok.1
  have hnb := hS0.1
  have hwd := hS0.2.1
  have hpp := hS0.2.2.1
  have e1 := hok.2.1 (b + 1) (by omega) (by omega)
  have e2 := hok.2.1 a (by omega) (by omega)
  have e3 := preB hS0 (a := a) (b := b + 1) (by omega) (by omega) (by omega)
  have e4 := preB hS0 (a := 0) (b := a) (by omega) (by omega) (by omega)
  rw [pre_0, pre_0] at e4
  have c0 := hS0.2.2.2.2.1 0 (by omega) (by omega)
  have c3 := hS0.2.2.2.2.1 3 (by omega) (by omega)
  have c4 := hS0.2.2.2.2.1 4 (by omega) (by omega)
  have hdd : dd σ a b = sWd σ - (pre (sWs σ) (b + 1) - pre (sWs σ) a) := rfl
  refine lv_aload_n hx hb dX0_linePrice_0 rfl (lv_at hl 0 rfl) ?_
  refine lv_iload_n hx hb dX0_linePrice_1 rfl (lv_at hl 1 rfl) ?_
  refine lv_iload_n hx hb dX0_linePrice_2 rfl (lv_at hl 2 rfl) ?_
  refine j_cVI (As := [.int (jI a), .int (jI b)]) (rest := []) ⟨hx, hb, hml, hown, hts⟩ (kX0_mayBe l D cI cJ cZ q σ la wa mk hok a b (by omega)) (cwV 2 hts gX0_linePrice_X0_mayBe rfl rfl rfl (by decide +kernel) ⟨Nat.le_of_ble_eq_true rfl, Nat.le_of_ble_eq_true rfl⟩) hK hP (va_recv hK hP (ci := 0) (q0 := 0) rfl rfl) rfl hl.1 rfl (Nat.le_of_ble_eq_true rfl) ⟨Nat.zero_le _, Nat.zero_le _⟩ dX0_linePrice_3 ?_
  refine j_ifneZ (tgt := 13) hx hb dX0_linePrice_6 (by decide) (fun c6 => ?_) (fun c6 => ?_)
  · skip
    refine lv_aload_n hx hb dX0_linePrice_13 rfl (lv_at hl 0 rfl) ?_
    refine lv_iload_n hx hb dX0_linePrice_14 rfl (lv_at hl 1 rfl) ?_
    refine lv_iload_n hx hb dX0_linePrice_15 rfl (lv_at hl 2 rfl) ?_
    refine j_cVI (As := [.int (jI a), .int (jI b)]) (rest := []) ⟨hx, hb, hml, hown, hts⟩ (kX0_isOver l D cI cJ cZ q σ la wa mk hok a b (by omega)) (cwV 2 hts gX0_linePrice_X0_isOver rfl rfl rfl (by decide +kernel) ⟨Nat.le_of_ble_eq_true rfl, Nat.le_of_ble_eq_true rfl⟩) hK hP (va_recv hK hP (ci := 0) (q0 := 0) rfl rfl) rfl hl.1 rfl (Nat.le_of_ble_eq_true rfl) ⟨Nat.zero_le _, Nat.zero_le _⟩ dX0_linePrice_16 ?_
    refine j_ifeqZ (tgt := 30) hx hb dX0_linePrice_19 (by decide) (fun c19 => ?_) (fun c19 => ?_)
    · skip
      refine lv_aload_n hx hb dX0_linePrice_30 rfl (lv_at hl 0 rfl) ?_
      refine lv_iload_n hx hb dX0_linePrice_31 rfl (lv_at hl 1 rfl) ?_
      refine lv_iload_n hx hb dX0_linePrice_32 rfl (lv_at hl 2 rfl) ?_
      refine j_cVI (As := [.int (jI a), .int (jI b)]) (rest := []) ⟨hx, hb, hml, hown, hts⟩ (kX0_spare l D cI cJ cZ q σ la wa mk hok a b (by omega)) (cwV 2 hts gX0_linePrice_X0_spare rfl rfl rfl (by decide +kernel) ⟨Nat.le_of_ble_eq_true rfl, Nat.le_of_ble_eq_true rfl⟩) hK hP (va_recv hK hP (ci := 0) (q0 := 0) rfl rfl) rfl hl.1 rfl (Nat.le_of_ble_eq_true rfl) ⟨Nat.zero_le _, Nat.zero_le _⟩ dX0_linePrice_33 ?_
      refine j_i2l hx hb (by unfold i32; omega) dX0_linePrice_36 ?_
      refine lv_lstore_n (lv' := [(3, .long (jL (dd σ a b))), (0, .ref (q 0)), (1, .int (jI a)), (2, .int (jI b))]) hx hb dX0_linePrice_37 rfl hl (by decide) rfl (fun ls hl => ?_)
      refine lv_lload_n hx hb dX0_linePrice_38 rfl (lv_at hl 0 rfl) ?_
      refine j_lconst0 hx hb dX0_linePrice_39 ?_
      refine j_lcmp_ge (tgt := 56) hx hb (by unfold i64; omega) dX0_linePrice_40 dX0_linePrice_41 (by decide) (fun c40 => ?_) (fun c40 => ?_)
      · skip
        refine lv_iload_n hx hb dX0_linePrice_56 rfl (lv_at hl 3 rfl) ?_
        refine lv_aload_n hx hb dX0_linePrice_57 rfl (lv_at hl 1 rfl) ?_
        refine va_get (D := D) (ci := 0) (v := .int (jI (sNb σ))) (C := RX0) (T := TX0) (N := 8) hx hb hts hinX0 hown hK hP 0 rfl rfl 0 (by decide) (hts (.fieldLink RX0 9 "BreakLines$Piece" "bars" "I") (by decide +kernel)) (fun _ h9 => h9) rfl dX0_linePrice_58 ?_
        refine j_iconst hx hb dX0_linePrice_61 ?_
        refine j_isub hx hb dX0_linePrice_62 ?_
        refine j_icmp_ne (tgt := 70) hx hb (by unfold i32; omega) dX0_linePrice_63 (by decide) (fun c63 => ?_) (fun c63 => ?_)
        · skip
          refine lv_aload_n hx hb dX0_linePrice_70 rfl (lv_at hl 1 rfl) ?_
          refine va_get (D := D) (ci := 0) (v := .ref (q 1)) (C := RX0) (T := TX0) (N := 8) hx hb hts hinX0 hown hK hP 0 rfl rfl 4 (by decide) (hts (.fieldLink RX0 24 "BreakLines$Piece" "costs" "[I") (by decide +kernel)) (fun _ h9 => h9) rfl dX0_linePrice_71 ?_
          refine j_iconst hx hb dX0_linePrice_74 ?_
          refine j_iald hx hb hK hP 1 0 rfl rfl (i := 4) (by omega) (by decide) dX0_linePrice_75 ?_
          refine j_i2l hx hb (by unfold i32; omega) dX0_linePrice_76 ?_
          refine lv_lload_n hx hb dX0_linePrice_77 rfl (lv_at hl 0 rfl) ?_
          refine j_lmul hx hb dX0_linePrice_78 ?_
          refine lv_lload_n hx hb dX0_linePrice_79 rfl (lv_at hl 0 rfl) ?_
          refine j_lmul hx hb dX0_linePrice_80 ?_
          exact j_retL hx hb hr hlocks dX0_linePrice_81 (congrArg jL (by unfold lpr cst; rw [if_pos c6, if_neg c19, if_neg (by omega), if_neg c63]))
        · skip
          refine j_lconst0 hx hb dX0_linePrice_66 ?_
          refine lv_goto (tgt := 81) hx hb dX0_linePrice_67 (by decide) ?_
          exact j_retL hx hb hr hlocks dX0_linePrice_81 (congrArg jL (by unfold lpr cst; rw [if_pos c6, if_neg c19, if_neg (by omega), if_pos c63]))
      · skip
        refine lv_aload_n hx hb dX0_linePrice_44 rfl (lv_at hl 1 rfl) ?_
        refine va_get (D := D) (ci := 0) (v := .ref (q 1)) (C := RX0) (T := TX0) (N := 8) hx hb hts hinX0 hown hK hP 0 rfl rfl 4 (by decide) (hts (.fieldLink RX0 24 "BreakLines$Piece" "costs" "[I") (by decide +kernel)) (fun _ h9 => h9) rfl dX0_linePrice_45 ?_
        refine j_iconst hx hb dX0_linePrice_48 ?_
        refine j_iald hx hb hK hP 1 0 rfl rfl (i := 0) (by omega) (by decide) dX0_linePrice_49 ?_
        refine j_i2l hx hb (by unfold i32; omega) dX0_linePrice_50 ?_
        refine lv_lload_n hx hb dX0_linePrice_51 rfl (lv_at hl 0 rfl) ?_
        refine j_lmul hx hb dX0_linePrice_52 ?_
        refine lv_lload_n hx hb dX0_linePrice_53 rfl (lv_at hl 0 rfl) ?_
        refine j_lmul hx hb dX0_linePrice_54 ?_
        exact j_retL hx hb hr hlocks dX0_linePrice_55 (congrArg jL (by unfold lpr cst; rw [if_pos c6, if_neg c19, if_pos c40]))
    · skip
      refine lv_aload_n hx hb dX0_linePrice_22 rfl (lv_at hl 0 rfl) ?_
      refine va_get (D := D) (ci := 0) (v := .ref (q 1)) (C := RX0) (T := TX0) (N := 8) hx hb hts hinX0 hown hK hP 0 rfl rfl 4 (by decide) (hts (.fieldLink RX0 24 "BreakLines$Piece" "costs" "[I") (by decide +kernel)) (fun _ h9 => h9) rfl dX0_linePrice_23 ?_
      refine j_iconst hx hb dX0_linePrice_26 ?_
      refine j_iald hx hb hK hP 1 0 rfl rfl (i := 3) (by omega) (by decide) dX0_linePrice_27 ?_
      refine j_i2l hx hb (by unfold i32; omega) dX0_linePrice_28 ?_
      exact j_retL hx hb hr hlocks dX0_linePrice_29 (congrArg jL (by unfold lpr cst; rw [if_pos c6, if_pos c19]))
  · skip
    refine lv_ldc2 (v := jL (-1)) hx hb hown (hts (.constantLong RX0 55 (-1)) (by decide +kernel)) dX0_linePrice_9 ?_
    exact j_retL hx hb hr hlocks dX0_linePrice_12 (congrArg jL (by unfold lpr; rw [if_neg c6]))
set_option maxHeartbeats 4000000 in
set_option maxRecDepth 100000 in
theorem kX0_turnPrice (l : Launch) (D : va_G) (cI cJ cZ : ClassId) (q : Nat → Nat) (σ : Sg) (la wa : Int → Int) (mk : Nat → Int32) (hok : okP σ la wa mk) (a : Int) (h : 0 ≤ a ∧ a < sNb σ) : RoI l yX0_turnPrice wsX0_turnPrice 1 22 D (tyc cI cJ cZ) (wPc q cI (sNb σ) (sWd σ) (sPp σ) (sCt σ) (sCs σ) mk la wa) [.ref (q 0), .int (jI a)] (jI (trn σ a)) := by
  refine j_start RX0 rfl (by decide) rfl (Nat.le_of_ble_eq_true rfl) ?_
  intro p e s m below meth c ls hx hb hr hlocks hml hown hts hnm hl ⟨hP, hK⟩
  have hP : va_P D vwCl (wPc q cI (sNb σ) (sWd σ) (sPp σ) (sCt σ) (sCs σ) mk la wa) s.heap := hP
  have hl : lv_has ls 2 [(0, .ref (q 0)), (1, .int (jI a))] := hl
  have hinX0 : ∀ w ∈ u_ws RX0 TX0 8, w ∈ wsX0_turnPrice := by decide +kernel
  have hS0 := hok.1
  have hnb := hS0.1
  have hwd := hS0.2.1
  have hpp := hS0.2.2.1
  refine lv_aload_n hx hb dX0_turnPrice_0 rfl (lv_at hl 0 rfl) ?_
  refine lv_iload_n hx hb dX0_turnPrice_1 rfl (lv_at hl 1 rfl) ?_
  refine j_iconst hx hb dX0_turnPrice_2 ?_
  refine j_cVI (As := [.int (jI a), .int (jI 2)]) (rest := []) ⟨hx, hb, hml, hown, hts⟩ (kX0_isMarked l D cI cJ cZ q σ la wa mk hok a 2 (by omega)) (cwV 2 hts gX0_turnPrice_X0_isMarked rfl rfl rfl (by decide +kernel) ⟨Nat.le_of_ble_eq_true rfl, Nat.le_of_ble_eq_true rfl⟩) hK hP (va_recv hK hP (ci := 0) (q0 := 0) rfl rfl) rfl hl.1 rfl (Nat.le_of_ble_eq_true rfl) ⟨Nat.zero_le _, Nat.zero_le _⟩ dX0_turnPrice_3 ?_
  refine j_ifeqZ (tgt := 13) hx hb dX0_turnPrice_6 (by decide) (fun c6 => ?_) (fun c6 => ?_)
  · skip
    refine lv_aload_n hx hb dX0_turnPrice_13 rfl (lv_at hl 0 rfl) ?_
    refine va_get (D := D) (ci := 0) (v := .ref (q 1)) (C := RX0) (T := TX0) (N := 8) hx hb hts hinX0 hown hK hP 0 rfl rfl 4 (by decide) (hts (.fieldLink RX0 24 "BreakLines$Piece" "costs" "[I") (by decide +kernel)) (fun _ h9 => h9) rfl dX0_turnPrice_14 ?_
    refine j_iconst hx hb dX0_turnPrice_17 ?_
    refine j_iald hx hb hK hP 1 0 rfl rfl (i := 1) (by omega) (by decide) dX0_turnPrice_18 ?_
    exact j_retI hx hb hr hlocks dX0_turnPrice_19 (congrArg jI (by unfold trn; rw [if_neg c6]))
  · skip
    refine j_iconst hx hb dX0_turnPrice_9 ?_
    refine lv_goto (tgt := 19) hx hb dX0_turnPrice_10 (by decide) ?_
    exact j_retI hx hb hr hlocks dX0_turnPrice_19 (congrArg jI (by unfold trn; rw [if_pos c6]))
set_option maxHeartbeats 4000000 in
set_option maxRecDepth 100000 in
theorem kX0_share (l : Launch) (D : va_G) (cI cJ cZ : ClassId) (x y z : Int) (h : (0 ≤ x ∧ x < 10000) ∧ (0 ≤ y ∧ y < 10000) ∧ (0 < z ∧ z < 10000)) : RoI l yX0_share wsX0_share 0 0 D (tyc cI cJ cZ) ([]) [.int (jI x), .int (jI y), .int (jI z)] (jI (x * y / z)) := by
  refine j_start RX0 rfl (by decide) rfl (Nat.le_of_ble_eq_true rfl) ?_
  intro p e s m below meth c ls hx hb hr hlocks hml hown hts hnm hl ⟨hP, hK⟩
  have hP : va_P D vwCl ([]) s.heap := hP
  have hl : lv_has ls 3 [(0, .int (jI x)), (1, .int (jI y)), (2, .int (jI z))] := hl
  have h1 : x * y ≤ 10000 * 10000 := Int.mul_le_mul (by omega) (by omega) (by omega) (by omega)
  have h2 : 0 ≤ x * y := Int.mul_nonneg (by omega) (by omega)
  refine lv_iload_n hx hb dX0_share_0 rfl (lv_at hl 2 rfl) ?_
  refine j_if_le (tgt := 12) hx hb (by unfold i32; omega) dX0_share_1 (by decide) (fun c1 => ?_) (fun c1 => ?_)
  · exact absurd c1 (by omega)
  · skip
    refine lv_iload_n hx hb dX0_share_4 rfl (lv_at hl 0 rfl) ?_
    refine lv_iload_n hx hb dX0_share_5 rfl (lv_at hl 1 rfl) ?_
    refine j_imul hx hb dX0_share_6 ?_
    refine lv_iload_n hx hb dX0_share_7 rfl (lv_at hl 2 rfl) ?_
    refine j_idiv hx hb (by omega) dX0_share_8 ?_
    refine lv_goto (tgt := 13) hx hb dX0_share_9 (by decide) ?_
    exact j_retI hx hb hr hlocks dX0_share_13 rfl
set_option maxHeartbeats 4000000 in
set_option maxRecDepth 100000 in
theorem kX0_setAhead (l : Launch) (D : va_G) (cI cJ cZ : ClassId) (q : Nat → Nat) (σ : Sg) (la wa : Int → Int) (mk : Nat → Int32) (hok : okP σ la wa mk) (a b k : Int) (h : 0 ≤ a ∧ a ≤ b ∧ b < sNb σ ∧ a ≤ k ∧ k ≤ b + 1) : RoI l yX0_setAhead wsX0_setAhead 2 44 D (tyc cI cJ cZ) (wPc q cI (sNb σ) (sWd σ) (sPp σ) (sCt σ) (sCs σ) mk la wa) [.ref (q 0), .int (jI a), .int (jI b), .int (jI k)] (jI (ahd σ a b k)) := by
  refine j_start RX0 rfl (by decide) rfl (Nat.le_of_ble_eq_true rfl) ?_
  intro p e s m below meth c ls hx hb hr hlocks hml hown hts hnm hl ⟨hP, hK⟩
  have hP : va_P D vwCl (wPc q cI (sNb σ) (sWd σ) (sPp σ) (sCt σ) (sCs σ) mk la wa) s.heap := hP
  have hl : lv_has ls 7 [(0, .ref (q 0)), (1, .int (jI a)), (2, .int (jI b)), (3, .int (jI k))] := hl
  have hinX0 : ∀ w ∈ u_ws RX0 TX0 8, w ∈ wsX0_setAhead := by decide +kernel
  have hS0 := hok.1
  have hnb := hS0.1
  have hwd := hS0.2.1
  have hpp := hS0.2.2.1
  have e1 := hok.2.1 (b + 1) (by omega) (by omega)
  have e2 := hok.2.1 a (by omega) (by omega)
  have e3 := preB hS0 (a := a) (b := b + 1) (by omega) (by omega) (by omega)
  have e4 := preB hS0 (a := 0) (b := a) (by omega) (by omega) (by omega)
  rw [pre_0, pre_0] at e4
  have e5 := hok.2.1 k (by omega) (by omega)
  have e6 := preB hS0 (a := a) (b := k) (by omega) (by omega) (by omega)
  have e7 := preB hS0 (a := k) (b := b + 1) (by omega) (by omega) (by omega)
  have hdd : dd σ a b = sWd σ - (pre (sWs σ) (b + 1) - pre (sWs σ) a) := rfl
  have htw : tot (sWs σ) a b = pre (sWs σ) (b + 1) - pre (sWs σ) a := rfl
  have htl : tot (sLs σ) a b = pre (sLs σ) (b + 1) - pre (sLs σ) a := rfl
  refine lv_aload_n hx hb dX0_setAhead_0 rfl (lv_at hl 0 rfl) ?_
  refine va_get (D := D) (ci := 0) (v := .ref (q 3)) (C := RX0) (T := TX0) (N := 8) hx hb hts hinX0 hown hK hP 0 rfl rfl 6 (by decide) (hts (.fieldLink RX0 32 "BreakLines$Piece" "leastAhead" "[I") (by decide +kernel)) (fun _ h9 => h9) rfl dX0_setAhead_1 ?_
  refine lv_iload_n hx hb dX0_setAhead_4 rfl (lv_at hl 3 rfl) ?_
  refine j_iald hx hb hK hP 3 0 rfl rfl (i := k) (by omega) (by decide) dX0_setAhead_5 ?_
  refine lv_aload_n hx hb dX0_setAhead_6 rfl (lv_at hl 0 rfl) ?_
  refine va_get (D := D) (ci := 0) (v := .ref (q 3)) (C := RX0) (T := TX0) (N := 8) hx hb hts hinX0 hown hK hP 0 rfl rfl 6 (by decide) (hts (.fieldLink RX0 32 "BreakLines$Piece" "leastAhead" "[I") (by decide +kernel)) (fun _ h9 => h9) rfl dX0_setAhead_7 ?_
  refine lv_iload_n hx hb dX0_setAhead_10 rfl (lv_at hl 1 rfl) ?_
  refine j_iald hx hb hK hP 3 0 rfl rfl (i := a) (by omega) (by decide) dX0_setAhead_11 ?_
  refine j_isub hx hb dX0_setAhead_12 ?_
  refine lv_istore (lv' := [(4, .int (jI ((la k) - (la a)))), (0, .ref (q 0)), (1, .int (jI a)), (2, .int (jI b)), (3, .int (jI k))]) hx hb dX0_setAhead_13 hl (by decide) rfl (fun ls hl => ?_)
  refine lv_aload_n hx hb dX0_setAhead_15 rfl (lv_at hl 1 rfl) ?_
  refine va_get (D := D) (ci := 0) (v := .ref (q 4)) (C := RX0) (T := TX0) (N := 8) hx hb hts hinX0 hown hK hP 0 rfl rfl 7 (by decide) (hts (.fieldLink RX0 35 "BreakLines$Piece" "wishedAhead" "[I") (by decide +kernel)) (fun _ h9 => h9) rfl dX0_setAhead_16 ?_
  refine lv_iload_n hx hb dX0_setAhead_19 rfl (lv_at hl 4 rfl) ?_
  refine j_iald hx hb hK hP 4 0 rfl rfl (i := k) (by omega) (by decide) dX0_setAhead_20 ?_
  refine lv_aload_n hx hb dX0_setAhead_21 rfl (lv_at hl 1 rfl) ?_
  refine va_get (D := D) (ci := 0) (v := .ref (q 4)) (C := RX0) (T := TX0) (N := 8) hx hb hts hinX0 hown hK hP 0 rfl rfl 7 (by decide) (hts (.fieldLink RX0 35 "BreakLines$Piece" "wishedAhead" "[I") (by decide +kernel)) (fun _ h9 => h9) rfl dX0_setAhead_22 ?_
  refine lv_iload_n hx hb dX0_setAhead_25 rfl (lv_at hl 2 rfl) ?_
  refine j_iald hx hb hK hP 4 0 rfl rfl (i := a) (by omega) (by decide) dX0_setAhead_26 ?_
  refine j_isub hx hb dX0_setAhead_27 ?_
  refine lv_istore (lv' := [(5, .int (jI ((wa k) - (wa a)))), (4, .int (jI ((la k) - (la a)))), (0, .ref (q 0)), (1, .int (jI a)), (2, .int (jI b)), (3, .int (jI k))]) hx hb dX0_setAhead_28 hl (by decide) rfl (fun ls hl => ?_)
  refine lv_aload_n hx hb dX0_setAhead_30 rfl (lv_at hl 2 rfl) ?_
  refine lv_iload_n hx hb dX0_setAhead_31 rfl (lv_at hl 3 rfl) ?_
  refine lv_iload_n hx hb dX0_setAhead_32 rfl (lv_at hl 4 rfl) ?_
  refine j_cVI (As := [.int (jI a), .int (jI b)]) (rest := []) ⟨hx, hb, hml, hown, hts⟩ (kX0_isOver l D cI cJ cZ q σ la wa mk hok a b (by omega)) (cwV 2 hts gX0_setAhead_X0_isOver rfl rfl rfl (by decide +kernel) ⟨Nat.le_of_ble_eq_true rfl, Nat.le_of_ble_eq_true rfl⟩) hK hP (va_recv hK hP (ci := 0) (q0 := 0) rfl rfl) rfl hl.1 rfl (Nat.le_of_ble_eq_true rfl) ⟨Nat.zero_le _, Nat.zero_le _⟩ dX0_setAhead_33 ?_
  refine j_ifeqZ (tgt := 42) hx hb dX0_setAhead_36 (by decide) (fun c36 => ?_) (fun c36 => ?_)
  · skip
    refine lv_aload_n hx hb dX0_setAhead_42 rfl (lv_at hl 2 rfl) ?_
    refine lv_iload_n hx hb dX0_setAhead_43 rfl (lv_at hl 3 rfl) ?_
    refine lv_iload_n hx hb dX0_setAhead_44 rfl (lv_at hl 4 rfl) ?_
    refine j_cVI (As := [.int (jI a), .int (jI b)]) (rest := []) ⟨hx, hb, hml, hown, hts⟩ (kX0_spare l D cI cJ cZ q σ la wa mk hok a b (by omega)) (cwV 2 hts gX0_setAhead_X0_spare rfl rfl rfl (by decide +kernel) ⟨Nat.le_of_ble_eq_true rfl, Nat.le_of_ble_eq_true rfl⟩) hK hP (va_recv hK hP (ci := 0) (q0 := 0) rfl rfl) rfl hl.1 rfl (Nat.le_of_ble_eq_true rfl) ⟨Nat.zero_le _, Nat.zero_le _⟩ dX0_setAhead_45 ?_
    refine lv_istore (lv' := [(6, .int (jI (dd σ a b))), (5, .int (jI ((wa k) - (wa a)))), (4, .int (jI ((la k) - (la a)))), (0, .ref (q 0)), (1, .int (jI a)), (2, .int (jI b)), (3, .int (jI k))]) hx hb dX0_setAhead_48 hl (by decide) rfl (fun ls hl => ?_)
    refine lv_iload hx hb dX0_setAhead_50 (lv_at hl 0 rfl) ?_
    refine j_if_lt (tgt := 72) hx hb (by unfold i32; omega) dX0_setAhead_52 (by decide) (fun c52 => ?_) (fun c52 => ?_)
    · skip
      refine lv_iload hx hb dX0_setAhead_72 (lv_at hl 1 rfl) ?_
      refine lv_iload hx hb dX0_setAhead_74 (lv_at hl 0 rfl) ?_
      refine j_ineg hx hb dX0_setAhead_76 ?_
      refine lv_iload hx hb dX0_setAhead_77 (lv_at hl 1 rfl) ?_
      refine lv_iload hx hb dX0_setAhead_79 (lv_at hl 2 rfl) ?_
      refine j_isub hx hb dX0_setAhead_81 ?_
      refine lv_aload_n hx hb dX0_setAhead_82 rfl (lv_at hl 3 rfl) ?_
      refine lv_iload_n hx hb dX0_setAhead_83 rfl (lv_at hl 4 rfl) ?_
      refine lv_iload_n hx hb dX0_setAhead_84 rfl (lv_at hl 5 rfl) ?_
      refine j_cVI (As := [.int (jI a), .int (jI b)]) (rest := [.int (jI (((wa k) - (wa a)) - ((la k) - (la a)))), .int (jI (-(dd σ a b))), .int (jI ((wa k) - (wa a)))]) ⟨hx, hb, hml, hown, hts⟩ (kX0_wishedOf l D cI cJ cZ q σ la wa mk hok a b (by omega)) (cwV 2 hts gX0_setAhead_X0_wishedOf rfl rfl rfl (by decide +kernel) ⟨Nat.le_of_ble_eq_true rfl, Nat.le_of_ble_eq_true rfl⟩) hK hP (va_recv hK hP (ci := 0) (q0 := 0) rfl rfl) rfl hl.1 rfl (Nat.le_of_ble_eq_true rfl) ⟨Nat.zero_le _, Nat.zero_le _⟩ dX0_setAhead_85 ?_
      refine lv_aload_n hx hb dX0_setAhead_88 rfl (lv_at hl 3 rfl) ?_
      refine lv_iload_n hx hb dX0_setAhead_89 rfl (lv_at hl 4 rfl) ?_
      refine lv_iload_n hx hb dX0_setAhead_90 rfl (lv_at hl 5 rfl) ?_
      refine j_cVI (As := [.int (jI a), .int (jI b)]) (rest := [.int (jI (tot (sWs σ) a b)), .int (jI (((wa k) - (wa a)) - ((la k) - (la a)))), .int (jI (-(dd σ a b))), .int (jI ((wa k) - (wa a)))]) ⟨hx, hb, hml, hown, hts⟩ (kX0_leastOf l D cI cJ cZ q σ la wa mk hok a b (by omega)) (cwV 2 hts gX0_setAhead_X0_leastOf rfl rfl rfl (by decide +kernel) ⟨Nat.le_of_ble_eq_true rfl, Nat.le_of_ble_eq_true rfl⟩) hK hP (va_recv hK hP (ci := 0) (q0 := 0) rfl rfl) rfl hl.1 rfl (Nat.le_of_ble_eq_true rfl) ⟨Nat.zero_le _, Nat.zero_le _⟩ dX0_setAhead_91 ?_
      refine j_isub hx hb dX0_setAhead_94 ?_
      refine j_cSI (As := [.int (jI (-(dd σ a b))), .int (jI (((wa k) - (wa a)) - ((la k) - (la a)))), .int (jI ((tot (sWs σ) a b) - (tot (sLs σ) a b)))]) (rest := [.int (jI ((wa k) - (wa a)))]) ⟨hx, hb, hml, hown, hts⟩ (kX0_share l D cI cJ cZ (-(dd σ a b)) (((wa k) - (wa a)) - ((la k) - (la a))) ((tot (sWs σ) a b) - (tot (sLs σ) a b)) (by omega)) (va_cwS 3 hts gX0_setAhead_X0_share rfl rfl rfl (by decide +kernel) ⟨Nat.le_of_ble_eq_true rfl, Nat.le_of_ble_eq_true rfl⟩) hK (hP.sub [] rfl) rfl hl.1 rfl (Nat.le_of_ble_eq_true rfl) ⟨Nat.zero_le _, Nat.zero_le _⟩ dX0_setAhead_95 ?_
      refine j_isub hx hb dX0_setAhead_98 ?_
      exact j_retI hx hb hr hlocks dX0_setAhead_99 (congrArg jI (by unfold ahd; rw [if_neg c36, if_neg (by omega), show wa k - wa a = pre (sWs σ) k - pre (sWs σ) a by omega, show la k - la a = pre (sLs σ) k - pre (sLs σ) a by omega]))
    · skip
      refine lv_iload hx hb dX0_setAhead_55 (lv_at hl 1 rfl) ?_
      refine lv_iload hx hb dX0_setAhead_57 (lv_at hl 0 rfl) ?_
      refine lv_iload hx hb dX0_setAhead_59 (lv_at hl 1 rfl) ?_
      refine lv_aload_n hx hb dX0_setAhead_61 rfl (lv_at hl 3 rfl) ?_
      refine lv_iload_n hx hb dX0_setAhead_62 rfl (lv_at hl 4 rfl) ?_
      refine lv_iload_n hx hb dX0_setAhead_63 rfl (lv_at hl 5 rfl) ?_
      refine j_cVI (As := [.int (jI a), .int (jI b)]) (rest := [.int (jI ((wa k) - (wa a))), .int (jI (dd σ a b)), .int (jI ((wa k) - (wa a)))]) ⟨hx, hb, hml, hown, hts⟩ (kX0_wishedOf l D cI cJ cZ q σ la wa mk hok a b (by omega)) (cwV 2 hts gX0_setAhead_X0_wishedOf rfl rfl rfl (by decide +kernel) ⟨Nat.le_of_ble_eq_true rfl, Nat.le_of_ble_eq_true rfl⟩) hK hP (va_recv hK hP (ci := 0) (q0 := 0) rfl rfl) rfl hl.1 rfl (Nat.le_of_ble_eq_true rfl) ⟨Nat.zero_le _, Nat.zero_le _⟩ dX0_setAhead_64 ?_
      refine j_cSI (As := [.int (jI (dd σ a b)), .int (jI ((wa k) - (wa a))), .int (jI (tot (sWs σ) a b))]) (rest := [.int (jI ((wa k) - (wa a)))]) ⟨hx, hb, hml, hown, hts⟩ (kX0_share l D cI cJ cZ (dd σ a b) ((wa k) - (wa a)) (tot (sWs σ) a b) (by omega)) (va_cwS 3 hts gX0_setAhead_X0_share rfl rfl rfl (by decide +kernel) ⟨Nat.le_of_ble_eq_true rfl, Nat.le_of_ble_eq_true rfl⟩) hK (hP.sub [] rfl) rfl hl.1 rfl (Nat.le_of_ble_eq_true rfl) ⟨Nat.zero_le _, Nat.zero_le _⟩ dX0_setAhead_67 ?_
      refine j_iadd hx hb dX0_setAhead_70 ?_
      exact j_retI hx hb hr hlocks dX0_setAhead_71 (congrArg jI (by unfold ahd; rw [if_neg c36, if_pos (by omega), show wa k - wa a = pre (sWs σ) k - pre (sWs σ) a by omega]))
  · skip
    refine lv_iload hx hb dX0_setAhead_39 (lv_at hl 1 rfl) ?_
    exact j_retI hx hb hr hlocks dX0_setAhead_41 (congrArg jI (by unfold ahd; rw [if_pos c36]; omega))
set_option maxHeartbeats 4000000 in
set_option maxRecDepth 100000 in
theorem kX0_addBar (l : Launch) (D : va_G) (cI cJ cZ : ClassId) (q : Nat → Nat) (σ : Sg) (la wa : Int → Int) (mk : Nat → Int32) (hok : okP σ la wa mk) (x y : Int) (h : sNb σ < 24) : MuI l yX0_addBar wsX0_addBar 0 0 D (tyc cI cJ cZ) (wPc q cI (sNb σ) (sWd σ) (sPp σ) (sCt σ) (sCs σ) mk la wa) [.ref (q 0), .int (jI x), .int (jI y)] (fun (r : Int32) (_ : Unit) => r = jI (sNb σ)) (fun _ => wPc q cI (sNb σ + 1) (sWd σ) (sPp σ) (sCt σ) (sCs σ) mk (updI la (sNb σ + 1) (la (sNb σ) + x)) (updI wa (sNb σ + 1) (wa (sNb σ) + y))) := by
  intro sz
  refine j_start RX0 rfl (by decide) rfl (Nat.le_of_ble_eq_true rfl) ?_
  intro p e s m below meth c ls hx hb hr hlocks hml hown hts hnm hl ⟨hsz, hP, hK, hD0⟩
  subst hsz
  have hD := hD0.self (sz := s.heap.size)
  generalize hAe : va_A (wPc q cI (sNb σ) (sWd σ) (sPp σ) (sCt σ) (sCs σ) mk la wa) s.heap.size = A at hD ⊢
  have hA : ∀ q : Nat, s.heap.size ≤ q → A q := fun q h => by rw [← hAe]; exact Or.inr h
  refine j_gen (fun H locs hHe hLe => ?_)
  have hS : va_S A s.heap H locs := by rw [hHe, hLe]; exact va_S.rf
  have hP : va_P D vwCl (wPc q cI (sNb σ) (sWd σ) (sPp σ) (sCt σ) (sCs σ) mk la wa) H := by rw [hHe]; exact hP
  have hD : va_D A (wPc q cI (sNb σ) (sWd σ) (sPp σ) (sCt σ) (sCs σ) mk la wa) := hD
  have hl : lv_has ls 4 [(0, .ref (q 0)), (1, .int (jI x)), (2, .int (jI y))] := hl
  have hinX0 : ∀ w ∈ u_ws RX0 TX0 8, w ∈ wsX0_addBar := by decide +kernel
  have hS0 := hok.1
  have hnb := hS0.1
  have hwd := hS0.2.1
  have hpp := hS0.2.2.1
  refine lv_aload_n hx hb dX0_addBar_0 rfl (lv_at hl 0 rfl) ?_
  refine va_get (D := D) (ci := 0) (v := .int (jI (sNb σ))) (C := RX0) (T := TX0) (N := 8) hx hb hts hinX0 hown hK hP 0 rfl rfl 0 (by decide) (hts (.fieldLink RX0 9 "BreakLines$Piece" "bars" "I") (by decide +kernel)) (fun _ h9 => h9) rfl dX0_addBar_1 ?_
  refine lv_istore_n (lv' := [(3, .int (jI (sNb σ))), (0, .ref (q 0)), (1, .int (jI x)), (2, .int (jI y))]) hx hb dX0_addBar_4 rfl hl (by decide) rfl (fun ls hl => ?_)
  refine lv_aload_n hx hb dX0_addBar_5 rfl (lv_at hl 1 rfl) ?_
  refine va_get (D := D) (ci := 0) (v := .ref (q 3)) (C := RX0) (T := TX0) (N := 8) hx hb hts hinX0 hown hK hP 0 rfl rfl 6 (by decide) (hts (.fieldLink RX0 32 "BreakLines$Piece" "leastAhead" "[I") (by decide +kernel)) (fun _ h9 => h9) rfl dX0_addBar_6 ?_
  refine lv_iload_n hx hb dX0_addBar_9 rfl (lv_at hl 0 rfl) ?_
  refine j_iconst hx hb dX0_addBar_10 ?_
  refine j_iadd hx hb dX0_addBar_11 ?_
  refine lv_aload_n hx hb dX0_addBar_12 rfl (lv_at hl 1 rfl) ?_
  refine va_get (D := D) (ci := 0) (v := .ref (q 3)) (C := RX0) (T := TX0) (N := 8) hx hb hts hinX0 hown hK hP 0 rfl rfl 6 (by decide) (hts (.fieldLink RX0 32 "BreakLines$Piece" "leastAhead" "[I") (by decide +kernel)) (fun _ h9 => h9) rfl dX0_addBar_13 ?_
  refine lv_iload_n hx hb dX0_addBar_16 rfl (lv_at hl 0 rfl) ?_
  refine j_iald hx hb hK hP 3 0 rfl rfl (i := sNb σ) (by omega) (by decide) dX0_addBar_17 ?_
  refine lv_iload_n hx hb dX0_addBar_18 rfl (lv_at hl 2 rfl) ?_
  refine j_iadd hx hb dX0_addBar_19 ?_
  refine j_iast hx hb hK hP hD hS 3 0 rfl rfl (i := (sNb σ) + 1) (by omega) (by decide) dX0_addBar_20 (fun H locs hP hD hS => ?_)
  have hP : va_P D vwCl (wPc q cI (sNb σ) (sWd σ) (sPp σ) (sCt σ) (sCs σ) mk (updI la ((sNb σ) + 1) ((la (sNb σ)) + x)) wa) H := hP
  have hD : va_D A (wPc q cI (sNb σ) (sWd σ) (sPp σ) (sCt σ) (sCs σ) mk (updI la ((sNb σ) + 1) ((la (sNb σ)) + x)) wa) := hD
  refine lv_aload_n hx hb dX0_addBar_21 rfl (lv_at hl 1 rfl) ?_
  refine va_get (D := D) (ci := 0) (v := .ref (q 4)) (C := RX0) (T := TX0) (N := 8) hx hb hts hinX0 hown hK hP 0 rfl rfl 7 (by decide) (hts (.fieldLink RX0 35 "BreakLines$Piece" "wishedAhead" "[I") (by decide +kernel)) (fun _ h9 => h9) rfl dX0_addBar_22 ?_
  refine lv_iload_n hx hb dX0_addBar_25 rfl (lv_at hl 0 rfl) ?_
  refine j_iconst hx hb dX0_addBar_26 ?_
  refine j_iadd hx hb dX0_addBar_27 ?_
  refine lv_aload_n hx hb dX0_addBar_28 rfl (lv_at hl 1 rfl) ?_
  refine va_get (D := D) (ci := 0) (v := .ref (q 4)) (C := RX0) (T := TX0) (N := 8) hx hb hts hinX0 hown hK hP 0 rfl rfl 7 (by decide) (hts (.fieldLink RX0 35 "BreakLines$Piece" "wishedAhead" "[I") (by decide +kernel)) (fun _ h9 => h9) rfl dX0_addBar_29 ?_
  refine lv_iload_n hx hb dX0_addBar_32 rfl (lv_at hl 0 rfl) ?_
  refine j_iald hx hb hK hP 4 0 rfl rfl (i := sNb σ) (by omega) (by decide) dX0_addBar_33 ?_
  refine lv_iload_n hx hb dX0_addBar_34 rfl (lv_at hl 3 rfl) ?_
  refine j_iadd hx hb dX0_addBar_35 ?_
  refine j_iast hx hb hK hP hD hS 4 0 rfl rfl (i := (sNb σ) + 1) (by omega) (by decide) dX0_addBar_36 (fun H locs hP hD hS => ?_)
  have hP : va_P D vwCl (wPc q cI (sNb σ) (sWd σ) (sPp σ) (sCt σ) (sCs σ) mk (updI la ((sNb σ) + 1) ((la (sNb σ)) + x)) (updI wa ((sNb σ) + 1) ((wa (sNb σ)) + y))) H := hP
  have hD : va_D A (wPc q cI (sNb σ) (sWd σ) (sPp σ) (sCt σ) (sCs σ) mk (updI la ((sNb σ) + 1) ((la (sNb σ)) + x)) (updI wa ((sNb σ) + 1) ((wa (sNb σ)) + y))) := hD
  refine lv_aload_n hx hb dX0_addBar_37 rfl (lv_at hl 1 rfl) ?_
  refine lv_iload_n hx hb dX0_addBar_38 rfl (lv_at hl 0 rfl) ?_
  refine j_iconst hx hb dX0_addBar_39 ?_
  refine j_iadd hx hb dX0_addBar_40 ?_
  refine va_put (D := D) (ci := 0) (v := .int (jI ((sNb σ) + 1))) (ty := .int) (C := RX0) (T := TX0) (N := 8) hx hb hts hinX0 tyX0 tyX0_ok nmX0 hown hK hP hD hS 0 rfl rfl 0 (by decide) (hts (.fieldLink RX0 9 "BreakLines$Piece" "bars" "I") (by decide +kernel)) (fun _ h9 => h9) rfl (by decide +kernel) rfl rfl (Nat.le_of_ble_eq_true rfl) dX0_addBar_41 (fun H locs hP hD hS => ?_)
  have hP : va_P D vwCl (wPc q cI ((sNb σ) + 1) (sWd σ) (sPp σ) (sCt σ) (sCs σ) mk (updI la ((sNb σ) + 1) ((la (sNb σ)) + x)) (updI wa ((sNb σ) + 1) ((wa (sNb σ)) + y))) H := hP
  have hD : va_D A (wPc q cI ((sNb σ) + 1) (sWd σ) (sPp σ) (sCt σ) (sCs σ) mk (updI la ((sNb σ) + 1) ((la (sNb σ)) + x)) (updI wa ((sNb σ) + 1) ((wa (sNb σ)) + y))) := hD
  refine lv_iload_n hx hb dX0_addBar_44 rfl (lv_at hl 0 rfl) ?_
  exact j_mretI hx hb hr hlocks hS dX0_addBar_45 () rfl hP
set_option maxHeartbeats 4000000 in
set_option maxRecDepth 100000 in
theorem kX0_putWidths (l : Launch) (D : va_G) (cI cJ cZ : ClassId) (q : Nat → Nat) (σ : Sg) (la wa : Int → Int) (mk : Nat → Int32) (hok : okP σ la wa mk) (a x y : Int) (h : 0 ≤ a ∧ a < sNb σ) : MuV l yX0_putWidths wsX0_putWidths 1 22 D (tyc cI cJ cZ) (wPc q cI (sNb σ) (sWd σ) (sPp σ) (sCt σ) (sCs σ) mk la wa) [.ref (q 0), .int (jI a), .int (jI x), .int (jI y)] (fun (u : (Int → Int) × (Int → Int)) => ∀ k, 0 ≤ k → k ≤ sNb σ → (u.1 k = if k ≤ a then la k else la k + (x - tot (sLs σ) a a)) ∧ (u.2 k = if k ≤ a then wa k else wa k + (y - tot (sWs σ) a a))) (fun u => wPc q cI (sNb σ) (sWd σ) (sPp σ) (sCt σ) (sCs σ) mk u.1 u.2) := by
  intro sz
  refine j_start RX0 rfl (by decide) rfl (Nat.le_of_ble_eq_true rfl) ?_
  intro p e s m below meth c ls hx hb hr hlocks hml hown hts hnm hl ⟨hsz, hP, hK, hD0⟩
  subst hsz
  have hD := hD0.self (sz := s.heap.size)
  generalize hAe : va_A (wPc q cI (sNb σ) (sWd σ) (sPp σ) (sCt σ) (sCs σ) mk la wa) s.heap.size = A at hD ⊢
  have hA : ∀ q : Nat, s.heap.size ≤ q → A q := fun q h => by rw [← hAe]; exact Or.inr h
  refine j_gen (fun H locs hHe hLe => ?_)
  have hS : va_S A s.heap H locs := by rw [hHe, hLe]; exact va_S.rf
  have hP : va_P D vwCl (wPc q cI (sNb σ) (sWd σ) (sPp σ) (sCt σ) (sCs σ) mk la wa) H := by rw [hHe]; exact hP
  have hD : va_D A (wPc q cI (sNb σ) (sWd σ) (sPp σ) (sCt σ) (sCs σ) mk la wa) := hD
  have hl : lv_has ls 7 [(0, .ref (q 0)), (1, .int (jI a)), (2, .int (jI x)), (3, .int (jI y))] := hl
  have hinX0 : ∀ w ∈ u_ws RX0 TX0 8, w ∈ wsX0_putWidths := by decide +kernel
  have hS0 := hok.1
  have hnb := hS0.1
  have hwd := hS0.2.1
  have hpp := hS0.2.2.1
  refine lv_iload_n hx hb dX0_putWidths_0 rfl (lv_at hl 2 rfl) ?_
  refine lv_aload_n hx hb dX0_putWidths_1 rfl (lv_at hl 0 rfl) ?_
  refine lv_iload_n hx hb dX0_putWidths_2 rfl (lv_at hl 1 rfl) ?_
  refine lv_iload_n hx hb dX0_putWidths_3 rfl (lv_at hl 1 rfl) ?_
  refine j_cVI (As := [.int (jI a), .int (jI a)]) (rest := [.int (jI x)]) ⟨hx, hb, hml, hown, hts⟩ (kX0_leastOf l D cI cJ cZ q σ la wa mk hok a a (by omega)) (cwV 2 hts gX0_putWidths_X0_leastOf rfl rfl rfl (by decide +kernel) ⟨Nat.le_of_ble_eq_true rfl, Nat.le_of_ble_eq_true rfl⟩) hK hP (va_recv hK hP (ci := 0) (q0 := 0) rfl rfl) rfl hl.1 rfl (Nat.le_of_ble_eq_true rfl) ⟨Nat.zero_le _, Nat.zero_le _⟩ dX0_putWidths_4 ?_
  refine j_isub hx hb dX0_putWidths_7 ?_
  refine lv_istore (lv' := [(4, .int (jI (x - (tot (sLs σ) a a)))), (0, .ref (q 0)), (1, .int (jI a)), (2, .int (jI x)), (3, .int (jI y))]) hx hb dX0_putWidths_8 hl (by decide) rfl (fun ls hl => ?_)
  refine lv_iload_n hx hb dX0_putWidths_10 rfl (lv_at hl 4 rfl) ?_
  refine lv_aload_n hx hb dX0_putWidths_11 rfl (lv_at hl 1 rfl) ?_
  refine lv_iload_n hx hb dX0_putWidths_12 rfl (lv_at hl 2 rfl) ?_
  refine lv_iload_n hx hb dX0_putWidths_13 rfl (lv_at hl 2 rfl) ?_
  refine j_cVI (As := [.int (jI a), .int (jI a)]) (rest := [.int (jI y)]) ⟨hx, hb, hml, hown, hts⟩ (kX0_wishedOf l D cI cJ cZ q σ la wa mk hok a a (by omega)) (cwV 2 hts gX0_putWidths_X0_wishedOf rfl rfl rfl (by decide +kernel) ⟨Nat.le_of_ble_eq_true rfl, Nat.le_of_ble_eq_true rfl⟩) hK hP (va_recv hK hP (ci := 0) (q0 := 0) rfl rfl) rfl hl.1 rfl (Nat.le_of_ble_eq_true rfl) ⟨Nat.zero_le _, Nat.zero_le _⟩ dX0_putWidths_14 ?_
  refine j_isub hx hb dX0_putWidths_17 ?_
  refine lv_istore (lv' := [(5, .int (jI (y - (tot (sWs σ) a a)))), (4, .int (jI (x - (tot (sLs σ) a a)))), (0, .ref (q 0)), (1, .int (jI a)), (2, .int (jI x)), (3, .int (jI y))]) hx hb dX0_putWidths_18 hl (by decide) rfl (fun ls hl => ?_)
  refine lv_iload_n hx hb dX0_putWidths_20 rfl (lv_at hl 3 rfl) ?_
  refine j_iconst hx hb dX0_putWidths_21 ?_
  refine j_iadd hx hb dX0_putWidths_22 ?_
  refine lv_istore (lv' := [(6, .int (jI (a + 1))), (5, .int (jI (y - (tot (sWs σ) a a)))), (4, .int (jI (x - (tot (sLs σ) a a)))), (0, .ref (q 0)), (1, .int (jI a)), (2, .int (jI x)), (3, .int (jI y))]) hx hb dX0_putWidths_23 hl (by decide) rfl (fun ls hl => ?_)
  refine j_loop (α := Int × (Int → Int) × (Int → Int) × Array Slot × Heap × List Loc) (h := fun z => match z with | (i, f, g, ls, H, locs) => H) (lc := fun z => match z with | (i, f, g, ls, H, locs) => locs) (f := fun z => match z with | (i, f, g, ls, H, locs) => F0 m 25 ls []) (P := fun n z => match z with | (i, f, g, ls, H, locs) => (a < i ∧ i ≤ sNb σ + 1 ∧ (∀ k, 0 ≤ k → k ≤ sNb σ → (f k = if k ≤ a ∨ i ≤ k then la k else la k + (x - tot (sLs σ) a a)) ∧ (g k = if k ≤ a ∨ i ≤ k then wa k else wa k + (y - tot (sWs σ) a a)))) ∧ (sNb σ + 1 - i).toNat < n ∧ lv_has ls 7 [(0, .ref (q 0)), (1, .int (jI a)), (2, .int (jI x)), (3, .int (jI y)), (4, .int (jI (x - (tot (sLs σ) a a)))), (5, .int (jI (y - (tot (sWs σ) a a)))), (6, .int (jI i))] ∧ va_P D vwCl (wPc q cI (sNb σ) (sWd σ) (sPp σ) (sCt σ) (sCs σ) mk f g) H ∧ va_D A (wPc q cI (sNb σ) (sWd σ) (sPp σ) (sCt σ) (sCs σ) mk f g) ∧ va_S A s.heap H locs) (fun z hz => ?_) ?_ ((sNb σ + 1 - (a + 1)).toNat + 1) (a + 1, la, wa, ls, H, locs) ⟨⟨by omega, by omega, fun k h1 h2 => by rw [if_pos (by omega), if_pos (by omega)]; exact ⟨rfl, rfl⟩⟩, Nat.lt_succ_self _, lv_sub hl [3, 4, 5, 6, 2, 1, 0] rfl, hP, hD, hS⟩
  · obtain ⟨i, f, g, ls, H, locs⟩ := z; exact absurd hz.2.1 (Nat.not_lt_zero _)
  intro n25 ih25 ⟨i, f, g, ls, H, locs⟩ ⟨hi25, hm25, hl, hP, hD, hS⟩
  have hl : lv_has ls 7 [(0, .ref (q 0)), (1, .int (jI a)), (2, .int (jI x)), (3, .int (jI y)), (4, .int (jI (x - (tot (sLs σ) a a)))), (5, .int (jI (y - (tot (sWs σ) a a)))), (6, .int (jI i))] := hl
  have hP : va_P D vwCl (wPc q cI (sNb σ) (sWd σ) (sPp σ) (sCt σ) (sCs σ) mk f g) H := hP
  have hD : va_D A (wPc q cI (sNb σ) (sWd σ) (sPp σ) (sCt σ) (sCs σ) mk f g) := hD
  have hS : va_S A s.heap H locs := hS
  show W p l e _ s m _ below meth c H locs _ _ _ (F0 m 25 ls [])
  obtain ⟨hi1, hi2, hi3⟩ := hi25
  refine lv_iload hx hb dX0_putWidths_25 (lv_at hl 6 rfl) ?_
  refine lv_aload_n hx hb dX0_putWidths_27 rfl (lv_at hl 0 rfl) ?_
  refine va_get (D := D) (ci := 0) (v := .int (jI (sNb σ))) (C := RX0) (T := TX0) (N := 8) hx hb hts hinX0 hown hK hP 0 rfl rfl 0 (by decide) (hts (.fieldLink RX0 9 "BreakLines$Piece" "bars" "I") (by decide +kernel)) (fun _ h9 => h9) rfl dX0_putWidths_28 ?_
  refine j_icmp_gt (tgt := 64) hx hb (by unfold i32; omega) dX0_putWidths_31 (by decide) (fun c31 => ?_) (fun c31 => ?_)
  · skip
    exact j_mretV hx hb hr hlocks hS dX0_putWidths_64 (f, g) (fun k h1 h2 => by
      have z := hi3 k h1 h2
      dsimp only
      rw [z.1, z.2]
      by_cases q2 : k ≤ a
      · rw [if_pos (Or.inl q2), if_pos (Or.inl q2), if_pos q2, if_pos q2]; exact ⟨rfl, rfl⟩
      · have hne : ¬ (k ≤ a ∨ i ≤ k) := by omega
        rw [if_neg hne, if_neg hne, if_neg q2, if_neg q2]; exact ⟨rfl, rfl⟩) hP
  · skip
    refine lv_aload_n hx hb dX0_putWidths_34 rfl (lv_at hl 0 rfl) ?_
    refine va_get (D := D) (ci := 0) (v := .ref (q 3)) (C := RX0) (T := TX0) (N := 8) hx hb hts hinX0 hown hK hP 0 rfl rfl 6 (by decide) (hts (.fieldLink RX0 32 "BreakLines$Piece" "leastAhead" "[I") (by decide +kernel)) (fun _ h9 => h9) rfl dX0_putWidths_35 ?_
    refine lv_iload hx hb dX0_putWidths_38 (lv_at hl 6 rfl) ?_
    refine lv_dup2_11 hx hb dX0_putWidths_40 rfl rfl ?_
    refine j_iald hx hb hK hP 3 0 rfl rfl (i := i) (by omega) (by decide) dX0_putWidths_41 ?_
    refine lv_iload hx hb dX0_putWidths_42 (lv_at hl 4 rfl) ?_
    refine j_iadd hx hb dX0_putWidths_44 ?_
    refine j_iast hx hb hK hP hD hS 3 0 rfl rfl (i := i) (by omega) (by decide) dX0_putWidths_45 (fun H locs hP hD hS => ?_)
    have hP : va_P D vwCl (wPc q cI (sNb σ) (sWd σ) (sPp σ) (sCt σ) (sCs σ) mk (updI f i ((f i) + (x - (tot (sLs σ) a a)))) g) H := hP
    have hD : va_D A (wPc q cI (sNb σ) (sWd σ) (sPp σ) (sCt σ) (sCs σ) mk (updI f i ((f i) + (x - (tot (sLs σ) a a)))) g) := hD
    refine lv_aload_n hx hb dX0_putWidths_46 rfl (lv_at hl 0 rfl) ?_
    refine va_get (D := D) (ci := 0) (v := .ref (q 4)) (C := RX0) (T := TX0) (N := 8) hx hb hts hinX0 hown hK hP 0 rfl rfl 7 (by decide) (hts (.fieldLink RX0 35 "BreakLines$Piece" "wishedAhead" "[I") (by decide +kernel)) (fun _ h9 => h9) rfl dX0_putWidths_47 ?_
    refine lv_iload hx hb dX0_putWidths_50 (lv_at hl 6 rfl) ?_
    refine lv_dup2_11 hx hb dX0_putWidths_52 rfl rfl ?_
    refine j_iald hx hb hK hP 4 0 rfl rfl (i := i) (by omega) (by decide) dX0_putWidths_53 ?_
    refine lv_iload hx hb dX0_putWidths_54 (lv_at hl 5 rfl) ?_
    refine j_iadd hx hb dX0_putWidths_56 ?_
    refine j_iast hx hb hK hP hD hS 4 0 rfl rfl (i := i) (by omega) (by decide) dX0_putWidths_57 (fun H locs hP hD hS => ?_)
    have hP : va_P D vwCl (wPc q cI (sNb σ) (sWd σ) (sPp σ) (sCt σ) (sCs σ) mk (updI f i ((f i) + (x - (tot (sLs σ) a a)))) (updI g i ((g i) + (y - (tot (sWs σ) a a))))) H := hP
    have hD : va_D A (wPc q cI (sNb σ) (sWd σ) (sPp σ) (sCt σ) (sCs σ) mk (updI f i ((f i) + (x - (tot (sLs σ) a a)))) (updI g i ((g i) + (y - (tot (sWs σ) a a))))) := hD
    refine lv_iinc (v := jI (i + 1)) (lv' := [(6, .int (jI (i + 1))), (0, .ref (q 0)), (1, .int (jI a)), (2, .int (jI x)), (3, .int (jI y)), (4, .int (jI (x - (tot (sLs σ) a a)))), (5, .int (jI (y - (tot (sWs σ) a a))))]) hx hb dX0_putWidths_58 hl (k := 6) rfl (jI_add _ _) (by decide) rfl (fun ls hl => ?_)
    refine lv_goto (tgt := 25) hx hb dX0_putWidths_61 (by decide) ?_
    exact ih25 (i + 1, updI f i ((f i) + (x - (tot (sLs σ) a a))), updI g i ((g i) + (y - (tot (sWs σ) a a))), ls, H, locs) ⟨⟨by omega, by omega, fun k h1 h2 => by
        by_cases q : k = i
        · subst q
          have z := hi3 k h1 h2
          rw [if_pos (by omega), if_pos (by omega)] at z
          rw [updI_s, updI_s, if_neg (by omega), if_neg (by omega), z.1, z.2]
          exact ⟨rfl, rfl⟩
        · have z := hi3 k h1 h2
          rw [updI_n q, updI_n q, z.1, z.2]
          by_cases q2 : k ≤ a ∨ i ≤ k
          · rw [if_pos q2, if_pos q2, if_pos (by omega), if_pos (by omega)]; exact ⟨rfl, rfl⟩
          · rw [if_neg q2, if_neg q2, if_neg (by omega), if_neg (by omega)]; exact ⟨rfl, rfl⟩⟩, by omega, lv_sub hl [1, 2, 3, 4, 5, 6, 0] rfl, hP, hD, hS⟩
set_option maxHeartbeats 4000000 in
set_option maxRecDepth 100000 in
theorem kX0_putMark (l : Launch) (D : va_G) (cI cJ cZ : ClassId) (q : Nat → Nat) (σ : Sg) (la wa : Int → Int) (mk : Nat → Int32) (hok : okP σ la wa mk) (a m0 : Int) (on : Bool) (h : (0 ≤ a ∧ a < 24) ∧ 0 ≤ m0 ∧ m0 < 3) : MuV l yX0_putMark wsX0_putMark 0 0 D (tyc cI cJ cZ) (wPc q cI (sNb σ) (sWd σ) (sPp σ) (sCt σ) (sCs σ) mk la wa) [.ref (q 0), .int (jI a), .int (jI m0), .int (jZ (on = true))] (fun (u : Int32) => ∀ i : Nat, i < 24 → bt u i = if i = a.toNat then on else bt (mk m0.toNat) i) (fun u => wPc q cI (sNb σ) (sWd σ) (sPp σ) (sCt σ) (sCs σ) (upd mk m0.toNat u) la wa) := by
  intro sz
  refine j_start RX0 rfl (by decide) rfl (Nat.le_of_ble_eq_true rfl) ?_
  intro p e s m below meth c ls hx hb hr hlocks hml hown hts hnm hl ⟨hsz, hP, hK, hD0⟩
  subst hsz
  have hD := hD0.self (sz := s.heap.size)
  generalize hAe : va_A (wPc q cI (sNb σ) (sWd σ) (sPp σ) (sCt σ) (sCs σ) mk la wa) s.heap.size = A at hD ⊢
  have hA : ∀ q : Nat, s.heap.size ≤ q → A q := fun q h => by rw [← hAe]; exact Or.inr h
  refine j_gen (fun H locs hHe hLe => ?_)
  have hS : va_S A s.heap H locs := by rw [hHe, hLe]; exact va_S.rf
  have hP : va_P D vwCl (wPc q cI (sNb σ) (sWd σ) (sPp σ) (sCt σ) (sCs σ) mk la wa) H := by rw [hHe]; exact hP
  have hD : va_D A (wPc q cI (sNb σ) (sWd σ) (sPp σ) (sCt σ) (sCs σ) mk la wa) := hD
  have hl : lv_has ls 5 [(0, .ref (q 0)), (1, .int (jI a)), (2, .int (jI m0)), (3, .int (jZ (on = true)))] := hl
  have hinX0 : ∀ w ∈ u_ws RX0 TX0 8, w ∈ wsX0_putMark := by decide +kernel
  refine j_iconst hx hb dX0_putMark_0 ?_
  refine lv_iload_n hx hb dX0_putMark_1 rfl (lv_at hl 1 rfl) ?_
  refine lv_ishl hx hb dX0_putMark_2 ?_
  refine j_topi (y := (jI (2 ^ a.toNat))) (jI_bit (by omega) (by omega)) ?_
  refine lv_istore (lv' := [(4, .int (jI (2 ^ a.toNat))), (0, .ref (q 0)), (1, .int (jI a)), (2, .int (jI m0)), (3, .int (jZ (on = true)))]) hx hb dX0_putMark_3 hl (by decide) rfl (fun ls hl => ?_)
  refine lv_aload_n hx hb dX0_putMark_5 rfl (lv_at hl 1 rfl) ?_
  refine va_get (D := D) (ci := 0) (v := .ref (q 2)) (C := RX0) (T := TX0) (N := 8) hx hb hts hinX0 hown hK hP 0 rfl rfl 5 (by decide) (hts (.fieldLink RX0 29 "BreakLines$Piece" "marked" "[I") (by decide +kernel)) (fun _ h9 => h9) rfl dX0_putMark_6 ?_
  refine lv_iload_n hx hb dX0_putMark_9 rfl (lv_at hl 3 rfl) ?_
  refine lv_iload_n hx hb dX0_putMark_10 rfl (lv_at hl 4 rfl) ?_
  refine j_ifeqZ (tgt := 26) hx hb dX0_putMark_11 (by decide) (fun c11 => ?_) (fun c11 => ?_)
  · skip
    refine lv_aload_n hx hb dX0_putMark_26 rfl (lv_at hl 1 rfl) ?_
    refine va_get (D := D) (ci := 0) (v := .ref (q 2)) (C := RX0) (T := TX0) (N := 8) hx hb hts hinX0 hown hK hP 0 rfl rfl 5 (by decide) (hts (.fieldLink RX0 29 "BreakLines$Piece" "marked" "[I") (by decide +kernel)) (fun _ h9 => h9) rfl dX0_putMark_27 ?_
    refine lv_iload_n hx hb dX0_putMark_30 rfl (lv_at hl 3 rfl) ?_
    refine j_ialdR hx hb hK hP 2 0 rfl rfl (i := m0) (by omega) (by decide) dX0_putMark_31 ?_
    refine lv_iload hx hb dX0_putMark_32 (lv_at hl 0 rfl) ?_
    refine j_iconst hx hb dX0_putMark_34 ?_
    refine lv_ixor hx hb dX0_putMark_35 ?_
    refine lv_iand hx hb dX0_putMark_36 ?_
    refine j_iastR hx hb hK hP hD hS 2 0 rfl rfl (i := m0) (by omega) (by decide) dX0_putMark_37 (fun H locs hP hD hS => ?_)
    have hP : va_P D vwCl (wPc q cI (sNb σ) (sWd σ) (sPp σ) (sCt σ) (sCs σ) (upd mk (Int.toNat m0) (((mk (Int.toNat m0)) &&& ((jI (2 ^ a.toNat)) ^^^ (jI (-1)))))) la wa) H := hP
    have hD : va_D A (wPc q cI (sNb σ) (sWd σ) (sPp σ) (sCt σ) (sCs σ) (upd mk (Int.toNat m0) (((mk (Int.toNat m0)) &&& ((jI (2 ^ a.toNat)) ^^^ (jI (-1)))))) la wa) := hD
    exact j_mretV hx hb hr hlocks hS dX0_putMark_38 _ (fun i hi => by first | (rw [b_or, bt_pow a.toNat (by omega) i (by omega)]; by_cases q : i = a.toNat <;> simp [q, c11]; done) | (rw [b_and, bt_inv a.toNat (by omega) i (by omega)]; by_cases q : i = a.toNat <;> simp [q, c11])) hP
  · skip
    refine lv_aload_n hx hb dX0_putMark_14 rfl (lv_at hl 1 rfl) ?_
    refine va_get (D := D) (ci := 0) (v := .ref (q 2)) (C := RX0) (T := TX0) (N := 8) hx hb hts hinX0 hown hK hP 0 rfl rfl 5 (by decide) (hts (.fieldLink RX0 29 "BreakLines$Piece" "marked" "[I") (by decide +kernel)) (fun _ h9 => h9) rfl dX0_putMark_15 ?_
    refine lv_iload_n hx hb dX0_putMark_18 rfl (lv_at hl 3 rfl) ?_
    refine j_ialdR hx hb hK hP 2 0 rfl rfl (i := m0) (by omega) (by decide) dX0_putMark_19 ?_
    refine lv_iload hx hb dX0_putMark_20 (lv_at hl 0 rfl) ?_
    refine lv_ior hx hb dX0_putMark_22 ?_
    refine lv_goto (tgt := 37) hx hb dX0_putMark_23 (by decide) ?_
    refine j_iastR hx hb hK hP hD hS 2 0 rfl rfl (i := m0) (by omega) (by decide) dX0_putMark_37 (fun H locs hP hD hS => ?_)
    have hP : va_P D vwCl (wPc q cI (sNb σ) (sWd σ) (sPp σ) (sCt σ) (sCs σ) (upd mk (Int.toNat m0) (((mk (Int.toNat m0)) ||| (jI (2 ^ a.toNat))))) la wa) H := hP
    have hD : va_D A (wPc q cI (sNb σ) (sWd σ) (sPp σ) (sCt σ) (sCs σ) (upd mk (Int.toNat m0) (((mk (Int.toNat m0)) ||| (jI (2 ^ a.toNat))))) la wa) := hD
    exact j_mretV hx hb hr hlocks hS dX0_putMark_38 _ (fun i hi => by first | (rw [b_or, bt_pow a.toNat (by omega) i (by omega)]; by_cases q : i = a.toNat <;> simp [q, c11]; done) | (rw [b_and, bt_inv a.toNat (by omega) i (by omega)]; by_cases q : i = a.toNat <;> simp [q, c11])) hP
end
end
section
/-! settings as rows of lines with a flag 'the page ends here'; their rank and order; best ones -/
noncomputable section
def leB (b : Int) : Int := 2 ^ (47 - b).toNat
def peB (b : Int) : Int := 2 ^ (23 - b).toNat
def okL (σ : Sg) : List (Int × Bool) → Int → Int → Prop
  | [], f, o => f = sNb σ ∧ o = 0
  | (t, true) :: s, f, _ => f ≤ t ∧ t < sNb σ ∧ may σ f t ∧ okL σ s (t + 1) 0
  | (t, false) :: s, f, o => f ≤ t ∧ t < sNb σ ∧ may σ f t ∧ o + 1 < sPp σ ∧ okL σ s (t + 1) (o + 1)
def wdw (σ : Sg) (f o : Int) : Int := if o = 0 ∧ 0 < f then sCs σ 2 else 0
def pgc (σ : Sg) (f o t : Int) : Int := if t = sNb σ - 1 then wdw σ f o else trn σ t
def rkL (σ : Sg) : List (Int × Bool) → Int → Int → Int
  | [], _, _ => 0
  | (t, true) :: s, f, o => 1024 * cst σ f t + 1 + (1024 * pgc σ f o t + 32) + rkL σ s (t + 1) 0
  | (t, false) :: s, f, o => 1024 * cst σ f t + 1 + rkL σ s (t + 1) (o + 1)
def odL : List (Int × Bool) → Int
  | [] => 0
  | (t, true) :: s => leB t + peB t + odL s
  | (t, false) :: s => leB t + odL s
def Cmp (σ : Sg) (T : Nat → Prop) (f o r z : Int) : Prop := ∃ s, okL σ s f o ∧ T s.length ∧ r = rkL σ s f o ∧ z = odL s
def Bst (S : Int → Int → Prop) (R Z : Int) : Prop := (R = 9223372036854775807 ∧ ∀ r z, ¬ S r z) ∨ (R ≠ 9223372036854775807 ∧ S R Z ∧ ∀ r z, S r z → R < r ∨ (R = r ∧ Z ≤ z))
theorem Bst.set {S : Int → Int → Prop} {R Z x y : Int} (h : Bst S R Z) (hx : x < 9223372036854775807) (hb : x < R ∨ x = R ∧ y < Z) : Bst (fun r z => S r z ∨ (r = x ∧ z = y)) x y := by
  refine Or.inr ⟨by omega, Or.inr ⟨rfl, rfl⟩, fun r z q => ?_⟩
  rcases h with ⟨h1, h2⟩ | ⟨h1, h2, h3⟩
  · rcases q with q | q
    · exact absurd q (h2 r z)
    · omega
  · rcases q with q | q
    · have := h3 r z q; omega
    · omega
theorem Bst.keep {S : Int → Int → Prop} {R Z x y : Int} (h : Bst S R Z) (hx : x < 9223372036854775807) (hb : ¬ (x < R ∨ x = R ∧ y < Z)) : Bst (fun r z => S r z ∨ (r = x ∧ z = y)) R Z := by
  rcases h with ⟨h1, h2⟩ | ⟨h1, h2, h3⟩
  · exact absurd (Or.inl (by omega)) hb
  · refine Or.inr ⟨h1, Or.inl h2, fun r z q => ?_⟩
    rcases q with q | q
    · exact h3 r z q
    · omega
theorem Bst.congr {S S' : Int → Int → Prop} {R Z : Int} (h : Bst S R Z) (e : ∀ r z, S r z ↔ S' r z) : Bst S' R Z := by
  have : S = S' := by funext r z; exact propext (e r z)
  rw [← this]; exact h
theorem Bst.mono {S S' : Int → Int → Prop} {R Z : Int} (h : Bst S R Z) (e : ∀ r z, S r z → S' r z) (f : ∀ r z, S' r z → ∃ r1 z1, S r1 z1 ∧ (r1 < r ∨ (r1 = r ∧ z1 ≤ z))) : Bst S' R Z := by
  rcases h with ⟨h1, h2⟩ | ⟨h1, h2, h3⟩
  · refine Or.inl ⟨h1, fun r z q => ?_⟩
    obtain ⟨r1, z1, q1, -⟩ := f r z q
    exact h2 r1 z1 q1
  · refine Or.inr ⟨h1, e _ _ h2, fun r z q => ?_⟩
    obtain ⟨r1, z1, q1, q2⟩ := f r z q
    have := h3 r1 z1 q1
    omega
/-- one cell of the tables is made better by what N offers -/
def cellUp (rk od rk' od' : Int → Int) (c : Int) (N : Int → Int → Prop) : Prop := (∀ j, j ≠ c → rk' j = rk j ∧ od' j = od j) ∧ ((rk' c = rk c ∧ od' c = od c) ∨ N (rk' c) (od' c)) ∧ ∀ S, Bst S (rk c) (od c) → Bst (fun r z => S r z ∨ N r z) (rk' c) (od' c)
theorem cellUp_offer {rk od : Int → Int} {c x y : Int} (hx : x < 9223372036854775807) (hb : x < rk c ∨ x = rk c ∧ y < od c) : cellUp rk od (updI rk c x) (updI od c y) c (fun r z => r = x ∧ z = y) := by
  refine ⟨fun j hj => ⟨updI_n hj, updI_n hj⟩, ?_, fun S h => ?_⟩
  · rw [updI_s, updI_s]; exact Or.inr ⟨rfl, rfl⟩
  · rw [updI_s, updI_s]; exact h.set hx hb
theorem cellUp_keep {rk od : Int → Int} {c x y : Int} (hx : x < 9223372036854775807) (hb : ¬ (x < rk c ∨ x = rk c ∧ y < od c)) : cellUp rk od rk od c (fun r z => r = x ∧ z = y) :=
  ⟨fun _ _ => ⟨rfl, rfl⟩, Or.inl ⟨rfl, rfl⟩, fun _ h => h.keep hx hb⟩
theorem cellUp_none {rk od : Int → Int} {c : Int} {N : Int → Int → Prop} (h : ∀ r z, ¬ N r z) : cellUp rk od rk od c N :=
  ⟨fun _ _ => ⟨rfl, rfl⟩, Or.inl ⟨rfl, rfl⟩, fun _ q => q.congr (fun r z => ⟨Or.inl, fun w => w.elim id (fun w => absurd w (h r z))⟩)⟩
theorem cellUp_trans {rk od rk1 od1 rk2 od2 : Int → Int} {c : Int} {N M : Int → Int → Prop} (h : cellUp rk od rk1 od1 c N) (g : cellUp rk1 od1 rk2 od2 c M) : cellUp rk od rk2 od2 c (fun r z => N r z ∨ M r z) := by
  refine ⟨fun j hj => ?_, ?_, fun S q => ?_⟩
  · have h1 := h.1 j hj; have h2 := g.1 j hj
    exact ⟨h2.1.trans h1.1, h2.2.trans h1.2⟩
  · rcases g.2.1 with q | q
    · rw [q.1, q.2]
      rcases h.2.1 with w | w
      · exact Or.inl w
      · exact Or.inr (Or.inl w)
    · exact Or.inr (Or.inr q)
  · exact (g.2.2 _ (h.2.2 S q)).congr (fun r z => or_assoc)
theorem cellUp_congr {rk od rk1 od1 : Int → Int} {c : Int} {N M : Int → Int → Prop} (h : cellUp rk od rk1 od1 c N) (e : ∀ r z, N r z ↔ M r z) : cellUp rk od rk1 od1 c M := by
  have : N = M := by funext r z; exact propext (e r z)
  rw [← this]; exact h
/-! bounds -/
theorem sqB {d k : Int} (h1 : -9500 ≤ d) (h2 : d ≤ 9500) (h3 : 0 ≤ k) (h4 : k ≤ 1000000) : 0 ≤ k * d * d ∧ k * d * d ≤ 90250000000000 := by
  have e : k * d * d = k * (d * d) := Int.mul_assoc k d d
  rw [e]
  have hd : 0 ≤ d * d := by
    rcases Int.le_total 0 d with q | q
    · exact Int.mul_nonneg q q
    · have := Int.mul_nonneg (a := -d) (b := -d) (by omega) (by omega)
      rw [Int.neg_mul_neg] at this; exact this
  have hd2 : d * d ≤ 90250000 := by
    rcases Int.le_total 0 d with q | q
    · have := Int.mul_le_mul (a := d) (b := d) (c := 9500) (d := 9500) h2 h2 q (by omega); omega
    · have := Int.mul_le_mul (a := -d) (b := -d) (c := 9500) (d := 9500) (by omega) (by omega) (by omega) (by omega)
      rw [Int.neg_mul_neg] at this; omega
  refine ⟨Int.mul_nonneg h3 hd, ?_⟩
  have := Int.mul_le_mul (a := k) (b := d * d) (c := 1000000) (d := 90250000) h4 hd2 hd (by omega)
  omega
theorem cstB {σ : Sg} (h : okS σ) {a b : Int} (ha : 0 ≤ a) (hab : a ≤ b) (hb : b < sNb σ) : 0 ≤ cst σ a b ∧ cst σ a b ≤ 91000000000000 := by
  have hn := h.1
  have hw := h.2.1
  have c0 := h.2.2.2.2.1 0 (by omega) (by omega)
  have c3 := h.2.2.2.2.1 3 (by omega) (by omega)
  have c4 := h.2.2.2.2.1 4 (by omega) (by omega)
  have p := preB h (a := a) (b := b + 1) ha (by omega) (by omega)
  have hd : dd σ a b = sWd σ - (pre (sWs σ) (b + 1) - pre (sWs σ) a) := rfl
  unfold cst
  by_cases q : sWd σ < tot (sLs σ) a b
  · rw [if_pos q]; omega
  · rw [if_neg q]
    by_cases q2 : dd σ a b < 0
    · rw [if_pos q2]
      have := sqB (d := dd σ a b) (k := sCs σ 0) (by omega) (by omega) c0.1 c0.2
      omega
    · rw [if_neg q2]
      by_cases q3 : b = sNb σ - 1
      · rw [if_pos q3]; omega
      · rw [if_neg q3]
        have := sqB (d := dd σ a b) (k := sCs σ 4) (by omega) (by omega) c4.1 c4.2
        omega
theorem trnB {σ : Sg} (h : okS σ) (b : Int) : 0 ≤ trn σ b ∧ trn σ b ≤ 1000000 := by
  have c1 := h.2.2.2.2.1 1 (by omega) (by omega)
  unfold trn
  split <;> omega
theorem wdwB {σ : Sg} (h : okS σ) (f o : Int) : 0 ≤ wdw σ f o ∧ wdw σ f o ≤ 1000000 := by
  have c1 := h.2.2.2.2.1 2 (by omega) (by omega)
  unfold wdw
  split <;> omega
theorem pgcB {σ : Sg} (h : okS σ) (f o t : Int) : 0 ≤ pgc σ f o t ∧ pgc σ f o t ≤ 1000000 := by
  have c1 := wdwB h f o
  have c2 := trnB h t
  unfold pgc
  split <;> omega
theorem powB {k : Int} (h0 : 0 ≤ k) (h : k ≤ 47) : 0 < (2 : Int) ^ k.toNat ∧ (2 : Int) ^ k.toNat ≤ 140737488355328 := by
  obtain ⟨n, hn⟩ : ∃ n : Nat, k.toNat = n := ⟨_, rfl⟩
  rw [hn]
  have h2 : (2 : Nat) ^ n ≤ 2 ^ 47 := Nat.pow_le_pow_right (by omega) (by omega)
  have h3 : 0 < (2 : Nat) ^ n := Nat.two_pow_pos n
  have e : ((2 : Int) ^ n) = ((2 ^ n : Nat) : Int) := (Int.natCast_pow 2 n).symm
  rw [e]
  have h4 : (2 : Nat) ^ 47 = 140737488355328 := by decide
  omega
theorem leB_B {b : Int} (h0 : 0 ≤ b) (h : b < 24) : 0 < leB b ∧ leB b ≤ 140737488355328 := powB (by omega) (by omega)
theorem peB_B {b : Int} (h0 : 0 ≤ b) (h : b < 24) : 0 < peB b ∧ peB b ≤ 140737488355328 := powB (by omega) (by omega)
theorem okL_B {σ : Sg} (h : okS σ) : ∀ (s : List (Int × Bool)) (f o : Int), 0 ≤ f → f ≤ sNb σ → 0 ≤ o → okL σ s f o → (0 ≤ rkL σ s f o ∧ rkL σ s f o ≤ 94000000000000000 * (sNb σ - f)) ∧ (0 ≤ odL s ∧ odL s ≤ 281474976710656 * (sNb σ - f)) ∧ (s.length : Int) ≤ sNb σ - f := by
  have hn := h.1
  intro s
  induction s with
  | nil => intro f o h1 h2 h3 hk; simp [rkL, odL]; omega
  | cons x s ih =>
    intro f o h1 h2 h3 hk
    obtain ⟨t, b⟩ := x
    cases b with
    | true =>
      obtain ⟨k1, k2, k3, k4⟩ := hk
      have i1 := ih (t + 1) 0 (by omega) (by omega) (by omega) k4
      have i2 := cstB h h1 k1 k2
      have i3 := pgcB h f o t
      have i4 := leB_B (b := t) (by omega) (by omega)
      have i5 := peB_B (b := t) (by omega) (by omega)
      simp only [rkL, odL, List.length_cons]
      omega
    | false =>
      obtain ⟨k1, k2, k3, k5, k4⟩ := hk
      have i1 := ih (t + 1) (o + 1) (by omega) (by omega) (by omega) k4
      have i2 := cstB h h1 k1 k2
      have i4 := leB_B (b := t) (by omega) (by omega)
      simp only [rkL, odL, List.length_cons]
      omega
/-- what is offered to the cell (f, o) by a first line that ends with bar t, by the tables behind it -/
def OffT (σ : Sg) (rk od : Int → Int) (f o t r z : Int) : Prop := may σ f t ∧
  ((t = sNb σ - 1 ∧ r = 1024 * cst σ f t + 1 + (1024 * wdw σ f o + 32) ∧ z = leB t + peB t) ∨
   (t ≠ sNb σ - 1 ∧ rk ((t + 1) * 8) ≠ 9223372036854775807 ∧ r = 1024 * cst σ f t + 1 + (1024 * trn σ t + 32) + rk ((t + 1) * 8) ∧ z = leB t + peB t + od ((t + 1) * 8)) ∨
   (t ≠ sNb σ - 1 ∧ o + 1 < sPp σ ∧ rk ((t + 1) * 8 + (o + 1)) ≠ 9223372036854775807 ∧ r = 1024 * cst σ f t + 1 + rk ((t + 1) * 8 + (o + 1)) ∧ z = leB t + od ((t + 1) * 8 + (o + 1))))
theorem okL_nb {σ : Sg} {s : List (Int × Bool)} {o : Int} (h : okL σ s (sNb σ) o) : s = [] ∧ o = 0 := by
  cases s with
  | nil => exact ⟨rfl, h.2⟩
  | cons x s =>
    obtain ⟨t, b⟩ := x
    cases b with
    | true => obtain ⟨k1, k2, -⟩ := h; omega
    | false => obtain ⟨k1, k2, -⟩ := h; omega
theorem off_sem {σ : Sg} (h : okS σ) {T T' : Nat → Prop} (hT : ∀ n, T' n ↔ T (n + 1)) {rk od : Int → Int} {f o lo hi R Z : Int} (hf : f < sNb σ) (ho : 0 ≤ o) (hlo : f ≤ lo) (hhi : hi < sNb σ)
    (tb : ∀ t, lo ≤ t → t ≤ hi → t ≠ sNb σ - 1 → Bst (Cmp σ T' (t + 1) 0) (rk ((t + 1) * 8)) (od ((t + 1) * 8)) ∧ (o + 1 < sPp σ → Bst (Cmp σ T' (t + 1) (o + 1)) (rk ((t + 1) * 8 + (o + 1))) (od ((t + 1) * 8 + (o + 1)))))
    (out : ∀ t b s, ¬ (lo ≤ t ∧ t ≤ hi) → okL σ ((t, b) :: s) f o → ¬ T (s.length + 1)) (last : lo ≤ sNb σ - 1 → sNb σ - 1 ≤ hi → T 1)
    (B : Bst (fun r z => ∃ t, lo ≤ t ∧ t ≤ hi ∧ OffT σ rk od f o t r z) R Z) : Bst (Cmp σ T f o) R Z := by
  refine B.mono ?_ ?_
  · rintro r z ⟨t, h1, h2, hm, ⟨q1, q2, q3⟩ | ⟨q1, q2, q3, q4⟩ | ⟨q1, q5, q2, q3, q4⟩⟩
    · subst q1
      refine ⟨[(sNb σ - 1, true)], ⟨by omega, by omega, hm, ?_⟩, last h1 h2, ?_, ?_⟩
      · exact ⟨by omega, rfl⟩
      · rw [q2]; show _ = 1024 * cst σ f (sNb σ - 1) + 1 + (1024 * pgc σ f o (sNb σ - 1) + 32) + 0; unfold pgc; rw [if_pos rfl]; omega
      · rw [q3]; simp only [odL]; omega
    · rcases (tb t h1 h2 q1).1 with ⟨w, -⟩ | ⟨-, ⟨s, w1, w2, w3, w4⟩, -⟩
      · exact absurd w q2
      · refine ⟨(t, true) :: s, ⟨by omega, by omega, hm, w1⟩, (hT _).mp w2, ?_, ?_⟩
        · rw [q3, w3]; simp only [rkL, pgc]; rw [if_neg q1]
        · rw [q4, w4]; simp only [odL]
    · rcases (tb t h1 h2 q1).2 q5 with ⟨w, -⟩ | ⟨-, ⟨s, w1, w2, w3, w4⟩, -⟩
      · exact absurd w q2
      · refine ⟨(t, false) :: s, ⟨by omega, by omega, hm, q5, w1⟩, (hT _).mp w2, ?_, ?_⟩
        · rw [q3, w3]; simp only [rkL]
        · rw [q4, w4]; simp only [odL]
  · rintro r z ⟨s, k1, k2, k3, k4⟩
    cases s with
    | nil => exact absurd k1.1 (by omega)
    | cons x s =>
      obtain ⟨t, b⟩ := x
      have hin : lo ≤ t ∧ t ≤ hi := Classical.byContradiction fun w => out t b s w k1 k2
      cases b with
      | true =>
        obtain ⟨m1, m2, m3, m4⟩ := k1
        by_cases q : t = sNb σ - 1
        · have m5 := okL_nb (σ := σ) (s := s) (o := 0) (by rw [show t + 1 = sNb σ by omega] at m4; exact m4)
          refine ⟨_, _, ⟨t, hin.1, hin.2, m3, Or.inl ⟨q, rfl, rfl⟩⟩, Or.inr ⟨?_, ?_⟩⟩
          · rw [k3, m5.1]; simp only [rkL, pgc]; rw [if_pos q]; omega
          · rw [k4, m5.1]; simp only [odL]; omega
        · have hc : Cmp σ T' (t + 1) 0 (rkL σ s (t + 1) 0) (odL s) := ⟨s, m4, (hT _).mpr k2, rfl, rfl⟩
          rcases (tb t hin.1 hin.2 q).1 with ⟨-, w⟩ | ⟨w1, -, w3⟩
          · exact absurd hc (w _ _)
          · refine ⟨_, _, ⟨t, hin.1, hin.2, m3, Or.inr (Or.inl ⟨q, w1, rfl, rfl⟩)⟩, ?_⟩
            have w4 := w3 _ _ hc
            rw [k3, k4]; simp only [rkL, odL, pgc]; rw [if_neg q]
            omega
      | false =>
        obtain ⟨m1, m2, m3, m5, m4⟩ := k1
        have q : t ≠ sNb σ - 1 := by
          intro q
          have m6 := okL_nb (σ := σ) (s := s) (o := o + 1) (by rw [show t + 1 = sNb σ by omega] at m4; exact m4)
          omega
        have hc : Cmp σ T' (t + 1) (o + 1) (rkL σ s (t + 1) (o + 1)) (odL s) := ⟨s, m4, (hT _).mpr k2, rfl, rfl⟩
        rcases (tb t hin.1 hin.2 q).2 m5 with ⟨-, w⟩ | ⟨w1, -, w3⟩
        · exact absurd hc (w _ _)
        · refine ⟨_, _, ⟨t, hin.1, hin.2, m3, Or.inr (Or.inr ⟨q, m5, w1, rfl, rfl⟩)⟩, ?_⟩
          have w4 := w3 _ _ hc
          rw [k3, k4]; simp only [rkL, odL]
          omega
/-- a table's cell is none, or small -/
def okC (r z : Int) : Prop := r = 9223372036854775807 ∨ (0 ≤ r ∧ r ≤ 2256000000000000000 ∧ 0 ≤ z ∧ z ≤ 9007199254740992)
theorem Bst.okC {σ : Sg} (h : okS σ) {T : Nat → Prop} {f o R Z : Int} (h1 : 0 ≤ f) (h2 : f ≤ sNb σ) (h3 : 0 ≤ o) (B : Bst (Cmp σ T f o) R Z) : okC R Z := by
  have hn := h.1
  rcases B with ⟨w, -⟩ | ⟨-, ⟨s, w1, w2, w3, w4⟩, -⟩
  · exact Or.inl w
  · have := okL_B h s f o h1 h2 h3 w1
    refine Or.inr ?_
    omega
theorem lpr_t {σ : Sg} {a b : Int} (h : may σ a b) : lpr σ a b = cst σ a b := if_pos h
theorem lpr_f {σ : Sg} {a b : Int} (h : ¬ may σ a b) : lpr σ a b = -1 := if_neg h
theorem lpr_or (σ : Sg) (a b : Int) : (¬ may σ a b ∧ lpr σ a b = -1) ∨ (may σ a b ∧ lpr σ a b = cst σ a b) := by
  by_cases h : may σ a b
  · exact Or.inr ⟨h, lpr_t h⟩
  · exact Or.inl ⟨h, lpr_f h⟩
theorem fc_same {rk od rk0 od0 : Int → Int} {f o : Int} {N : Int → Int → Prop} (h : cellUp (updI rk (f * 8 + o) 9223372036854775807) (updI od (f * 8 + o) 9223372036854775807) rk0 od0 (f * 8 + o) N) : ∀ j, j ≠ f * 8 + o → rk0 j = rk j ∧ od0 j = od j := fun j hj => by
  have := h.1 j hj
  rw [updI_n hj, updI_n hj] at this
  exact this
theorem fc_step {σ : Sg} {rk od rk0 od0 rk1 od1 : Int → Int} {f o i lo hi : Int} {N : Int → Int → Prop} (h3 : cellUp (updI rk (f * 8 + o) 9223372036854775807) (updI od (f * 8 + o) 9223372036854775807) rk0 od0 (f * 8 + o) (fun r z => ∃ t, lo ≤ t ∧ t < i ∧ t ≤ hi ∧ OffT σ rk od f o t r z)) (hu : cellUp rk0 od0 rk1 od1 (f * 8 + o) N) (hN : ∀ r z, N r z ↔ OffT σ rk od f o i r z) (h1 : lo ≤ i) (h2 : i ≤ hi) : cellUp (updI rk (f * 8 + o) 9223372036854775807) (updI od (f * 8 + o) 9223372036854775807) rk1 od1 (f * 8 + o) (fun r z => ∃ t, lo ≤ t ∧ t < i + 1 ∧ t ≤ hi ∧ OffT σ rk od f o t r z) := by
  refine cellUp_congr (cellUp_trans h3 hu) (fun r z => ⟨fun w => ?_, fun w => ?_⟩)
  · rcases w with ⟨t, w1, w2, w3, w4⟩ | w
    · exact ⟨t, w1, by omega, w3, w4⟩
    · exact ⟨i, h1, by omega, h2, (hN r z).mp w⟩
  · obtain ⟨t, w1, w2, w3, w4⟩ := w
    by_cases q : t = i
    · subst q; exact Or.inr ((hN r z).mpr w4)
    · exact Or.inl ⟨t, w1, by omega, w3, w4⟩
theorem fc_end {σ : Sg} {rk od rk0 od0 : Int → Int} {f o i lo hi : Int} (h3 : cellUp (updI rk (f * 8 + o) 9223372036854775807) (updI od (f * 8 + o) 9223372036854775807) rk0 od0 (f * 8 + o) (fun r z => ∃ t, lo ≤ t ∧ t < i ∧ t ≤ hi ∧ OffT σ rk od f o t r z)) (hi0 : hi < i) : (∀ j, j ≠ f * 8 + o → rk0 j = rk j ∧ od0 j = od j) ∧ Bst (fun r z => ∃ t, lo ≤ t ∧ t ≤ hi ∧ OffT σ rk od f o t r z) (rk0 (f * 8 + o)) (od0 (f * 8 + o)) := by
  refine ⟨fc_same h3, ?_⟩
  have h4 := h3.2.2 (fun _ _ => False) (Or.inl ⟨updI_s _ _ _, fun _ _ w => w⟩)
  refine h4.congr (fun r z => ⟨fun w => ?_, fun w => ?_⟩)
  · rcases w with w | ⟨t, w1, w2, w3, w4⟩
    · exact w.elim
    · exact ⟨t, w1, w3, w4⟩
  · obtain ⟨t, w1, w3, w4⟩ := w
    exact Or.inr ⟨t, w1, by omega, w3, w4⟩
theorem off_last {σ : Sg} {rk od : Int → Int} {f o t X : Int} (hm : may σ f t) (e : t = sNb σ - 1) (hX : X = 1024 * cst σ f t + 1 + (1024 * wdw σ f o + 32)) (r z : Int) : (r = X ∧ z = leB t + peB t) ↔ OffT σ rk od f o t r z := by
  subst hX
  constructor
  · intro w; exact ⟨hm, Or.inl ⟨e, w.1, w.2⟩⟩
  · rintro ⟨-, w | w | w⟩
    · exact w.2
    · exact absurd e w.1
    · exact absurd e w.1
theorem off_go {σ : Sg} {rk od rk0 od0 : Int → Int} {f o t X : Int} (hm : may σ f t) (e : ¬ t = sNb σ - 1) (hX : X = 1024 * cst σ f t + 1) (h1 : rk0 ((t + 1) * 8) = rk ((t + 1) * 8) ∧ od0 ((t + 1) * 8) = od ((t + 1) * 8)) (h2 : rk0 ((t + 1) * 8 + (o + 1)) = rk ((t + 1) * 8 + (o + 1)) ∧ od0 ((t + 1) * 8 + (o + 1)) = od ((t + 1) * 8 + (o + 1))) (r z : Int) :
    ((rk0 ((t + 1) * 8) ≠ 9223372036854775807 ∧ r = X + (1024 * trn σ t + 32) + rk0 ((t + 1) * 8) ∧ z = leB t + peB t + od0 ((t + 1) * 8)) ∨ (o + 1 < sPp σ ∧ rk0 ((t + 1) * 8 + (o + 1)) ≠ 9223372036854775807 ∧ r = X + rk0 ((t + 1) * 8 + (o + 1)) ∧ z = leB t + od0 ((t + 1) * 8 + (o + 1)))) ↔ OffT σ rk od f o t r z := by
  rw [h1.1, h1.2, h2.1, h2.2]
  subst hX
  constructor
  · rintro (w | w)
    · exact ⟨hm, Or.inr (Or.inl ⟨e, w⟩)⟩
    · exact ⟨hm, Or.inr (Or.inr ⟨e, w⟩)⟩
  · rintro ⟨-, w | w | w⟩
    · exact absurd w.1 e
    · exact Or.inl w.2
    · exact Or.inr w.2
theorem off_B {σ : Sg} (h : okS σ) {rk od : Int → Int} {f o t r z : Int} (h1 : 0 ≤ f) (h2 : f ≤ t) (h3 : t < sNb σ) (hk : t ≠ sNb σ - 1 → okC (rk ((t + 1) * 8)) (od ((t + 1) * 8)) ∧ (o + 1 < sPp σ → okC (rk ((t + 1) * 8 + (o + 1))) (od ((t + 1) * 8 + (o + 1))))) (w : OffT σ rk od f o t r z) : i64 r ∧ i64 z := by
  have hn := h.1
  have b1 := cstB h h1 h2 h3
  have b2 := trnB h t
  have b3 := wdwB h f o
  have b4 := leB_B (b := t) (by omega) (by omega)
  have b5 := peB_B (b := t) (by omega) (by omega)
  unfold i64
  obtain ⟨-, w | w | w⟩ := w
  · omega
  · have := (hk w.1).1; unfold okC at this; omega
  · have := (hk w.1).2 w.2.1; unfold okC at this; omega
theorem fc_64 {rk0 od0 rk1 od1 : Int → Int} {c : Int} {N : Int → Int → Prop} (h : i64 (rk0 c) ∧ i64 (od0 c)) (hu : cellUp rk0 od0 rk1 od1 c N) (hN : ∀ r z, N r z → i64 r ∧ i64 z) : i64 (rk1 c) ∧ i64 (od1 c) := by
  rcases hu.2.1 with w | w
  · rw [w.1, w.2]; exact h
  · exact hN _ _ w
/-! the tables filled: any count; a count -/
def TT : Nat → Prop := fun _ => True
def Tn (n : Int) : Nat → Prop := fun k => (k : Int) = n
def Tc (σ : Sg) : Nat → Prop := fun k => sCt σ = 0 ∨ (k : Int) = sCt σ
def tabA (σ : Sg) (T : Nat → Prop) (rk od : Int → Int) (a : Int) : Prop := ∀ f o, a < f → f < sNb σ → 0 ≤ o → o < sPp σ → o ≤ f → Bst (Cmp σ T f o) (rk (f * 8 + o)) (od (f * 8 + o))
def rowA (σ : Sg) (T : Nat → Prop) (rk od : Int → Int) (a o : Int) : Prop := tabA σ T rk od a ∧ ∀ x, 0 ≤ x → x < o → Bst (Cmp σ T a x) (rk (a * 8 + x)) (od (a * 8 + x))
theorem tabA_tb {σ : Sg} (h : okS σ) {T : Nat → Prop} {rk od : Int → Int} {a o : Int} (H : tabA σ T rk od a) (ha : 0 ≤ a) (ho : 0 ≤ o) (hoa : o ≤ a) (t : Int) (h1 : a ≤ t) (h2 : t ≤ sNb σ - 1) (h3 : t ≠ sNb σ - 1) : Bst (Cmp σ T (t + 1) 0) (rk ((t + 1) * 8)) (od ((t + 1) * 8)) ∧ (o + 1 < sPp σ → Bst (Cmp σ T (t + 1) (o + 1)) (rk ((t + 1) * 8 + (o + 1))) (od ((t + 1) * 8 + (o + 1)))) := by
  have hp := h.2.2.1
  refine ⟨?_, fun w => H (t + 1) (o + 1) (by omega) (by omega) (by omega) w (by omega)⟩
  have := H (t + 1) 0 (by omega) (by omega) (by omega) (by omega) (by omega)
  rw [Int.add_zero] at this
  exact this
theorem tabA_ok {σ : Sg} (h : okS σ) {T : Nat → Prop} {rk od : Int → Int} {a o : Int} (H : tabA σ T rk od a) (ha : 0 ≤ a) (ho : 0 ≤ o) (hoa : o ≤ a) (t : Int) (h1 : a ≤ t) (h2 : t ≤ sNb σ - 1) (h3 : t ≠ sNb σ - 1) : okC (rk ((t + 1) * 8)) (od ((t + 1) * 8)) ∧ (o + 1 < sPp σ → okC (rk ((t + 1) * 8 + (o + 1))) (od ((t + 1) * 8 + (o + 1)))) := by
  have B := tabA_tb h H ha ho hoa t h1 h2 h3
  exact ⟨B.1.okC h (by omega) (by omega) (by omega), fun w => (B.2 w).okC h (by omega) (by omega) (by omega)⟩
theorem fill_any {σ : Sg} (h : okS σ) {rk od : Int → Int} {a o R Z : Int} (H : tabA σ TT rk od a) (ha : 0 ≤ a) (hb : a < sNb σ) (ho : 0 ≤ o) (hoa : o ≤ a) (B : Bst (fun r z => ∃ t, a ≤ t ∧ t ≤ sNb σ - 1 ∧ OffT σ rk od a o t r z) R Z) : Bst (Cmp σ TT a o) R Z := by
  refine off_sem h (T := TT) (T' := TT) (fun n => Iff.rfl) hb ho (Int.le_refl a) (by omega) (tabA_tb h H ha ho hoa) ?_ (fun _ _ => trivial) B
  intro t b s w k
  exfalso
  apply w
  cases b with
  | true => exact ⟨k.1, by have := k.2.1; omega⟩
  | false => exact ⟨k.1, by have := k.2.1; omega⟩
theorem rowA_step {σ : Sg} {T : Nat → Prop} {rk od rk1 od1 : Int → Int} {a o : Int} (h : okS σ) (H : rowA σ T rk od a o) (ho : 0 ≤ o) (ho2 : o < sPp σ) (same : ∀ j, j ≠ a * 8 + o → rk1 j = rk j ∧ od1 j = od j) (B : Bst (Cmp σ T a o) (rk1 (a * 8 + o)) (od1 (a * 8 + o))) : rowA σ T rk1 od1 a (o + 1) := by
  have hp := h.2.2.1
  refine ⟨fun f x h1 h2 h3 h4 h5 => ?_, fun x h1 h2 => ?_⟩
  · have e := same (f * 8 + x) (by omega)
    rw [e.1, e.2]; exact H.1 f x h1 h2 h3 h4 h5
  · by_cases q : x = o
    · rw [q]; exact B
    · have e := same (a * 8 + x) (by omega)
      rw [e.1, e.2]; exact H.2 x h1 (by omega)
theorem rowA_end {σ : Sg} {T : Nat → Prop} {rk od : Int → Int} {a o : Int} (H : rowA σ T rk od a o) (ho : min (sPp σ - 1) a < o) : tabA σ T rk od (a - 1) := by
  intro f x h1 h2 h3 h4 h5
  by_cases q : f = a
  · rw [q]; exact H.2 x h3 (by omega)
  · exact H.1 f x (by omega) h2 h3 h4 h5
def tC (σ : Sg) (n u lo hi : Int) (rk od : Int → Int) : Prop := ∀ f o, lo ≤ f → f ≤ hi → 0 ≤ o → o < sPp σ → o ≤ u → Bst (Cmp σ (Tn n) f o) (rk (f * 8 + o)) (od (f * 8 + o))
theorem tC_tb {σ : Sg} (h : okS σ) {n u f o : Int} {rk od : Int → Int} (H : tC σ n u (f + 1) (sNb σ - n) rk od) (ho : 0 ≤ o) (hu : o + 1 ≤ u) (t : Int) (h1 : f ≤ t) (h2 : t + 1 ≤ sNb σ - n) : Bst (Cmp σ (Tn n) (t + 1) 0) (rk ((t + 1) * 8)) (od ((t + 1) * 8)) ∧ (o + 1 < sPp σ → Bst (Cmp σ (Tn n) (t + 1) (o + 1)) (rk ((t + 1) * 8 + (o + 1))) (od ((t + 1) * 8 + (o + 1)))) := by
  have hp := h.2.2.1
  refine ⟨?_, fun w => H (t + 1) (o + 1) (by omega) (by omega) (by omega) w (by omega)⟩
  have := H (t + 1) 0 (by omega) (by omega) (by omega) (by omega) (by omega)
  rw [Int.add_zero] at this
  exact this
theorem tC_ok {σ : Sg} (h : okS σ) {n u f o lo : Int} {rk od : Int → Int} (H : n = 1 ∨ tC σ (n - 1) u (f + 1) (sNb σ - (n - 1)) rk od) (hn : 1 ≤ n) (hf : 0 ≤ f) (hlo : lo = if n = 1 then sNb σ - n else f) (ho : 0 ≤ o) (hu : o + 1 ≤ u) (t : Int) (h1 : lo ≤ t) (h2 : t ≤ sNb σ - n) (h3 : t ≠ sNb σ - 1) : okC (rk ((t + 1) * 8)) (od ((t + 1) * 8)) ∧ (o + 1 < sPp σ → okC (rk ((t + 1) * 8 + (o + 1))) (od ((t + 1) * 8 + (o + 1)))) := by
  by_cases q : n = 1
  · rw [if_pos q] at hlo; omega
  · rw [if_neg q] at hlo
    have B := tC_tb h (H.resolve_left q) ho hu t (by omega) (by omega)
    exact ⟨B.1.okC h (by omega) (by omega) (by omega), fun w => (B.2 w).okC h (by omega) (by omega) (by omega)⟩
theorem fill_cnt {σ : Sg} (h : okS σ) {n u f o lo R Z : Int} {rk od : Int → Int} (H : n = 1 ∨ tC σ (n - 1) u (f + 1) (sNb σ - (n - 1)) rk od) (hn : 1 ≤ n) (hf : 0 ≤ f) (hfn : f ≤ sNb σ - n) (hlo : lo = if n = 1 then sNb σ - n else f) (ho : 0 ≤ o) (hu : o + 1 ≤ u) (B : Bst (fun r z => ∃ t, lo ≤ t ∧ t ≤ sNb σ - n ∧ OffT σ rk od f o t r z) R Z) : Bst (Cmp σ (Tn n) f o) R Z := by
  refine off_sem h (T := Tn n) (T' := Tn (n - 1)) (fun k => by unfold Tn; omega) (by omega) ho (by split at hlo <;> omega) (by omega) ?_ ?_ ?_ B
  · intro t h1 h2 h3
    by_cases q : n = 1
    · rw [if_pos q] at hlo; omega
    · rw [if_neg q] at hlo
      exact tC_tb h (H.resolve_left q) ho hu t (by omega) (by omega)
  · intro t b s w k
    unfold Tn
    have hk : f ≤ t ∧ t < sNb σ ∧ (s.length : Int) ≤ sNb σ - (t + 1) := by
      cases b with
      | true => exact ⟨k.1, k.2.1, (okL_B h s (t + 1) 0 (by have := k.1; omega) (by have := k.2.1; omega) (by omega) k.2.2.2).2.2⟩
      | false => exact ⟨k.1, k.2.1, (okL_B h s (t + 1) (o + 1) (by have := k.1; omega) (by have := k.2.1; omega) (by omega) k.2.2.2.2).2.2⟩
    by_cases q : n = 1
    · rw [if_pos q] at hlo
      intro e
      have hl : s = [] := by
        cases s with
        | nil => rfl
        | cons x s => simp at e; omega
      subst hl
      have : t + 1 = sNb σ := by
        cases b with
        | true => exact k.2.2.2.1
        | false => exact k.2.2.2.2.1
      exact w ⟨by omega, by omega⟩
    · rw [if_neg q] at hlo
      omega
  · intro h1 h2
    unfold Tn
    omega
def rowC (σ : Sg) (n u f : Int) (rk od : Int → Int) (o : Int) : Prop := (n = 1 ∨ tC σ (n - 1) (u + 1) (f + 1) (sNb σ - (n - 1)) rk od) ∧ tC σ n u u (f - 1) rk od ∧ ∀ x, 0 ≤ x → x < o → Bst (Cmp σ (Tn n) f x) (rk (f * 8 + x)) (od (f * 8 + x))
theorem rowC_step {σ : Sg} (h : okS σ) {n u f o : Int} {rk od rk1 od1 : Int → Int} (H : rowC σ n u f rk od o) (ho : 0 ≤ o) (ho2 : o < sPp σ) (same : ∀ j, j ≠ f * 8 + o → rk1 j = rk j ∧ od1 j = od j) (B : Bst (Cmp σ (Tn n) f o) (rk1 (f * 8 + o)) (od1 (f * 8 + o))) : rowC σ n u f rk1 od1 (o + 1) := by
  have hp := h.2.2.1
  refine ⟨H.1.imp id (fun w a x h1 h2 h3 h4 h5 => ?_), fun a x h1 h2 h3 h4 h5 => ?_, fun x h1 h2 => ?_⟩
  · have e := same (a * 8 + x) (by omega)
    rw [e.1, e.2]; exact w a x h1 h2 h3 h4 h5
  · have e := same (a * 8 + x) (by omega)
    rw [e.1, e.2]; exact H.2.1 a x h1 h2 h3 h4 h5
  · by_cases q : x = o
    · rw [q]; exact B
    · have e := same (f * 8 + x) (by omega)
      rw [e.1, e.2]; exact H.2.2 x h1 (by omega)
theorem rowC_next {σ : Sg} {n u f o : Int} {rk od : Int → Int} (H : rowC σ n u f rk od o) (ho : min (sPp σ - 1) u < o) : rowC σ n u (f + 1) rk od 0 := by
  refine ⟨H.1.imp id (fun w a x h1 h2 h3 h4 h5 => w a x (by omega) h2 h3 h4 h5), fun a x h1 h2 h3 h4 h5 => ?_, fun x h1 h2 => by omega⟩
  by_cases q : a = f
  · rw [q]; exact H.2.2 x h3 (by omega)
  · exact H.2.1 a x h1 (by omega) h3 h4 h5
theorem Full_empty {σ : Sg} (h : okS σ) (hc : sNb σ < sCt σ) : ∀ r z, ¬ Cmp σ (Tc σ) 0 0 r z := by
  rintro r z ⟨s, k1, k2, -, -⟩
  have hn := h.1
  have := (okL_B h s 0 0 (by omega) (by omega) (by omega) k1).2.2
  unfold Tc at k2
  omega
theorem Full_none {σ : Sg} (h0 : sNb σ = 0) {x : Int} (hx : x = if sCt σ = 0 then 0 else 9223372036854775807) : Bst (Cmp σ (Tc σ) 0 0) x 0 := by
  by_cases q : sCt σ = 0
  · rw [if_pos q] at hx
    refine Or.inr ⟨by omega, ⟨[], ⟨h0.symm, rfl⟩, Or.inl q, hx, rfl⟩, ?_⟩
    rintro r z ⟨s, k1, k2, k3, k4⟩
    have := okL_nb (σ := σ) (s := s) (o := 0) (by rw [h0]; exact k1)
    rw [this.1] at k3 k4
    right
    exact ⟨by rw [hx, k3]; rfl, by rw [k4]; exact Int.le_refl _⟩
  · rw [if_neg q] at hx
    refine Or.inl ⟨hx, ?_⟩
    rintro r z ⟨s, k1, k2, k3, k4⟩
    have := okL_nb (σ := σ) (s := s) (o := 0) (by rw [h0]; exact k1)
    rw [this.1] at k2
    unfold Tc at k2
    simp at k2
    omega
theorem runJ {σ : Sg} {T : Nat → Prop} {R Z : Int} (B : Bst (Cmp σ T 0 0) R Z) (h : (sCt σ = 0 ∧ T = TT) ∨ (¬ sCt σ = 0 ∧ T = Tn (sCt σ))) : Bst (Cmp σ (Tc σ) 0 0) R Z := by
  rcases h with ⟨h1, h2⟩ | ⟨h1, h2⟩
  · subst h2
    exact B.congr (fun r z => ⟨fun ⟨s, w1, w2, w3⟩ => ⟨s, w1, Or.inl h1, w3⟩, fun ⟨s, w1, w2, w3⟩ => ⟨s, w1, trivial, w3⟩⟩)
  · subst h2
    exact B.congr (fun r z => ⟨fun ⟨s, w1, w2, w3⟩ => ⟨s, w1, Or.inr w2, w3⟩, fun ⟨s, w1, w2, w3⟩ => ⟨s, w1, w2.resolve_left h1, w3⟩⟩)
end
end
section
/-! the contracts of BreakLines$Search -/
noncomputable section
set_option maxHeartbeats 4000000 in
set_option maxRecDepth 100000 in
theorem kX1_lineEnd (l : Launch) (D : va_G) (cI cJ cZ : ClassId) (t : Int) (h : 0 ≤ t ∧ t < 24) : RoL l yX1_lineEnd wsX1_lineEnd 0 0 D (tyc cI cJ cZ) ([]) [.int (jI t)] (jL (leB t)) := by
  refine j_start RX1 rfl (by decide) rfl (Nat.le_of_ble_eq_true rfl) ?_
  intro p e s m below meth c ls hx hb hr hlocks hml hown hts hnm hl ⟨hP, hK⟩
  have hP : va_P D vwCl ([]) s.heap := hP
  have hl : lv_has ls 1 [(0, .int (jI t))] := hl
  refine j_lconst1 hx hb dX1_lineEnd_0 ?_
  refine j_bipush hx hb dX1_lineEnd_1 (by decide) ?_
  refine lv_iload_n hx hb dX1_lineEnd_3 rfl (lv_at hl 0 rfl) ?_
  refine j_isub hx hb dX1_lineEnd_4 ?_
  refine lv_lshl (v := (jL (leB t))) hx hb dX1_lineEnd_5 (jL_bit (by omega) (by omega)) ?_
  exact j_retL hx hb hr hlocks dX1_lineEnd_6 rfl
set_option maxHeartbeats 4000000 in
set_option maxRecDepth 100000 in
theorem kX1_pageEnd (l : Launch) (D : va_G) (cI cJ cZ : ClassId) (t : Int) (h : 0 ≤ t ∧ t < 24) : RoL l yX1_pageEnd wsX1_pageEnd 0 0 D (tyc cI cJ cZ) ([]) [.int (jI t)] (jL (peB t)) := by
  refine j_start RX1 rfl (by decide) rfl (Nat.le_of_ble_eq_true rfl) ?_
  intro p e s m below meth c ls hx hb hr hlocks hml hown hts hnm hl ⟨hP, hK⟩
  have hP : va_P D vwCl ([]) s.heap := hP
  have hl : lv_has ls 1 [(0, .int (jI t))] := hl
  refine j_lconst1 hx hb dX1_pageEnd_0 ?_
  refine j_bipush hx hb dX1_pageEnd_1 (by decide) ?_
  refine lv_iload_n hx hb dX1_pageEnd_3 rfl (lv_at hl 0 rfl) ?_
  refine j_isub hx hb dX1_pageEnd_4 ?_
  refine lv_lshl (v := (jL (peB t))) hx hb dX1_pageEnd_5 (jL_bit (by omega) (by omega)) ?_
  exact j_retL hx hb hr hlocks dX1_pageEnd_6 rfl
set_option maxHeartbeats 4000000 in
set_option maxRecDepth 100000 in
theorem kX1_hasFound (l : Launch) (D : va_G) (cI cJ cZ : ClassId) (q : Nat → Nat) (σ : Sg) (la wa : Int → Int) (mk : Nat → Int32) (hok : okP σ la wa mk) (lp tp rk od : Int → Int) (fr fo : Int) (h : i64 fr) : RoI l yX1_hasFound wsX1_hasFound 0 0 D (tyc cI cJ cZ) (wPc q cI (sNb σ) (sWd σ) (sPp σ) (sCt σ) (sCs σ) mk la wa ++ wSe q cJ lp tp rk od fr fo) [.ref (q 5)] (jZ (fr ≠ 9223372036854775807)) := by
  refine j_start RX1 rfl (by decide) rfl (Nat.le_of_ble_eq_true rfl) ?_
  intro p e s m below meth c ls hx hb hr hlocks hml hown hts hnm hl ⟨hP, hK⟩
  have hP : va_P D vwCl (wPc q cI (sNb σ) (sWd σ) (sPp σ) (sCt σ) (sCs σ) mk la wa ++ wSe q cJ lp tp rk od fr fo) s.heap := hP
  have hl : lv_has ls 1 [(0, .ref (q 5))] := hl
  have hinX1 : ∀ w ∈ u_ws RX1 TX1 7, w ∈ wsX1_hasFound := by decide +kernel
  unfold i64 at h
  refine lv_aload_n hx hb dX1_hasFound_0 rfl (lv_at hl 0 rfl) ?_
  refine va_get (D := D) (ci := 1) (v := .long (jL fr)) (C := RX1) (T := TX1) (N := 7) hx hb hts hinX1 hown hK hP 5 rfl rfl 5 (by decide) (hts (.fieldLink RX1 32 "BreakLines$Search" "foundRank" "J") (by decide +kernel)) (fun _ h9 => h9) rfl dX1_hasFound_1 ?_
  refine lv_ldc2 (v := jL 9223372036854775807) hx hb hown (hts (.constantLong RX1 30 (9223372036854775807)) (by decide +kernel)) dX1_hasFound_4 ?_
  refine j_lcmp_eq (tgt := 15) hx hb (by unfold i64; omega) dX1_hasFound_7 dX1_hasFound_8 (by decide) (fun c7 => ?_) (fun c7 => ?_)
  · skip
    refine j_iconst hx hb dX1_hasFound_15 ?_
    exact j_retZ hx hb hr (by decide) hlocks dX1_hasFound_16 ((jZ_f (by omega)).symm)
  · skip
    refine j_iconst hx hb dX1_hasFound_11 ?_
    refine lv_goto (tgt := 16) hx hb dX1_hasFound_12 (by decide) ?_
    exact j_retZ hx hb hr (by decide) hlocks dX1_hasFound_16 ((jZ_t (by omega)).symm)
set_option maxHeartbeats 4000000 in
set_option maxRecDepth 100000 in
theorem kX1_foundTotal (l : Launch) (D : va_G) (cI cJ cZ : ClassId) (q : Nat → Nat) (σ : Sg) (la wa : Int → Int) (mk : Nat → Int32) (hok : okP σ la wa mk) (lp tp rk od : Int → Int) (fr fo : Int) (h : 0 ≤ fr ∧ fr ≤ 9223372036854775807) : RoL l yX1_foundTotal wsX1_foundTotal 1 20 D (tyc cI cJ cZ) (wPc q cI (sNb σ) (sWd σ) (sPp σ) (sCt σ) (sCs σ) mk la wa ++ wSe q cJ lp tp rk od fr fo) [.ref (q 5)] (jL (if fr = 9223372036854775807 then -1 else fr / 1024)) := by
  refine j_start RX1 rfl (by decide) rfl (Nat.le_of_ble_eq_true rfl) ?_
  intro p e s m below meth c ls hx hb hr hlocks hml hown hts hnm hl ⟨hP, hK⟩
  have hP : va_P D vwCl (wPc q cI (sNb σ) (sWd σ) (sPp σ) (sCt σ) (sCs σ) mk la wa ++ wSe q cJ lp tp rk od fr fo) s.heap := hP
  have hl : lv_has ls 1 [(0, .ref (q 5))] := hl
  have hinX1 : ∀ w ∈ u_ws RX1 TX1 7, w ∈ wsX1_foundTotal := by decide +kernel
  refine lv_aload_n hx hb dX1_foundTotal_0 rfl (lv_at hl 0 rfl) ?_
  refine j_cVI (As := []) (rest := []) ⟨hx, hb, hml, hown, hts⟩ (kX1_hasFound l D cI cJ cZ q σ la wa mk hok lp tp rk od fr fo  (by unfold i64; omega)) (cwV 0 hts gX1_foundTotal_X1_hasFound rfl rfl rfl (by decide +kernel) ⟨Nat.le_of_ble_eq_true rfl, Nat.le_of_ble_eq_true rfl⟩) hK hP (va_recv hK hP (ci := 1) (q0 := 5) rfl rfl) rfl hl.1 rfl (Nat.le_of_ble_eq_true rfl) ⟨Nat.zero_le _, Nat.zero_le _⟩ dX1_foundTotal_1 ?_
  refine j_ifeqZ (tgt := 18) hx hb dX1_foundTotal_4 (by decide) (fun c4 => ?_) (fun c4 => ?_)
  · skip
    refine lv_ldc2 (v := jL (-1)) hx hb hown (hts (.constantLong RX1 64 (-1)) (by decide +kernel)) dX1_foundTotal_18 ?_
    exact j_retL hx hb hr hlocks dX1_foundTotal_21 (congrArg jL (by rw [if_pos (Classical.not_not.mp c4)]))
  · skip
    refine lv_aload_n hx hb dX1_foundTotal_7 rfl (lv_at hl 0 rfl) ?_
    refine va_get (D := D) (ci := 1) (v := .long (jL fr)) (C := RX1) (T := TX1) (N := 7) hx hb hts hinX1 hown hK hP 5 rfl rfl 5 (by decide) (hts (.fieldLink RX1 32 "BreakLines$Search" "foundRank" "J") (by decide +kernel)) (fun _ h9 => h9) rfl dX1_foundTotal_8 ?_
    refine lv_ldc2 (v := jL 1024) hx hb hown (hts (.constantLong RX1 62 (1024)) (by decide +kernel)) dX1_foundTotal_11 ?_
    refine j_ldiv hx hb (by omega) dX1_foundTotal_14 ?_
    refine lv_goto (tgt := 21) hx hb dX1_foundTotal_15 (by decide) ?_
    exact j_retL hx hb hr hlocks dX1_foundTotal_21 (congrArg jL (by rw [if_neg c4]))
set_option maxHeartbeats 4000000 in
set_option maxRecDepth 100000 in
theorem kX1_lineEndsAt (l : Launch) (D : va_G) (cI cJ cZ : ClassId) (q : Nat → Nat) (σ : Sg) (la wa : Int → Int) (mk : Nat → Int32) (hok : okP σ la wa mk) (lp tp rk od : Int → Int) (fr fo : Int) (t : Int) (h : (0 ≤ fo ∧ fo ≤ 9223372036854775807) ∧ 0 ≤ t ∧ t < 24) : RoI l yX1_lineEndsAt wsX1_lineEndsAt 1 20 D (tyc cI cJ cZ) (wPc q cI (sNb σ) (sWd σ) (sPp σ) (sCt σ) (sCs σ) mk la wa ++ wSe q cJ lp tp rk od fr fo) [.ref (q 5), .int (jI t)] (jZ (fo / leB t % 2 = 1)) := by
  refine j_start RX1 rfl (by decide) rfl (Nat.le_of_ble_eq_true rfl) ?_
  intro p e s m below meth c ls hx hb hr hlocks hml hown hts hnm hl ⟨hP, hK⟩
  have hP : va_P D vwCl (wPc q cI (sNb σ) (sWd σ) (sPp σ) (sCt σ) (sCs σ) mk la wa ++ wSe q cJ lp tp rk od fr fo) s.heap := hP
  have hl : lv_has ls 2 [(0, .ref (q 5)), (1, .int (jI t))] := hl
  have hinX1 : ∀ w ∈ u_ws RX1 TX1 7, w ∈ wsX1_lineEndsAt := by decide +kernel
  refine lv_aload_n hx hb dX1_lineEndsAt_0 rfl (lv_at hl 0 rfl) ?_
  refine va_get (D := D) (ci := 1) (v := .long (jL fo)) (C := RX1) (T := TX1) (N := 7) hx hb hts hinX1 hown hK hP 5 rfl rfl 6 (by decide) (hts (.fieldLink RX1 36 "BreakLines$Search" "foundOrder" "J") (by decide +kernel)) (fun _ h9 => h9) rfl dX1_lineEndsAt_1 ?_
  refine lv_iload_n hx hb dX1_lineEndsAt_4 rfl (lv_at hl 1 rfl) ?_
  refine j_cSL (As := [.int (jI t)]) (rest := [.long (jL fo)]) ⟨hx, hb, hml, hown, hts⟩ (kX1_lineEnd l D cI cJ cZ t (by omega)) (va_cwS 1 hts gX1_lineEndsAt_X1_lineEnd rfl rfl rfl (by decide +kernel) ⟨Nat.le_of_ble_eq_true rfl, Nat.le_of_ble_eq_true rfl⟩) hK (hP.sub [] rfl) rfl hl.1 rfl (Nat.le_of_ble_eq_true rfl) ⟨Nat.zero_le _, Nat.zero_le _⟩ dX1_lineEndsAt_5 ?_
  refine lv_land hx hb dX1_lineEndsAt_8 ?_
  refine j_lconst0 hx hb dX1_lineEndsAt_9 ?_
  refine W.lcmp hx hb dX1_lineEndsAt_10 (lv_if_eq (tgt := 18) hx hb dX1_lineEndsAt_11 (by decide) (fun c10 => ?_) (fun c10 => ?_))
  · skip
    refine j_iconst hx hb dX1_lineEndsAt_18 ?_
    exact j_retZ hx hb hr (by decide) hlocks dX1_lineEndsAt_19 ((jZ_f (by unfold leB; first | exact fun w => ((jL_and (o := fo) h.1.1 (by omega) (by omega)).mp ((lg_cmp_eq _ _).mp c10)) w | exact Classical.byContradiction (fun w => c10 ((lg_cmp_eq _ _).mpr ((jL_and (o := fo) h.1.1 (by omega) (by omega)).mpr w))))).symm)
  · skip
    refine j_iconst hx hb dX1_lineEndsAt_14 ?_
    refine lv_goto (tgt := 19) hx hb dX1_lineEndsAt_15 (by decide) ?_
    exact j_retZ hx hb hr (by decide) hlocks dX1_lineEndsAt_19 ((jZ_t (by unfold leB; first | exact fun w => ((jL_and (o := fo) h.1.1 (by omega) (by omega)).mp ((lg_cmp_eq _ _).mp c10)) w | exact Classical.byContradiction (fun w => c10 ((lg_cmp_eq _ _).mpr ((jL_and (o := fo) h.1.1 (by omega) (by omega)).mpr w))))).symm)
set_option maxHeartbeats 4000000 in
set_option maxRecDepth 100000 in
theorem kX1_pageEndsAt (l : Launch) (D : va_G) (cI cJ cZ : ClassId) (q : Nat → Nat) (σ : Sg) (la wa : Int → Int) (mk : Nat → Int32) (hok : okP σ la wa mk) (lp tp rk od : Int → Int) (fr fo : Int) (t : Int) (h : (0 ≤ fo ∧ fo ≤ 9223372036854775807) ∧ 0 ≤ t ∧ t < 24) : RoI l yX1_pageEndsAt wsX1_pageEndsAt 1 20 D (tyc cI cJ cZ) (wPc q cI (sNb σ) (sWd σ) (sPp σ) (sCt σ) (sCs σ) mk la wa ++ wSe q cJ lp tp rk od fr fo) [.ref (q 5), .int (jI t)] (jZ (fo / peB t % 2 = 1)) := by
  refine j_start RX1 rfl (by decide) rfl (Nat.le_of_ble_eq_true rfl) ?_
  intro p e s m below meth c ls hx hb hr hlocks hml hown hts hnm hl ⟨hP, hK⟩
  have hP : va_P D vwCl (wPc q cI (sNb σ) (sWd σ) (sPp σ) (sCt σ) (sCs σ) mk la wa ++ wSe q cJ lp tp rk od fr fo) s.heap := hP
  have hl : lv_has ls 2 [(0, .ref (q 5)), (1, .int (jI t))] := hl
  have hinX1 : ∀ w ∈ u_ws RX1 TX1 7, w ∈ wsX1_pageEndsAt := by decide +kernel
  refine lv_aload_n hx hb dX1_pageEndsAt_0 rfl (lv_at hl 0 rfl) ?_
  refine va_get (D := D) (ci := 1) (v := .long (jL fo)) (C := RX1) (T := TX1) (N := 7) hx hb hts hinX1 hown hK hP 5 rfl rfl 6 (by decide) (hts (.fieldLink RX1 36 "BreakLines$Search" "foundOrder" "J") (by decide +kernel)) (fun _ h9 => h9) rfl dX1_pageEndsAt_1 ?_
  refine lv_iload_n hx hb dX1_pageEndsAt_4 rfl (lv_at hl 1 rfl) ?_
  refine j_cSL (As := [.int (jI t)]) (rest := [.long (jL fo)]) ⟨hx, hb, hml, hown, hts⟩ (kX1_pageEnd l D cI cJ cZ t (by omega)) (va_cwS 1 hts gX1_pageEndsAt_X1_pageEnd rfl rfl rfl (by decide +kernel) ⟨Nat.le_of_ble_eq_true rfl, Nat.le_of_ble_eq_true rfl⟩) hK (hP.sub [] rfl) rfl hl.1 rfl (Nat.le_of_ble_eq_true rfl) ⟨Nat.zero_le _, Nat.zero_le _⟩ dX1_pageEndsAt_5 ?_
  refine lv_land hx hb dX1_pageEndsAt_8 ?_
  refine j_lconst0 hx hb dX1_pageEndsAt_9 ?_
  refine W.lcmp hx hb dX1_pageEndsAt_10 (lv_if_eq (tgt := 18) hx hb dX1_pageEndsAt_11 (by decide) (fun c10 => ?_) (fun c10 => ?_))
  · skip
    refine j_iconst hx hb dX1_pageEndsAt_18 ?_
    exact j_retZ hx hb hr (by decide) hlocks dX1_pageEndsAt_19 ((jZ_f (by unfold peB; first | exact fun w => ((jL_and (o := fo) h.1.1 (by omega) (by omega)).mp ((lg_cmp_eq _ _).mp c10)) w | exact Classical.byContradiction (fun w => c10 ((lg_cmp_eq _ _).mpr ((jL_and (o := fo) h.1.1 (by omega) (by omega)).mpr w))))).symm)
  · skip
    refine j_iconst hx hb dX1_pageEndsAt_14 ?_
    refine lv_goto (tgt := 19) hx hb dX1_pageEndsAt_15 (by decide) ?_
    exact j_retZ hx hb hr (by decide) hlocks dX1_pageEndsAt_19 ((jZ_t (by unfold peB; first | exact fun w => ((jL_and (o := fo) h.1.1 (by omega) (by omega)).mp ((lg_cmp_eq _ _).mp c10)) w | exact Classical.byContradiction (fun w => c10 ((lg_cmp_eq _ _).mpr ((jL_and (o := fo) h.1.1 (by omega) (by omega)).mpr w))))).symm)
set_option maxHeartbeats 4000000 in
set_option maxRecDepth 100000 in
theorem kX1_offer (l : Launch) (D : va_G) (cI cJ cZ : ClassId) (q : Nat → Nat) (σ : Sg) (la wa : Int → Int) (mk : Nat → Int32) (hok : okP σ la wa mk) (lp tp rk od : Int → Int) (fr fo : Int) (c0 x y : Int) (h : (0 ≤ c0 ∧ c0 < 192) ∧ (0 ≤ x ∧ x < 9223372036854775807) ∧ i64 y ∧ i64 (rk c0) ∧ i64 (od c0)) : MuV l yX1_offer wsX1_offer 0 0 D (tyc cI cJ cZ) (wPc q cI (sNb σ) (sWd σ) (sPp σ) (sCt σ) (sCs σ) mk la wa ++ wSe q cJ lp tp rk od fr fo) [.ref (q 5), .int (jI c0), .long (jL x), .long (jL y)] (fun (u : (Int → Int) × (Int → Int)) => cellUp rk od u.1 u.2 c0 (fun r z => r = x ∧ z = y)) (fun u => wPc q cI (sNb σ) (sWd σ) (sPp σ) (sCt σ) (sCs σ) mk la wa ++ wSe q cJ lp tp u.1 u.2 fr fo) := by
  intro sz
  refine j_start RX1 rfl (by decide) rfl (Nat.le_of_ble_eq_true rfl) ?_
  intro p e s m below meth c ls hx hb hr hlocks hml hown hts hnm hl ⟨hsz, hP, hK, hD0⟩
  subst hsz
  have hD := hD0.self (sz := s.heap.size)
  generalize hAe : va_A (wPc q cI (sNb σ) (sWd σ) (sPp σ) (sCt σ) (sCs σ) mk la wa ++ wSe q cJ lp tp rk od fr fo) s.heap.size = A at hD ⊢
  have hA : ∀ q : Nat, s.heap.size ≤ q → A q := fun q h => by rw [← hAe]; exact Or.inr h
  refine j_gen (fun H locs hHe hLe => ?_)
  have hS : va_S A s.heap H locs := by rw [hHe, hLe]; exact va_S.rf
  have hP : va_P D vwCl (wPc q cI (sNb σ) (sWd σ) (sPp σ) (sCt σ) (sCs σ) mk la wa ++ wSe q cJ lp tp rk od fr fo) H := by rw [hHe]; exact hP
  have hD : va_D A (wPc q cI (sNb σ) (sWd σ) (sPp σ) (sCt σ) (sCs σ) mk la wa ++ wSe q cJ lp tp rk od fr fo) := hD
  have hl : lv_has ls 6 [(0, .ref (q 5)), (1, .int (jI c0)), (2, .long (jL x)), (4, .long (jL y))] := hl
  have hinX1 : ∀ w ∈ u_ws RX1 TX1 7, w ∈ wsX1_offer := by decide +kernel
  unfold i64 at h
  refine lv_lload_n hx hb dX1_offer_0 rfl (lv_at hl 2 rfl) ?_
  refine lv_aload_n hx hb dX1_offer_1 rfl (lv_at hl 0 rfl) ?_
  refine va_get (D := D) (ci := 1) (v := .ref (q 8)) (C := RX1) (T := TX1) (N := 7) hx hb hts hinX1 hown hK hP 5 rfl rfl 3 (by decide) (hts (.fieldLink RX1 24 "BreakLines$Search" "ranks" "[J") (by decide +kernel)) (fun _ h9 => h9) rfl dX1_offer_2 ?_
  refine lv_iload_n hx hb dX1_offer_5 rfl (lv_at hl 1 rfl) ?_
  refine j_lald hx hb hK hP 8 1 rfl rfl (i := c0) (by omega) (by decide) dX1_offer_6 ?_
  refine j_lcmp_lt (tgt := 34) hx hb (by unfold i64; omega) dX1_offer_7 dX1_offer_8 (by decide) (fun c7 => ?_) (fun c7 => ?_)
  · skip
    refine lv_aload_n hx hb dX1_offer_34 rfl (lv_at hl 0 rfl) ?_
    refine va_get (D := D) (ci := 1) (v := .ref (q 8)) (C := RX1) (T := TX1) (N := 7) hx hb hts hinX1 hown hK hP 5 rfl rfl 3 (by decide) (hts (.fieldLink RX1 24 "BreakLines$Search" "ranks" "[J") (by decide +kernel)) (fun _ h9 => h9) rfl dX1_offer_35 ?_
    refine lv_iload_n hx hb dX1_offer_38 rfl (lv_at hl 1 rfl) ?_
    refine lv_lload_n hx hb dX1_offer_39 rfl (lv_at hl 2 rfl) ?_
    refine j_last hx hb hK hP hD hS 8 1 rfl rfl (i := c0) (by omega) (by decide) dX1_offer_40 (fun H locs hP hD hS => ?_)
    have hP : va_P D vwCl (wPc q cI (sNb σ) (sWd σ) (sPp σ) (sCt σ) (sCs σ) mk la wa ++ wSe q cJ lp tp (updI rk c0 x) od fr fo) H := hP
    have hD : va_D A (wPc q cI (sNb σ) (sWd σ) (sPp σ) (sCt σ) (sCs σ) mk la wa ++ wSe q cJ lp tp (updI rk c0 x) od fr fo) := hD
    refine lv_aload_n hx hb dX1_offer_41 rfl (lv_at hl 0 rfl) ?_
    refine va_get (D := D) (ci := 1) (v := .ref (q 9)) (C := RX1) (T := TX1) (N := 7) hx hb hts hinX1 hown hK hP 5 rfl rfl 4 (by decide) (hts (.fieldLink RX1 27 "BreakLines$Search" "orders" "[J") (by decide +kernel)) (fun _ h9 => h9) rfl dX1_offer_42 ?_
    refine lv_iload_n hx hb dX1_offer_45 rfl (lv_at hl 1 rfl) ?_
    refine lv_lload hx hb dX1_offer_46 (lv_at hl 3 rfl) ?_
    refine j_last hx hb hK hP hD hS 9 1 rfl rfl (i := c0) (by omega) (by decide) dX1_offer_48 (fun H locs hP hD hS => ?_)
    have hP : va_P D vwCl (wPc q cI (sNb σ) (sWd σ) (sPp σ) (sCt σ) (sCs σ) mk la wa ++ wSe q cJ lp tp (updI rk c0 x) (updI od c0 y) fr fo) H := hP
    have hD : va_D A (wPc q cI (sNb σ) (sWd σ) (sPp σ) (sCt σ) (sCs σ) mk la wa ++ wSe q cJ lp tp (updI rk c0 x) (updI od c0 y) fr fo) := hD
    exact j_mretV hx hb hr hlocks hS dX1_offer_49 (updI rk c0 x, updI od c0 y) (cellUp_offer (by omega) (by omega)) hP
  · skip
    refine lv_lload_n hx hb dX1_offer_11 rfl (lv_at hl 2 rfl) ?_
    refine lv_aload_n hx hb dX1_offer_12 rfl (lv_at hl 0 rfl) ?_
    refine va_get (D := D) (ci := 1) (v := .ref (q 8)) (C := RX1) (T := TX1) (N := 7) hx hb hts hinX1 hown hK hP 5 rfl rfl 3 (by decide) (hts (.fieldLink RX1 24 "BreakLines$Search" "ranks" "[J") (by decide +kernel)) (fun _ h9 => h9) rfl dX1_offer_13 ?_
    refine lv_iload_n hx hb dX1_offer_16 rfl (lv_at hl 1 rfl) ?_
    refine j_lald hx hb hK hP 8 1 rfl rfl (i := c0) (by omega) (by decide) dX1_offer_17 ?_
    refine j_lcmp_ne (tgt := 49) hx hb (by unfold i64; omega) dX1_offer_18 dX1_offer_19 (by decide) (fun c18 => ?_) (fun c18 => ?_)
    · skip
      exact j_mretV hx hb hr hlocks hS dX1_offer_49 (rk, od) (cellUp_keep (by omega) (by omega)) hP
    · skip
      refine lv_lload hx hb dX1_offer_22 (lv_at hl 3 rfl) ?_
      refine lv_aload_n hx hb dX1_offer_24 rfl (lv_at hl 0 rfl) ?_
      refine va_get (D := D) (ci := 1) (v := .ref (q 9)) (C := RX1) (T := TX1) (N := 7) hx hb hts hinX1 hown hK hP 5 rfl rfl 4 (by decide) (hts (.fieldLink RX1 27 "BreakLines$Search" "orders" "[J") (by decide +kernel)) (fun _ h9 => h9) rfl dX1_offer_25 ?_
      refine lv_iload_n hx hb dX1_offer_28 rfl (lv_at hl 1 rfl) ?_
      refine j_lald hx hb hK hP 9 1 rfl rfl (i := c0) (by omega) (by decide) dX1_offer_29 ?_
      refine j_lcmp_ge (tgt := 49) hx hb (by unfold i64; omega) dX1_offer_30 dX1_offer_31 (by decide) (fun c30 => ?_) (fun c30 => ?_)
      · skip
        exact j_mretV hx hb hr hlocks hS dX1_offer_49 (rk, od) (cellUp_keep (by omega) (by omega)) hP
      · skip
        refine lv_aload_n hx hb dX1_offer_34 rfl (lv_at hl 0 rfl) ?_
        refine va_get (D := D) (ci := 1) (v := .ref (q 8)) (C := RX1) (T := TX1) (N := 7) hx hb hts hinX1 hown hK hP 5 rfl rfl 3 (by decide) (hts (.fieldLink RX1 24 "BreakLines$Search" "ranks" "[J") (by decide +kernel)) (fun _ h9 => h9) rfl dX1_offer_35 ?_
        refine lv_iload_n hx hb dX1_offer_38 rfl (lv_at hl 1 rfl) ?_
        refine lv_lload_n hx hb dX1_offer_39 rfl (lv_at hl 2 rfl) ?_
        refine j_last hx hb hK hP hD hS 8 1 rfl rfl (i := c0) (by omega) (by decide) dX1_offer_40 (fun H locs hP hD hS => ?_)
        have hP : va_P D vwCl (wPc q cI (sNb σ) (sWd σ) (sPp σ) (sCt σ) (sCs σ) mk la wa ++ wSe q cJ lp tp (updI rk c0 x) od fr fo) H := hP
        have hD : va_D A (wPc q cI (sNb σ) (sWd σ) (sPp σ) (sCt σ) (sCs σ) mk la wa ++ wSe q cJ lp tp (updI rk c0 x) od fr fo) := hD
        refine lv_aload_n hx hb dX1_offer_41 rfl (lv_at hl 0 rfl) ?_
        refine va_get (D := D) (ci := 1) (v := .ref (q 9)) (C := RX1) (T := TX1) (N := 7) hx hb hts hinX1 hown hK hP 5 rfl rfl 4 (by decide) (hts (.fieldLink RX1 27 "BreakLines$Search" "orders" "[J") (by decide +kernel)) (fun _ h9 => h9) rfl dX1_offer_42 ?_
        refine lv_iload_n hx hb dX1_offer_45 rfl (lv_at hl 1 rfl) ?_
        refine lv_lload hx hb dX1_offer_46 (lv_at hl 3 rfl) ?_
        refine j_last hx hb hK hP hD hS 9 1 rfl rfl (i := c0) (by omega) (by decide) dX1_offer_48 (fun H locs hP hD hS => ?_)
        have hP : va_P D vwCl (wPc q cI (sNb σ) (sWd σ) (sPp σ) (sCt σ) (sCs σ) mk la wa ++ wSe q cJ lp tp (updI rk c0 x) (updI od c0 y) fr fo) H := hP
        have hD : va_D A (wPc q cI (sNb σ) (sWd σ) (sPp σ) (sCt σ) (sCs σ) mk la wa ++ wSe q cJ lp tp (updI rk c0 x) (updI od c0 y) fr fo) := hD
        exact j_mretV hx hb hr hlocks hS dX1_offer_49 (updI rk c0 x, updI od c0 y) (cellUp_offer (by omega) (by omega)) hP
set_option maxHeartbeats 4000000 in
set_option maxRecDepth 100000 in
theorem kX1_offerGoingOn (l : Launch) (D : va_G) (cI cJ cZ : ClassId) (q : Nat → Nat) (σ : Sg) (la wa : Int → Int) (mk : Nat → Int32) (hok : okP σ la wa mk) (lp tp rk od : Int → Int) (fr fo : Int) (c0 x t o : Int) (h : (0 ≤ c0 ∧ c0 < ((t + 1) * 8)) ∧ (0 ≤ t ∧ t + 1 < sNb σ) ∧ (0 ≤ o ∧ o ≤ 8) ∧ (0 ≤ x ∧ x ≤ 94000000000000000)) (htp : tp t = trn σ t) (hk1 : okC (rk ((t + 1) * 8)) (od ((t + 1) * 8))) (hk2 : o < sPp σ → okC (rk (((t + 1) * 8) + o)) (od (((t + 1) * 8) + o))) (hk0 : i64 (rk c0) ∧ i64 (od c0)) : MuV l yX1_offerGoingOn wsX1_offerGoingOn 1 25 D (tyc cI cJ cZ) (wPc q cI (sNb σ) (sWd σ) (sPp σ) (sCt σ) (sCs σ) mk la wa ++ wSe q cJ lp tp rk od fr fo) [.ref (q 5), .int (jI c0), .long (jL x), .int (jI t), .int (jI o)] (fun (u : (Int → Int) × (Int → Int)) => cellUp rk od u.1 u.2 c0 (fun r z => (rk ((t + 1) * 8) ≠ 9223372036854775807 ∧ r = x + (1024 * trn σ t + 32) + rk ((t + 1) * 8) ∧ z = leB t + peB t + od ((t + 1) * 8)) ∨ (o < sPp σ ∧ rk (((t + 1) * 8) + o) ≠ 9223372036854775807 ∧ r = x + rk (((t + 1) * 8) + o) ∧ z = leB t + od (((t + 1) * 8) + o)))) (fun u => wPc q cI (sNb σ) (sWd σ) (sPp σ) (sCt σ) (sCs σ) mk la wa ++ wSe q cJ lp tp u.1 u.2 fr fo) := by
  intro sz
  refine j_start RX1 rfl (by decide) rfl (Nat.le_of_ble_eq_true rfl) ?_
  intro p e s m below meth c ls hx hb hr hlocks hml hown hts hnm hl ⟨hsz, hP, hK, hD0⟩
  subst hsz
  have hD := hD0.self (sz := s.heap.size)
  generalize hAe : va_A (wPc q cI (sNb σ) (sWd σ) (sPp σ) (sCt σ) (sCs σ) mk la wa ++ wSe q cJ lp tp rk od fr fo) s.heap.size = A at hD ⊢
  have hA : ∀ q : Nat, s.heap.size ≤ q → A q := fun q h => by rw [← hAe]; exact Or.inr h
  refine j_gen (fun H locs hHe hLe => ?_)
  have hS : va_S A s.heap H locs := by rw [hHe, hLe]; exact va_S.rf
  have hP : va_P D vwCl (wPc q cI (sNb σ) (sWd σ) (sPp σ) (sCt σ) (sCs σ) mk la wa ++ wSe q cJ lp tp rk od fr fo) H := by rw [hHe]; exact hP
  have hD : va_D A (wPc q cI (sNb σ) (sWd σ) (sPp σ) (sCt σ) (sCs σ) mk la wa ++ wSe q cJ lp tp rk od fr fo) := hD
  have hl : lv_has ls 9 [(0, .ref (q 5)), (1, .int (jI c0)), (2, .long (jL x)), (4, .int (jI t)), (5, .int (jI o))] := hl
  have hinX0 : ∀ w ∈ u_ws RX0 TX0 8, w ∈ wsX1_offerGoingOn := by decide +kernel
  have hinX1 : ∀ w ∈ u_ws RX1 TX1 7, w ∈ wsX1_offerGoingOn := by decide +kernel
  have hS0 := hok.1
  have hnb := hS0.1
  have hwd := hS0.2.1
  have hpp := hS0.2.2.1
  have ht := trnB hS0 t
  have hle := leB_B (b := t) (by omega) (by omega)
  have hpe := peB_B (b := t) (by omega) (by omega)
  unfold i64 at hk0
  unfold okC at hk1 hk2
  refine lv_iload hx hb dX1_offerGoingOn_0 (lv_at hl 3 rfl) ?_
  refine j_iconst hx hb dX1_offerGoingOn_2 ?_
  refine j_iadd hx hb dX1_offerGoingOn_3 ?_
  refine j_bipush hx hb dX1_offerGoingOn_4 (by decide) ?_
  refine j_imul hx hb dX1_offerGoingOn_6 ?_
  refine lv_istore (lv' := [(6, .int (jI ((t + 1) * 8))), (0, .ref (q 5)), (1, .int (jI c0)), (2, .long (jL x)), (4, .int (jI t)), (5, .int (jI o))]) hx hb dX1_offerGoingOn_7 hl (by decide) rfl (fun ls hl => ?_)
  refine lv_aload_n hx hb dX1_offerGoingOn_9 rfl (lv_at hl 1 rfl) ?_
  refine va_get (D := D) (ci := 1) (v := .ref (q 8)) (C := RX1) (T := TX1) (N := 7) hx hb hts hinX1 hown hK hP 5 rfl rfl 3 (by decide) (hts (.fieldLink RX1 24 "BreakLines$Search" "ranks" "[J") (by decide +kernel)) (fun _ h9 => h9) rfl dX1_offerGoingOn_10 ?_
  refine lv_iload hx hb dX1_offerGoingOn_13 (lv_at hl 0 rfl) ?_
  refine j_lald hx hb hK hP 8 1 rfl rfl (i := (t + 1) * 8) (by omega) (by decide) dX1_offerGoingOn_15 ?_
  refine lv_ldc2 (v := jL 9223372036854775807) hx hb hown (hts (.constantLong RX1 30 (9223372036854775807)) (by decide +kernel)) dX1_offerGoingOn_16 ?_
  refine j_joinM (α := (Int → Int) × (Int → Int) × Array Slot × Heap × List Loc) (h := (fun z => match z with | (rk1, od1, ls, H, locs) => H)) (lc := (fun z => match z with | (rk1, od1, ls, H, locs) => locs)) (f := (fun z => match z with | (rk1, od1, ls, H, locs) => F0 m 76 ls [])) (P := (fun z => match z with | (rk1, od1, ls, H, locs) => (cellUp rk od rk1 od1 c0 (fun r z => rk ((t + 1) * 8) ≠ 9223372036854775807 ∧ r = x + (1024 * trn σ t + 32) + rk ((t + 1) * 8) ∧ z = leB t + peB t + od ((t + 1) * 8))) ∧ lv_has ls 9 [(0, .ref (q 5)), (1, .int (jI c0)), (2, .long (jL x)), (4, .int (jI t)), (5, .int (jI o)), (6, .int (jI ((t + 1) * 8)))] ∧ va_P D vwCl (wPc q cI (sNb σ) (sWd σ) (sPp σ) (sCt σ) (sCs σ) mk la wa ++ wSe q cJ lp tp rk1 od1 fr fo) H ∧ va_D A (wPc q cI (sNb σ) (sWd σ) (sPp σ) (sCt σ) (sCs σ) mk la wa ++ wSe q cJ lp tp rk1 od1 fr fo) ∧ va_S A s.heap H locs)) ?_ (fun jn19 => ?_)
  · intro ⟨rk1, od1, ls, H, locs⟩ ⟨hj19, hl, hP, hD, hS⟩
    have hl : lv_has ls 9 [(0, .ref (q 5)), (1, .int (jI c0)), (2, .long (jL x)), (4, .int (jI t)), (5, .int (jI o)), (6, .int (jI ((t + 1) * 8)))] := hl
    have hP : va_P D vwCl (wPc q cI (sNb σ) (sWd σ) (sPp σ) (sCt σ) (sCs σ) mk la wa ++ wSe q cJ lp tp rk1 od1 fr fo) H := hP
    have hD : va_D A (wPc q cI (sNb σ) (sWd σ) (sPp σ) (sCt σ) (sCs σ) mk la wa ++ wSe q cJ lp tp rk1 od1 fr fo) := hD
    have hS : va_S A s.heap H locs := hS
    show W p l e _ s m _ below meth c H locs _ _ _ (F0 m 76 ls [])
    have hj1 := hj19.1 ((t + 1) * 8) (by omega)
    have hj3 := hj19.1 ((t + 1) * 8 + o) (by omega)
    have hj2 : (rk1 c0 = rk c0 ∧ od1 c0 = od c0) ∨ (rk ((t + 1) * 8) ≠ 9223372036854775807 ∧ rk1 c0 = x + (1024 * trn σ t + 32) + rk ((t + 1) * 8) ∧ od1 c0 = leB t + peB t + od ((t + 1) * 8)) := hj19.2.1
    refine lv_iload hx hb dX1_offerGoingOn_76 (lv_at hl 4 rfl) ?_
    refine lv_aload_n hx hb dX1_offerGoingOn_78 rfl (lv_at hl 0 rfl) ?_
    refine va_get (D := D) (ci := 1) (v := .ref (q 0)) (C := RX1) (T := TX1) (N := 7) hx hb hts hinX1 hown hK hP 5 rfl rfl 0 (by decide) (hts (.fieldLink RX1 11 "BreakLines$Search" "piece" "LBreakLines$Piece;") (by decide +kernel)) (fun _ h9 => h9) rfl dX1_offerGoingOn_79 ?_
    refine va_get (D := D) (ci := 0) (v := .int (jI (sPp σ))) (C := RX0) (T := TX0) (N := 8) hx hb hts hinX0 hown hK hP 0 rfl rfl 2 (by decide) (hts (.fieldLink RX1 81 "BreakLines$Piece" "perPage" "I") (by decide +kernel)) (fun _ h9 => h9) rfl dX1_offerGoingOn_82 ?_
    refine j_icmp_ge (tgt := 138) hx hb (by unfold i32; omega) dX1_offerGoingOn_85 (by decide) (fun c85 => ?_) (fun c85 => ?_)
    · skip
      exact j_mretV hx hb hr hlocks hS dX1_offerGoingOn_138 (rk1, od1) (cellUp_congr hj19 (fun r z => ⟨Or.inl, fun w => w.elim id (fun w => by first | exact absurd w.1 (by omega) | exact absurd c101 w.2.1)⟩)) hP
    · skip
      refine lv_aload_n hx hb dX1_offerGoingOn_88 rfl (lv_at hl 0 rfl) ?_
      refine va_get (D := D) (ci := 1) (v := .ref (q 8)) (C := RX1) (T := TX1) (N := 7) hx hb hts hinX1 hown hK hP 5 rfl rfl 3 (by decide) (hts (.fieldLink RX1 24 "BreakLines$Search" "ranks" "[J") (by decide +kernel)) (fun _ h9 => h9) rfl dX1_offerGoingOn_89 ?_
      refine lv_iload hx hb dX1_offerGoingOn_92 (lv_at hl 5 rfl) ?_
      refine lv_iload hx hb dX1_offerGoingOn_94 (lv_at hl 4 rfl) ?_
      refine j_iadd hx hb dX1_offerGoingOn_96 ?_
      refine j_lald hx hb hK hP 8 1 rfl rfl (i := ((t + 1) * 8) + o) (by omega) (by decide) dX1_offerGoingOn_97 ?_
      refine j_topl (y := (jL (rk (((t + 1) * 8) + o)))) (congrArg jL hj3.1) ?_
      refine lv_ldc2 (v := jL 9223372036854775807) hx hb hown (hts (.constantLong RX1 30 (9223372036854775807)) (by decide +kernel)) dX1_offerGoingOn_98 ?_
      refine j_lcmp_eq (tgt := 138) hx hb (by have := hk2 (by omega); unfold i64; omega) dX1_offerGoingOn_101 dX1_offerGoingOn_102 (by decide) (fun c101 => ?_) (fun c101 => ?_)
      · skip
        exact j_mretV hx hb hr hlocks hS dX1_offerGoingOn_138 (rk1, od1) (cellUp_congr hj19 (fun r z => ⟨Or.inl, fun w => w.elim id (fun w => by first | exact absurd w.1 (by omega) | exact absurd c101 w.2.1)⟩)) hP
      · skip
        refine lv_aload_n hx hb dX1_offerGoingOn_105 rfl (lv_at hl 0 rfl) ?_
        refine lv_iload_n hx hb dX1_offerGoingOn_106 rfl (lv_at hl 1 rfl) ?_
        refine lv_lload_n hx hb dX1_offerGoingOn_107 rfl (lv_at hl 2 rfl) ?_
        refine lv_aload_n hx hb dX1_offerGoingOn_108 rfl (lv_at hl 0 rfl) ?_
        refine va_get (D := D) (ci := 1) (v := .ref (q 8)) (C := RX1) (T := TX1) (N := 7) hx hb hts hinX1 hown hK hP 5 rfl rfl 3 (by decide) (hts (.fieldLink RX1 24 "BreakLines$Search" "ranks" "[J") (by decide +kernel)) (fun _ h9 => h9) rfl dX1_offerGoingOn_109 ?_
        refine lv_iload hx hb dX1_offerGoingOn_112 (lv_at hl 5 rfl) ?_
        refine lv_iload hx hb dX1_offerGoingOn_114 (lv_at hl 4 rfl) ?_
        refine j_iadd hx hb dX1_offerGoingOn_116 ?_
        refine j_lald hx hb hK hP 8 1 rfl rfl (i := ((t + 1) * 8) + o) (by omega) (by decide) dX1_offerGoingOn_117 ?_
        refine j_topl (y := (jL (rk (((t + 1) * 8) + o)))) (congrArg jL hj3.1) ?_
        refine j_ladd hx hb dX1_offerGoingOn_118 ?_
        refine lv_iload hx hb dX1_offerGoingOn_119 (lv_at hl 3 rfl) ?_
        refine j_cSL (As := [.int (jI t)]) (rest := [.long (jL (x + (rk (((t + 1) * 8) + o)))), .int (jI c0), .ref (q 5)]) ⟨hx, hb, hml, hown, hts⟩ (kX1_lineEnd l D cI cJ cZ t (by omega)) (va_cwS 1 hts gX1_offerGoingOn_X1_lineEnd rfl rfl rfl (by decide +kernel) ⟨Nat.le_of_ble_eq_true rfl, Nat.le_of_ble_eq_true rfl⟩) hK (hP.sub [] rfl) rfl hl.1 rfl (Nat.le_of_ble_eq_true rfl) ⟨Nat.zero_le _, Nat.zero_le _⟩ dX1_offerGoingOn_121 ?_
        refine lv_aload_n hx hb dX1_offerGoingOn_124 rfl (lv_at hl 0 rfl) ?_
        refine va_get (D := D) (ci := 1) (v := .ref (q 9)) (C := RX1) (T := TX1) (N := 7) hx hb hts hinX1 hown hK hP 5 rfl rfl 4 (by decide) (hts (.fieldLink RX1 27 "BreakLines$Search" "orders" "[J") (by decide +kernel)) (fun _ h9 => h9) rfl dX1_offerGoingOn_125 ?_
        refine lv_iload hx hb dX1_offerGoingOn_128 (lv_at hl 5 rfl) ?_
        refine lv_iload hx hb dX1_offerGoingOn_130 (lv_at hl 4 rfl) ?_
        refine j_iadd hx hb dX1_offerGoingOn_132 ?_
        refine j_lald hx hb hK hP 9 1 rfl rfl (i := ((t + 1) * 8) + o) (by omega) (by decide) dX1_offerGoingOn_133 ?_
        refine j_topl (y := (jL (od (((t + 1) * 8) + o)))) (congrArg jL hj3.2) ?_
        refine j_ladd hx hb dX1_offerGoingOn_134 ?_
        refine j_mVV (As := [.int (jI c0), .long (jL (x + (rk (((t + 1) * 8) + o)))), .long (jL ((leB t) + (od (((t + 1) * 8) + o))))]) (rest := []) ⟨hx, hb, hml, hown, hts⟩ (kX1_offer l D cI cJ cZ q σ la wa mk hok lp tp rk1 od1 fr fo c0 (x + (rk (((t + 1) * 8) + o))) ((leB t) + (od (((t + 1) * 8) + o))) (by have := hk2 (by omega); unfold i64; omega)) (cwV 3 hts gX1_offerGoingOn_X1_offer rfl rfl rfl (by decide +kernel) ⟨Nat.le_of_ble_eq_true rfl, Nat.le_of_ble_eq_true rfl⟩) hK hP hD hS hA (va_recv hK hP (ci := 1) (q0 := 5) rfl rfl) rfl hl.1 rfl (Nat.le_of_ble_eq_true rfl) ⟨Nat.zero_le _, Nat.zero_le _⟩ dX1_offerGoingOn_135 [0, 1, 2, 3, 4, 5, 6, 7, 8, 9] [] [0, 1, 2, 3, 4, 5, 6, 7, 8, 9] rfl (by decide) (wr := ([] : va_W)) rfl (by decide) (by decide) (fun _ => rfl) (fun u => wPc q cI (sNb σ) (sWd σ) (sPp σ) (sCt σ) (sCs σ) mk la wa ++ wSe q cJ lp tp u.1 u.2 fr fo) (fun _ => rfl) (fun _ => rfl) (fun ⟨rkc1, odc1⟩ H locs hu1 hP hD hS => ?_)
        have hu1 : cellUp rk1 od1 rkc1 odc1 c0 (fun r z => r = (x + (rk (((t + 1) * 8) + o))) ∧ z = ((leB t) + (od (((t + 1) * 8) + o)))) := hu1
        have hP : va_P D vwCl (wPc q cI (sNb σ) (sWd σ) (sPp σ) (sCt σ) (sCs σ) mk la wa ++ wSe q cJ lp tp rkc1 odc1 fr fo) H := hP
        have hD : va_D A (wPc q cI (sNb σ) (sWd σ) (sPp σ) (sCt σ) (sCs σ) mk la wa ++ wSe q cJ lp tp rkc1 odc1 fr fo) := hD
        exact j_mretV hx hb hr hlocks hS dX1_offerGoingOn_138 (rkc1, odc1) (cellUp_congr (cellUp_trans hj19 hu1) (fun r z => ⟨fun w => w.imp id (fun w => ⟨c85, c101, w.1, w.2⟩), fun w => w.imp id (fun w => ⟨w.2.2.1, w.2.2.2⟩)⟩)) hP
  refine j_lcmp_eq (tgt := 76) hx hb (by unfold i64; omega) dX1_offerGoingOn_19 dX1_offerGoingOn_20 (by decide) (fun c19 => ?_) (fun c19 => ?_)
  · skip
    exact jn19 (rk, od, ls, H, locs) ⟨cellUp_none (fun r z w => w.1 c19), lv_sub hl [1, 2, 3, 4, 5, 0] rfl, hP, hD, hS⟩
  · skip
    refine lv_aload_n hx hb dX1_offerGoingOn_23 rfl (lv_at hl 1 rfl) ?_
    refine va_get (D := D) (ci := 1) (v := .ref (q 7)) (C := RX1) (T := TX1) (N := 7) hx hb hts hinX1 hown hK hP 5 rfl rfl 2 (by decide) (hts (.fieldLink RX1 21 "BreakLines$Search" "turnPrices" "[J") (by decide +kernel)) (fun _ h9 => h9) rfl dX1_offerGoingOn_24 ?_
    refine lv_iload hx hb dX1_offerGoingOn_27 (lv_at hl 4 rfl) ?_
    refine j_lald hx hb hK hP 7 1 rfl rfl (i := t) (by omega) (by decide) dX1_offerGoingOn_29 ?_
    refine j_topl (y := (jL (trn σ t))) (congrArg jL htp) ?_
    refine lv_ldc2 (v := jL 1024) hx hb hown (hts (.constantLong RX1 62 (1024)) (by decide +kernel)) dX1_offerGoingOn_30 ?_
    refine j_lmul hx hb dX1_offerGoingOn_33 ?_
    refine lv_ldc2 (v := jL 32) hx hb hown (hts (.constantLong RX1 98 (32)) (by decide +kernel)) dX1_offerGoingOn_34 ?_
    refine j_ladd hx hb dX1_offerGoingOn_37 ?_
    refine lv_lstore (lv' := [(7, .long (jL (((trn σ t) * 1024) + 32))), (6, .int (jI ((t + 1) * 8))), (0, .ref (q 5)), (1, .int (jI c0)), (2, .long (jL x)), (4, .int (jI t)), (5, .int (jI o))]) hx hb dX1_offerGoingOn_38 hl (by decide) rfl (fun ls hl => ?_)
    refine lv_aload_n hx hb dX1_offerGoingOn_40 rfl (lv_at hl 2 rfl) ?_
    refine lv_iload_n hx hb dX1_offerGoingOn_41 rfl (lv_at hl 3 rfl) ?_
    refine lv_lload_n hx hb dX1_offerGoingOn_42 rfl (lv_at hl 4 rfl) ?_
    refine lv_lload hx hb dX1_offerGoingOn_43 (lv_at hl 0 rfl) ?_
    refine j_ladd hx hb dX1_offerGoingOn_45 ?_
    refine lv_aload_n hx hb dX1_offerGoingOn_46 rfl (lv_at hl 2 rfl) ?_
    refine va_get (D := D) (ci := 1) (v := .ref (q 8)) (C := RX1) (T := TX1) (N := 7) hx hb hts hinX1 hown hK hP 5 rfl rfl 3 (by decide) (hts (.fieldLink RX1 24 "BreakLines$Search" "ranks" "[J") (by decide +kernel)) (fun _ h9 => h9) rfl dX1_offerGoingOn_47 ?_
    refine lv_iload hx hb dX1_offerGoingOn_50 (lv_at hl 1 rfl) ?_
    refine j_lald hx hb hK hP 8 1 rfl rfl (i := (t + 1) * 8) (by omega) (by decide) dX1_offerGoingOn_52 ?_
    refine j_ladd hx hb dX1_offerGoingOn_53 ?_
    refine lv_iload hx hb dX1_offerGoingOn_54 (lv_at hl 5 rfl) ?_
    refine j_cSL (As := [.int (jI t)]) (rest := [.long (jL ((x + (((trn σ t) * 1024) + 32)) + (rk ((t + 1) * 8)))), .int (jI c0), .ref (q 5)]) ⟨hx, hb, hml, hown, hts⟩ (kX1_lineEnd l D cI cJ cZ t (by omega)) (va_cwS 1 hts gX1_offerGoingOn_X1_lineEnd rfl rfl rfl (by decide +kernel) ⟨Nat.le_of_ble_eq_true rfl, Nat.le_of_ble_eq_true rfl⟩) hK (hP.sub [] rfl) rfl hl.1 rfl (Nat.le_of_ble_eq_true rfl) ⟨Nat.zero_le _, Nat.zero_le _⟩ dX1_offerGoingOn_56 ?_
    refine lv_iload hx hb dX1_offerGoingOn_59 (lv_at hl 5 rfl) ?_
    refine j_cSL (As := [.int (jI t)]) (rest := [.long (jL (leB t)), .long (jL ((x + (((trn σ t) * 1024) + 32)) + (rk ((t + 1) * 8)))), .int (jI c0), .ref (q 5)]) ⟨hx, hb, hml, hown, hts⟩ (kX1_pageEnd l D cI cJ cZ t (by omega)) (va_cwS 1 hts gX1_offerGoingOn_X1_pageEnd rfl rfl rfl (by decide +kernel) ⟨Nat.le_of_ble_eq_true rfl, Nat.le_of_ble_eq_true rfl⟩) hK (hP.sub [] rfl) rfl hl.1 rfl (Nat.le_of_ble_eq_true rfl) ⟨Nat.zero_le _, Nat.zero_le _⟩ dX1_offerGoingOn_61 ?_
    refine j_ladd hx hb dX1_offerGoingOn_64 ?_
    refine lv_aload_n hx hb dX1_offerGoingOn_65 rfl (lv_at hl 2 rfl) ?_
    refine va_get (D := D) (ci := 1) (v := .ref (q 9)) (C := RX1) (T := TX1) (N := 7) hx hb hts hinX1 hown hK hP 5 rfl rfl 4 (by decide) (hts (.fieldLink RX1 27 "BreakLines$Search" "orders" "[J") (by decide +kernel)) (fun _ h9 => h9) rfl dX1_offerGoingOn_66 ?_
    refine lv_iload hx hb dX1_offerGoingOn_69 (lv_at hl 1 rfl) ?_
    refine j_lald hx hb hK hP 9 1 rfl rfl (i := (t + 1) * 8) (by omega) (by decide) dX1_offerGoingOn_71 ?_
    refine j_ladd hx hb dX1_offerGoingOn_72 ?_
    refine j_mVV (As := [.int (jI c0), .long (jL ((x + (((trn σ t) * 1024) + 32)) + (rk ((t + 1) * 8)))), .long (jL (((leB t) + (peB t)) + (od ((t + 1) * 8))))]) (rest := []) ⟨hx, hb, hml, hown, hts⟩ (kX1_offer l D cI cJ cZ q σ la wa mk hok lp tp rk od fr fo c0 ((x + (((trn σ t) * 1024) + 32)) + (rk ((t + 1) * 8))) (((leB t) + (peB t)) + (od ((t + 1) * 8))) (by unfold i64; omega)) (cwV 3 hts gX1_offerGoingOn_X1_offer rfl rfl rfl (by decide +kernel) ⟨Nat.le_of_ble_eq_true rfl, Nat.le_of_ble_eq_true rfl⟩) hK hP hD hS hA (va_recv hK hP (ci := 1) (q0 := 5) rfl rfl) rfl hl.1 rfl (Nat.le_of_ble_eq_true rfl) ⟨Nat.zero_le _, Nat.zero_le _⟩ dX1_offerGoingOn_73 [0, 1, 2, 3, 4, 5, 6, 7, 8, 9] [] [0, 1, 2, 3, 4, 5, 6, 7, 8, 9] rfl (by decide) (wr := ([] : va_W)) rfl (by decide) (by decide) (fun _ => rfl) (fun u => wPc q cI (sNb σ) (sWd σ) (sPp σ) (sCt σ) (sCs σ) mk la wa ++ wSe q cJ lp tp u.1 u.2 fr fo) (fun _ => rfl) (fun _ => rfl) (fun ⟨rkc2, odc2⟩ H locs hu2 hP hD hS => ?_)
    have hu2 : cellUp rk od rkc2 odc2 c0 (fun r z => r = ((x + (((trn σ t) * 1024) + 32)) + (rk ((t + 1) * 8))) ∧ z = (((leB t) + (peB t)) + (od ((t + 1) * 8)))) := hu2
    have hP : va_P D vwCl (wPc q cI (sNb σ) (sWd σ) (sPp σ) (sCt σ) (sCs σ) mk la wa ++ wSe q cJ lp tp rkc2 odc2 fr fo) H := hP
    have hD : va_D A (wPc q cI (sNb σ) (sWd σ) (sPp σ) (sCt σ) (sCs σ) mk la wa ++ wSe q cJ lp tp rkc2 odc2 fr fo) := hD
    exact jn19 (rkc2, odc2, ls, H, locs) ⟨cellUp_congr hu2 (fun r z => ⟨fun w => ⟨c19, by have := w.1; omega, w.2⟩, fun w => ⟨by have := w.2.1; omega, w.2.2⟩⟩), lv_sub hl [2, 3, 4, 5, 6, 1] rfl, hP, hD, hS⟩
set_option maxHeartbeats 4000000 in
set_option maxRecDepth 100000 in
theorem kX1_fillCell (l : Launch) (D : va_G) (cI cJ cZ : ClassId) (q : Nat → Nat) (σ : Sg) (la wa : Int → Int) (mk : Nat → Int32) (hok : okP σ la wa mk) (lp tp rk od : Int → Int) (fr fo : Int) (f o lo hi : Int) (h : (0 ≤ f ∧ f < sNb σ) ∧ (0 ≤ o ∧ o < sPp σ) ∧ (f ≤ lo ∧ lo ≤ sNb σ) ∧ (-1 ≤ hi ∧ hi < sNb σ)) (hlp : ∀ t, f ≤ t → t < sNb σ → lp (f * 24 + t) = lpr σ f t) (htp : ∀ t, 0 ≤ t → t < sNb σ → tp t = trn σ t) (hk : ∀ t, lo ≤ t → t ≤ hi → t ≠ sNb σ - 1 → okC (rk ((t + 1) * 8)) (od ((t + 1) * 8)) ∧ (o + 1 < sPp σ → okC (rk (((t + 1) * 8) + (o + 1))) (od (((t + 1) * 8) + (o + 1))))) : MuV l yX1_fillCell wsX1_fillCell 2 53 D (tyc cI cJ cZ) (wPc q cI (sNb σ) (sWd σ) (sPp σ) (sCt σ) (sCs σ) mk la wa ++ wSe q cJ lp tp rk od fr fo) [.ref (q 5), .int (jI f), .int (jI o), .int (jI lo), .int (jI hi)] (fun (u : (Int → Int) × (Int → Int)) => (∀ j, j ≠ f * 8 + o → u.1 j = rk j ∧ u.2 j = od j) ∧ Bst (fun r z => ∃ t, lo ≤ t ∧ t ≤ hi ∧ OffT σ rk od f o t r z) (u.1 (f * 8 + o)) (u.2 (f * 8 + o))) (fun u => wPc q cI (sNb σ) (sWd σ) (sPp σ) (sCt σ) (sCs σ) mk la wa ++ wSe q cJ lp tp u.1 u.2 fr fo) := by
  intro sz
  refine j_start RX1 rfl (by decide) rfl (Nat.le_of_ble_eq_true rfl) ?_
  intro p e s m below meth c ls hx hb hr hlocks hml hown hts hnm hl ⟨hsz, hP, hK, hD0⟩
  subst hsz
  have hD := hD0.self (sz := s.heap.size)
  generalize hAe : va_A (wPc q cI (sNb σ) (sWd σ) (sPp σ) (sCt σ) (sCs σ) mk la wa ++ wSe q cJ lp tp rk od fr fo) s.heap.size = A at hD ⊢
  have hA : ∀ q : Nat, s.heap.size ≤ q → A q := fun q h => by rw [← hAe]; exact Or.inr h
  refine j_gen (fun H locs hHe hLe => ?_)
  have hS : va_S A s.heap H locs := by rw [hHe, hLe]; exact va_S.rf
  have hP : va_P D vwCl (wPc q cI (sNb σ) (sWd σ) (sPp σ) (sCt σ) (sCs σ) mk la wa ++ wSe q cJ lp tp rk od fr fo) H := by rw [hHe]; exact hP
  have hD : va_D A (wPc q cI (sNb σ) (sWd σ) (sPp σ) (sCt σ) (sCs σ) mk la wa ++ wSe q cJ lp tp rk od fr fo) := hD
  have hl : lv_has ls 14 [(0, .ref (q 5)), (1, .int (jI f)), (2, .int (jI o)), (3, .int (jI lo)), (4, .int (jI hi))] := hl
  have hinX0 : ∀ w ∈ u_ws RX0 TX0 8, w ∈ wsX1_fillCell := by decide +kernel
  have hinX1 : ∀ w ∈ u_ws RX1 TX1 7, w ∈ wsX1_fillCell := by decide +kernel
  have hS0 := hok.1
  have hnb := hS0.1
  have hwd := hS0.2.1
  have hpp := hS0.2.2.1
  have hc2 := hS0.2.2.2.2.1 2 (by omega) (by omega)
  refine lv_iload_n hx hb dX1_fillCell_0 rfl (lv_at hl 1 rfl) ?_
  refine j_bipush hx hb dX1_fillCell_1 (by decide) ?_
  refine j_imul hx hb dX1_fillCell_3 ?_
  refine lv_iload_n hx hb dX1_fillCell_4 rfl (lv_at hl 2 rfl) ?_
  refine j_iadd hx hb dX1_fillCell_5 ?_
  refine lv_istore (lv' := [(5, .int (jI ((f * 8) + o))), (0, .ref (q 5)), (1, .int (jI f)), (2, .int (jI o)), (3, .int (jI lo)), (4, .int (jI hi))]) hx hb dX1_fillCell_6 hl (by decide) rfl (fun ls hl => ?_)
  refine lv_aload_n hx hb dX1_fillCell_8 rfl (lv_at hl 1 rfl) ?_
  refine va_get (D := D) (ci := 1) (v := .ref (q 8)) (C := RX1) (T := TX1) (N := 7) hx hb hts hinX1 hown hK hP 5 rfl rfl 3 (by decide) (hts (.fieldLink RX1 24 "BreakLines$Search" "ranks" "[J") (by decide +kernel)) (fun _ h9 => h9) rfl dX1_fillCell_9 ?_
  refine lv_iload hx hb dX1_fillCell_12 (lv_at hl 0 rfl) ?_
  refine lv_ldc2 (v := jL 9223372036854775807) hx hb hown (hts (.constantLong RX1 30 (9223372036854775807)) (by decide +kernel)) dX1_fillCell_14 ?_
  refine j_last hx hb hK hP hD hS 8 1 rfl rfl (i := (f * 8) + o) (by omega) (by decide) dX1_fillCell_17 (fun H locs hP hD hS => ?_)
  have hP : va_P D vwCl (wPc q cI (sNb σ) (sWd σ) (sPp σ) (sCt σ) (sCs σ) mk la wa ++ wSe q cJ lp tp (updI rk ((f * 8) + o) 9223372036854775807) od fr fo) H := hP
  have hD : va_D A (wPc q cI (sNb σ) (sWd σ) (sPp σ) (sCt σ) (sCs σ) mk la wa ++ wSe q cJ lp tp (updI rk ((f * 8) + o) 9223372036854775807) od fr fo) := hD
  refine lv_aload_n hx hb dX1_fillCell_18 rfl (lv_at hl 1 rfl) ?_
  refine va_get (D := D) (ci := 1) (v := .ref (q 9)) (C := RX1) (T := TX1) (N := 7) hx hb hts hinX1 hown hK hP 5 rfl rfl 4 (by decide) (hts (.fieldLink RX1 27 "BreakLines$Search" "orders" "[J") (by decide +kernel)) (fun _ h9 => h9) rfl dX1_fillCell_19 ?_
  refine lv_iload hx hb dX1_fillCell_22 (lv_at hl 0 rfl) ?_
  refine lv_ldc2 (v := jL 9223372036854775807) hx hb hown (hts (.constantLong RX1 30 (9223372036854775807)) (by decide +kernel)) dX1_fillCell_24 ?_
  refine j_last hx hb hK hP hD hS 9 1 rfl rfl (i := (f * 8) + o) (by omega) (by decide) dX1_fillCell_27 (fun H locs hP hD hS => ?_)
  have hP : va_P D vwCl (wPc q cI (sNb σ) (sWd σ) (sPp σ) (sCt σ) (sCs σ) mk la wa ++ wSe q cJ lp tp (updI rk ((f * 8) + o) 9223372036854775807) (updI od ((f * 8) + o) 9223372036854775807) fr fo) H := hP
  have hD : va_D A (wPc q cI (sNb σ) (sWd σ) (sPp σ) (sCt σ) (sCs σ) mk la wa ++ wSe q cJ lp tp (updI rk ((f * 8) + o) 9223372036854775807) (updI od ((f * 8) + o) 9223372036854775807) fr fo) := hD
  refine lv_iload_n hx hb dX1_fillCell_28 rfl (lv_at hl 4 rfl) ?_
  refine lv_istore (lv' := [(6, .int (jI lo)), (5, .int (jI ((f * 8) + o))), (0, .ref (q 5)), (1, .int (jI f)), (2, .int (jI o)), (3, .int (jI lo)), (4, .int (jI hi))]) hx hb dX1_fillCell_29 hl (by decide) rfl (fun ls hl => ?_)
  refine j_loop (α := Int × (Int → Int) × (Int → Int) × Array Slot × Heap × List Loc) (h := fun z => match z with | (i, rk0, od0, ls, H, locs) => H) (lc := fun z => match z with | (i, rk0, od0, ls, H, locs) => locs) (f := fun z => match z with | (i, rk0, od0, ls, H, locs) => F0 m 31 ls []) (P := fun nn z => match z with | (i, rk0, od0, ls, H, locs) => ((lo ≤ i ∧ i ≤ sNb σ) ∧ (i64 (rk0 (f * 8 + o)) ∧ i64 (od0 (f * 8 + o))) ∧ cellUp (updI rk (f * 8 + o) 9223372036854775807) (updI od (f * 8 + o) 9223372036854775807) rk0 od0 (f * 8 + o) (fun r z => ∃ t, lo ≤ t ∧ t < i ∧ t ≤ hi ∧ OffT σ rk od f o t r z)) ∧ (hi + 1 - i).toNat < nn ∧ lv_has ls 14 [(0, .ref (q 5)), (1, .int (jI f)), (2, .int (jI o)), (3, .int (jI lo)), (4, .int (jI hi)), (5, .int (jI ((f * 8) + o))), (6, .int (jI i))] ∧ va_P D vwCl (wPc q cI (sNb σ) (sWd σ) (sPp σ) (sCt σ) (sCs σ) mk la wa ++ wSe q cJ lp tp rk0 od0 fr fo) H ∧ va_D A (wPc q cI (sNb σ) (sWd σ) (sPp σ) (sCt σ) (sCs σ) mk la wa ++ wSe q cJ lp tp rk0 od0 fr fo) ∧ va_S A s.heap H locs) (fun z hz => ?_) ?_ ((hi + 1 - lo).toNat + 1) (lo, updI rk ((f * 8) + o) 9223372036854775807, updI od ((f * 8) + o) 9223372036854775807, ls, H, locs) ⟨⟨by omega, by rw [updI_s, updI_s]; unfold i64; omega, cellUp_none (fun r z w => by obtain ⟨t, w1, w2, -⟩ := w; omega)⟩, Nat.lt_succ_self _, lv_sub hl [2, 3, 4, 5, 6, 1, 0] rfl, hP, hD, hS⟩
  · obtain ⟨i, rk0, od0, ls, H, locs⟩ := z; exact absurd hz.2.1 (Nat.not_lt_zero _)
  intro n31 ih31 ⟨i, rk0, od0, ls, H, locs⟩ ⟨hi31, hm31, hl, hP, hD, hS⟩
  have hl : lv_has ls 14 [(0, .ref (q 5)), (1, .int (jI f)), (2, .int (jI o)), (3, .int (jI lo)), (4, .int (jI hi)), (5, .int (jI ((f * 8) + o))), (6, .int (jI i))] := hl
  have hP : va_P D vwCl (wPc q cI (sNb σ) (sWd σ) (sPp σ) (sCt σ) (sCs σ) mk la wa ++ wSe q cJ lp tp rk0 od0 fr fo) H := hP
  have hD : va_D A (wPc q cI (sNb σ) (sWd σ) (sPp σ) (sCt σ) (sCs σ) mk la wa ++ wSe q cJ lp tp rk0 od0 fr fo) := hD
  have hS : va_S A s.heap H locs := hS
  show W p l e _ s m _ below meth c H locs _ _ _ (F0 m 31 ls [])
  obtain ⟨hi1, hi2, hi3⟩ := hi31
  have hr0 := fc_same hi3
  refine lv_iload hx hb dX1_fillCell_31 (lv_at hl 6 rfl) ?_
  refine lv_iload hx hb dX1_fillCell_33 (lv_at hl 4 rfl) ?_
  refine j_icmp_gt (tgt := 176) hx hb (by unfold i32; omega) dX1_fillCell_35 (by decide) (fun c35 => ?_) (fun c35 => ?_)
  · skip
    exact j_mretV hx hb hr hlocks hS dX1_fillCell_176 (rk0, od0) (fc_end hi3 (by omega)) hP
  · skip
    have hle := leB_B (b := i) (by omega) (by omega)
    have hpe := peB_B (b := i) (by omega) (by omega)
    have hcs := cstB hS0 (a := f) (b := i) (by omega) (by omega) (by omega)
    have hlr := lpr_or σ f i
    have hww := wdwB hS0 f o
    refine lv_aload_n hx hb dX1_fillCell_38 rfl (lv_at hl 0 rfl) ?_
    refine va_get (D := D) (ci := 1) (v := .ref (q 6)) (C := RX1) (T := TX1) (N := 7) hx hb hts hinX1 hown hK hP 5 rfl rfl 1 (by decide) (hts (.fieldLink RX1 17 "BreakLines$Search" "linePrices" "[J") (by decide +kernel)) (fun _ h9 => h9) rfl dX1_fillCell_39 ?_
    refine lv_iload_n hx hb dX1_fillCell_42 rfl (lv_at hl 1 rfl) ?_
    refine j_bipush hx hb dX1_fillCell_43 (by decide) ?_
    refine j_imul hx hb dX1_fillCell_45 ?_
    refine lv_iload hx hb dX1_fillCell_46 (lv_at hl 6 rfl) ?_
    refine j_iadd hx hb dX1_fillCell_48 ?_
    refine j_lald hx hb hK hP 6 1 rfl rfl (i := (f * 24) + i) (by omega) (by decide) dX1_fillCell_49 ?_
    refine j_topl (y := (jL (lpr σ f i))) (congrArg jL (hlp i (by omega) (by omega))) ?_
    refine lv_lstore (lv' := [(7, .long (jL (lpr σ f i))), (0, .ref (q 5)), (1, .int (jI f)), (2, .int (jI o)), (3, .int (jI lo)), (4, .int (jI hi)), (5, .int (jI ((f * 8) + o))), (6, .int (jI i))]) hx hb dX1_fillCell_50 hl (by decide) rfl (fun ls hl => ?_)
    refine lv_lload hx hb dX1_fillCell_52 (lv_at hl 0 rfl) ?_
    refine lv_ldc2 (v := jL (-1)) hx hb hown (hts (.constantLong RX1 64 (-1)) (by decide +kernel)) dX1_fillCell_54 ?_
    refine j_lcmp_ne (tgt := 64) hx hb (by unfold i64; omega) dX1_fillCell_57 dX1_fillCell_58 (by decide) (fun c57 => ?_) (fun c57 => ?_)
    · skip
      have hmy : may σ f i := by rcases hlr with w | w; exact absurd w.2 c57; exact w.1
      have hlv := lpr_t hmy
      refine lv_lload hx hb dX1_fillCell_64 (lv_at hl 0 rfl) ?_
      refine lv_ldc2 (v := jL 1024) hx hb hown (hts (.constantLong RX1 62 (1024)) (by decide +kernel)) dX1_fillCell_66 ?_
      refine j_lmul hx hb dX1_fillCell_69 ?_
      refine j_lconst1 hx hb dX1_fillCell_70 ?_
      refine j_ladd hx hb dX1_fillCell_71 ?_
      refine lv_lstore (lv' := [(9, .long (jL (((lpr σ f i) * 1024) + 1))), (7, .long (jL (lpr σ f i))), (0, .ref (q 5)), (1, .int (jI f)), (2, .int (jI o)), (3, .int (jI lo)), (4, .int (jI hi)), (5, .int (jI ((f * 8) + o))), (6, .int (jI i))]) hx hb dX1_fillCell_72 hl (by decide) rfl (fun ls hl => ?_)
      refine lv_iload hx hb dX1_fillCell_74 (lv_at hl 8 rfl) ?_
      refine lv_aload_n hx hb dX1_fillCell_76 rfl (lv_at hl 2 rfl) ?_
      refine va_get (D := D) (ci := 1) (v := .ref (q 0)) (C := RX1) (T := TX1) (N := 7) hx hb hts hinX1 hown hK hP 5 rfl rfl 0 (by decide) (hts (.fieldLink RX1 11 "BreakLines$Search" "piece" "LBreakLines$Piece;") (by decide +kernel)) (fun _ h9 => h9) rfl dX1_fillCell_77 ?_
      refine va_get (D := D) (ci := 0) (v := .int (jI (sNb σ))) (C := RX0) (T := TX0) (N := 8) hx hb hts hinX0 hown hK hP 0 rfl rfl 0 (by decide) (hts (.fieldLink RX1 39 "BreakLines$Piece" "bars" "I") (by decide +kernel)) (fun _ h9 => h9) rfl dX1_fillCell_80 ?_
      refine j_iconst hx hb dX1_fillCell_83 ?_
      refine j_isub hx hb dX1_fillCell_84 ?_
      refine j_icmp_ne (tgt := 157) hx hb (by unfold i32; omega) dX1_fillCell_85 (by decide) (fun c85 => ?_) (fun c85 => ?_)
      · skip
        refine lv_aload_n hx hb dX1_fillCell_157 rfl (lv_at hl 2 rfl) ?_
        refine lv_iload hx hb dX1_fillCell_158 (lv_at hl 7 rfl) ?_
        refine lv_lload hx hb dX1_fillCell_160 (lv_at hl 0 rfl) ?_
        refine lv_iload hx hb dX1_fillCell_162 (lv_at hl 8 rfl) ?_
        refine lv_iload_n hx hb dX1_fillCell_164 rfl (lv_at hl 4 rfl) ?_
        refine j_iconst hx hb dX1_fillCell_165 ?_
        refine j_iadd hx hb dX1_fillCell_166 ?_
        refine j_mVV (As := [.int (jI ((f * 8) + o)), .long (jL (((lpr σ f i) * 1024) + 1)), .int (jI i), .int (jI (o + 1))]) (rest := []) ⟨hx, hb, hml, hown, hts⟩ (kX1_offerGoingOn l D cI cJ cZ q σ la wa mk hok lp tp rk0 od0 fr fo ((f * 8) + o) (((lpr σ f i) * 1024) + 1) i (o + 1) (by omega) (htp i (by omega) (by omega)) (by rw [(hr0 _ (by omega)).1, (hr0 _ (by omega)).2]; exact (hk i (by omega) (by omega) c85).1) (fun w => by rw [(hr0 _ (by omega)).1, (hr0 _ (by omega)).2]; exact (hk i (by omega) (by omega) c85).2 w) hi2) (cwV 4 hts gX1_fillCell_X1_offerGoingOn rfl rfl rfl (by decide +kernel) ⟨Nat.le_of_ble_eq_true rfl, Nat.le_of_ble_eq_true rfl⟩) hK hP hD hS hA (va_recv hK hP (ci := 1) (q0 := 5) rfl rfl) rfl hl.1 rfl (Nat.le_of_ble_eq_true rfl) ⟨Nat.zero_le _, Nat.zero_le _⟩ dX1_fillCell_167 [0, 1, 2, 3, 4, 5, 6, 7, 8, 9] [] [0, 1, 2, 3, 4, 5, 6, 7, 8, 9] rfl (by decide) (wr := ([] : va_W)) rfl (by decide) (by decide) (fun _ => rfl) (fun u => wPc q cI (sNb σ) (sWd σ) (sPp σ) (sCt σ) (sCs σ) mk la wa ++ wSe q cJ lp tp u.1 u.2 fr fo) (fun _ => rfl) (fun _ => rfl) (fun ⟨rkc1, odc1⟩ H locs hu1 hP hD hS => ?_)
        have hP : va_P D vwCl (wPc q cI (sNb σ) (sWd σ) (sPp σ) (sCt σ) (sCs σ) mk la wa ++ wSe q cJ lp tp rkc1 odc1 fr fo) H := hP
        have hD : va_D A (wPc q cI (sNb σ) (sWd σ) (sPp σ) (sCt σ) (sCs σ) mk la wa ++ wSe q cJ lp tp rkc1 odc1 fr fo) := hD
        refine lv_iinc (v := jI (i + 1)) (lv' := [(6, .int (jI (i + 1))), (9, .long (jL (((lpr σ f i) * 1024) + 1))), (7, .long (jL (lpr σ f i))), (0, .ref (q 5)), (1, .int (jI f)), (2, .int (jI o)), (3, .int (jI lo)), (4, .int (jI hi)), (5, .int (jI ((f * 8) + o)))]) hx hb dX1_fillCell_170 hl (k := 8) rfl (jI_add _ _) (by decide) rfl (fun ls hl => ?_)
        refine lv_goto (tgt := 31) hx hb dX1_fillCell_173 (by decide) ?_
        exact ih31 (i + 1, rkc1, odc1, ls, H, locs) ⟨⟨by omega, fc_64 hi2 hu1 (fun r z w => off_B hS0 (by omega) (by omega) (by omega) (hk i (by omega) (by omega)) (((off_go hmy c85 (by omega) (hr0 _ (by omega)) (hr0 _ (by omega))) r z).mp w)), fc_step hi3 hu1 (off_go hmy c85 (by omega) (hr0 _ (by omega)) (hr0 _ (by omega))) (by omega) (by omega)⟩, by omega, lv_sub hl [3, 4, 5, 6, 7, 8, 0] rfl, hP, hD, hS⟩
      · skip
        refine lv_iload_n hx hb dX1_fillCell_88 rfl (lv_at hl 4 rfl) ?_
        refine j_join (α := Prop) (P := fun pw => pw ↔ (o = 0 ∧ 0 < f)) (f := fun pw => F0 m 101 ls [.int (jZ pw)]) ?_ (fun jn89 => ?_)
        · intro pw hvpw
          refine lv_istore (lv' := [(11, .int (jZ pw)), (9, .long (jL (((lpr σ f i) * 1024) + 1))), (7, .long (jL (lpr σ f i))), (0, .ref (q 5)), (1, .int (jI f)), (2, .int (jI o)), (3, .int (jI lo)), (4, .int (jI hi)), (5, .int (jI ((f * 8) + o))), (6, .int (jI i))]) hx hb dX1_fillCell_101 hl (by decide) rfl (fun ls hl => ?_)
          refine lv_iload hx hb dX1_fillCell_103 (lv_at hl 0 rfl) ?_
          refine j_join (α := Int) (P := fun x => x = wdw σ f o) (f := fun x => F0 m 122 ls [.long (jL x)]) ?_ (fun jn105 => ?_)
          · intro x hvx
            refine lv_ldc2 (v := jL 1024) hx hb hown (hts (.constantLong RX1 62 (1024)) (by decide +kernel)) dX1_fillCell_122 ?_
            refine j_lmul hx hb dX1_fillCell_125 ?_
            refine lv_ldc2 (v := jL 32) hx hb hown (hts (.constantLong RX1 98 (32)) (by decide +kernel)) dX1_fillCell_126 ?_
            refine j_ladd hx hb dX1_fillCell_129 ?_
            refine lv_lstore (lv' := [(12, .long (jL ((x * 1024) + 32))), (11, .int (jZ pw)), (9, .long (jL (((lpr σ f i) * 1024) + 1))), (7, .long (jL (lpr σ f i))), (0, .ref (q 5)), (1, .int (jI f)), (2, .int (jI o)), (3, .int (jI lo)), (4, .int (jI hi)), (5, .int (jI ((f * 8) + o))), (6, .int (jI i))]) hx hb dX1_fillCell_130 hl (by decide) rfl (fun ls hl => ?_)
            refine lv_aload_n hx hb dX1_fillCell_132 rfl (lv_at hl 4 rfl) ?_
            refine lv_iload hx hb dX1_fillCell_133 (lv_at hl 9 rfl) ?_
            refine lv_lload hx hb dX1_fillCell_135 (lv_at hl 2 rfl) ?_
            refine lv_lload hx hb dX1_fillCell_137 (lv_at hl 0 rfl) ?_
            refine j_ladd hx hb dX1_fillCell_139 ?_
            refine lv_iload hx hb dX1_fillCell_140 (lv_at hl 10 rfl) ?_
            refine j_cSL (As := [.int (jI i)]) (rest := [.long (jL ((((lpr σ f i) * 1024) + 1) + ((x * 1024) + 32))), .int (jI ((f * 8) + o)), .ref (q 5)]) ⟨hx, hb, hml, hown, hts⟩ (kX1_lineEnd l D cI cJ cZ i (by omega)) (va_cwS 1 hts gX1_fillCell_X1_lineEnd rfl rfl rfl (by decide +kernel) ⟨Nat.le_of_ble_eq_true rfl, Nat.le_of_ble_eq_true rfl⟩) hK (hP.sub [] rfl) rfl hl.1 rfl (Nat.le_of_ble_eq_true rfl) ⟨Nat.zero_le _, Nat.zero_le _⟩ dX1_fillCell_142 ?_
            refine lv_iload hx hb dX1_fillCell_145 (lv_at hl 10 rfl) ?_
            refine j_cSL (As := [.int (jI i)]) (rest := [.long (jL (leB i)), .long (jL ((((lpr σ f i) * 1024) + 1) + ((x * 1024) + 32))), .int (jI ((f * 8) + o)), .ref (q 5)]) ⟨hx, hb, hml, hown, hts⟩ (kX1_pageEnd l D cI cJ cZ i (by omega)) (va_cwS 1 hts gX1_fillCell_X1_pageEnd rfl rfl rfl (by decide +kernel) ⟨Nat.le_of_ble_eq_true rfl, Nat.le_of_ble_eq_true rfl⟩) hK (hP.sub [] rfl) rfl hl.1 rfl (Nat.le_of_ble_eq_true rfl) ⟨Nat.zero_le _, Nat.zero_le _⟩ dX1_fillCell_147 ?_
            refine j_ladd hx hb dX1_fillCell_150 ?_
            refine j_mVV (As := [.int (jI ((f * 8) + o)), .long (jL ((((lpr σ f i) * 1024) + 1) + ((x * 1024) + 32))), .long (jL ((leB i) + (peB i)))]) (rest := []) ⟨hx, hb, hml, hown, hts⟩ (kX1_offer l D cI cJ cZ q σ la wa mk hok lp tp rk0 od0 fr fo ((f * 8) + o) ((((lpr σ f i) * 1024) + 1) + ((x * 1024) + 32)) ((leB i) + (peB i)) ⟨by omega, by omega, by unfold i64; omega, hi2.1, hi2.2⟩) (cwV 3 hts gX1_fillCell_X1_offer rfl rfl rfl (by decide +kernel) ⟨Nat.le_of_ble_eq_true rfl, Nat.le_of_ble_eq_true rfl⟩) hK hP hD hS hA (va_recv hK hP (ci := 1) (q0 := 5) rfl rfl) rfl hl.1 rfl (Nat.le_of_ble_eq_true rfl) ⟨Nat.zero_le _, Nat.zero_le _⟩ dX1_fillCell_151 [0, 1, 2, 3, 4, 5, 6, 7, 8, 9] [] [0, 1, 2, 3, 4, 5, 6, 7, 8, 9] rfl (by decide) (wr := ([] : va_W)) rfl (by decide) (by decide) (fun _ => rfl) (fun u => wPc q cI (sNb σ) (sWd σ) (sPp σ) (sCt σ) (sCs σ) mk la wa ++ wSe q cJ lp tp u.1 u.2 fr fo) (fun _ => rfl) (fun _ => rfl) (fun ⟨rkc2, odc2⟩ H locs hu2 hP hD hS => ?_)
            have hu2 : cellUp rk0 od0 rkc2 odc2 ((f * 8) + o) (fun r z => r = ((((lpr σ f i) * 1024) + 1) + ((x * 1024) + 32)) ∧ z = ((leB i) + (peB i))) := hu2
            have hP : va_P D vwCl (wPc q cI (sNb σ) (sWd σ) (sPp σ) (sCt σ) (sCs σ) mk la wa ++ wSe q cJ lp tp rkc2 odc2 fr fo) H := hP
            have hD : va_D A (wPc q cI (sNb σ) (sWd σ) (sPp σ) (sCt σ) (sCs σ) mk la wa ++ wSe q cJ lp tp rkc2 odc2 fr fo) := hD
            refine lv_goto (tgt := 170) hx hb dX1_fillCell_154 (by decide) ?_
            refine lv_iinc (v := jI (i + 1)) (lv' := [(6, .int (jI (i + 1))), (12, .long (jL ((x * 1024) + 32))), (11, .int (jZ pw)), (9, .long (jL (((lpr σ f i) * 1024) + 1))), (7, .long (jL (lpr σ f i))), (0, .ref (q 5)), (1, .int (jI f)), (2, .int (jI o)), (3, .int (jI lo)), (4, .int (jI hi)), (5, .int (jI ((f * 8) + o)))]) hx hb dX1_fillCell_170 hl (k := 10) rfl (jI_add _ _) (by decide) rfl (fun ls hl => ?_)
            refine lv_goto (tgt := 31) hx hb dX1_fillCell_173 (by decide) ?_
            exact ih31 (i + 1, rkc2, odc2, ls, H, locs) ⟨⟨by omega, fc_64 hi2 hu2 (fun r z w => off_B hS0 (by omega) (by omega) (by omega) (hk i (by omega) (by omega)) (((off_last hmy c85 (by omega)) r z).mp w)), fc_step hi3 hu2 (off_last hmy c85 (by omega)) (by omega) (by omega)⟩, by omega, lv_sub hl [5, 6, 7, 8, 9, 10, 0] rfl, hP, hD, hS⟩
          refine j_ifeqZ (tgt := 121) hx hb dX1_fillCell_105 (by decide) (fun c105 => ?_) (fun c105 => ?_)
          · skip
            refine j_lconst0 hx hb dX1_fillCell_121 ?_
            exact jn105 0 (by unfold wdw; first | exact (if_pos (hvpw.mp c105)).symm | exact (if_neg (fun w => c105 (hvpw.mpr w))).symm)
          · skip
            refine lv_aload_n hx hb dX1_fillCell_108 rfl (lv_at hl 3 rfl) ?_
            refine va_get (D := D) (ci := 1) (v := .ref (q 0)) (C := RX1) (T := TX1) (N := 7) hx hb hts hinX1 hown hK hP 5 rfl rfl 0 (by decide) (hts (.fieldLink RX1 11 "BreakLines$Search" "piece" "LBreakLines$Piece;") (by decide +kernel)) (fun _ h9 => h9) rfl dX1_fillCell_109 ?_
            refine va_get (D := D) (ci := 0) (v := .ref (q 1)) (C := RX0) (T := TX0) (N := 8) hx hb hts hinX0 hown hK hP 0 rfl rfl 4 (by decide) (hts (.fieldLink RX1 94 "BreakLines$Piece" "costs" "[I") (by decide +kernel)) (fun _ h9 => h9) rfl dX1_fillCell_112 ?_
            refine j_iconst hx hb dX1_fillCell_115 ?_
            refine j_iald hx hb hK hP 1 0 rfl rfl (i := 2) (by omega) (by decide) dX1_fillCell_116 ?_
            refine j_i2l hx hb (by unfold i32; omega) dX1_fillCell_117 ?_
            refine lv_goto (tgt := 122) hx hb dX1_fillCell_118 (by decide) ?_
            exact jn105 ((sCs σ) 2) (by unfold wdw; first | exact (if_pos (hvpw.mp c105)).symm | exact (if_neg (fun w => c105 (hvpw.mpr w))).symm)
        refine j_if_ne (tgt := 100) hx hb (by unfold i32; omega) dX1_fillCell_89 (by decide) (fun c89 => ?_) (fun c89 => ?_)
        · skip
          refine j_iconst hx hb dX1_fillCell_100 ?_
          refine j_topi (y := jZ False) ((jZ_f id).symm) ?_
          exact jn89 False (by first | exact ⟨fun _ => ⟨by omega, by omega⟩, fun _ => trivial⟩ | exact ⟨fun w => w.elim, fun w => by omega⟩)
        · skip
          refine lv_iload_n hx hb dX1_fillCell_92 rfl (lv_at hl 3 rfl) ?_
          refine j_if_le (tgt := 100) hx hb (by unfold i32; omega) dX1_fillCell_93 (by decide) (fun c93 => ?_) (fun c93 => ?_)
          · skip
            refine j_iconst hx hb dX1_fillCell_100 ?_
            refine j_topi (y := jZ False) ((jZ_f id).symm) ?_
            exact jn89 False (by first | exact ⟨fun _ => ⟨by omega, by omega⟩, fun _ => trivial⟩ | exact ⟨fun w => w.elim, fun w => by omega⟩)
          · skip
            refine j_iconst hx hb dX1_fillCell_96 ?_
            refine lv_goto (tgt := 101) hx hb dX1_fillCell_97 (by decide) ?_
            refine j_topi (y := jZ True) ((jZ_t trivial).symm) ?_
            exact jn89 True (by first | exact ⟨fun _ => ⟨by omega, by omega⟩, fun _ => trivial⟩ | exact ⟨fun w => w.elim, fun w => by omega⟩)
    · skip
      have hmn : ¬ may σ f i := by rcases hlr with w | w; exact w.1; omega
      refine lv_goto (tgt := 170) hx hb dX1_fillCell_61 (by decide) ?_
      refine lv_iinc (v := jI (i + 1)) (lv' := [(6, .int (jI (i + 1))), (7, .long (jL (lpr σ f i))), (0, .ref (q 5)), (1, .int (jI f)), (2, .int (jI o)), (3, .int (jI lo)), (4, .int (jI hi)), (5, .int (jI ((f * 8) + o)))]) hx hb dX1_fillCell_170 hl (k := 7) rfl (jI_add _ _) (by decide) rfl (fun ls hl => ?_)
      refine lv_goto (tgt := 31) hx hb dX1_fillCell_173 (by decide) ?_
      exact ih31 (i + 1, rk0, od0, ls, H, locs) ⟨⟨by omega, hi2, fc_step hi3 (cellUp_none (N := OffT σ rk od f o i) (fun r z w => hmn w.1)) (fun r z => Iff.rfl) (by omega) (by omega)⟩, by omega, lv_sub hl [2, 3, 4, 5, 6, 7, 0] rfl, hP, hD, hS⟩
set_option maxHeartbeats 4000000 in
set_option maxRecDepth 100000 in
theorem kX1_priceLinesAndTurns (l : Launch) (D : va_G) (cI cJ cZ : ClassId) (q : Nat → Nat) (σ : Sg) (la wa : Int → Int) (mk : Nat → Int32) (hok : okP σ la wa mk) (lp tp rk od : Int → Int) (fr fo : Int) : MuV l yX1_priceLinesAndTurns wsX1_priceLinesAndTurns 3 69 D (tyc cI cJ cZ) (wPc q cI (sNb σ) (sWd σ) (sPp σ) (sCt σ) (sCs σ) mk la wa ++ wSe q cJ lp tp rk od fr fo) [.ref (q 5)] (fun (u : (Int → Int) × (Int → Int)) => (∀ x y, 0 ≤ x → x ≤ y → y < sNb σ → u.1 (x * 24 + y) = lpr σ x y) ∧ (∀ x, 0 ≤ x → x < sNb σ → u.2 x = trn σ x)) (fun u => wPc q cI (sNb σ) (sWd σ) (sPp σ) (sCt σ) (sCs σ) mk la wa ++ wSe q cJ u.1 u.2 rk od fr fo) := by
  intro sz
  refine j_start RX1 rfl (by decide) rfl (Nat.le_of_ble_eq_true rfl) ?_
  intro p e s m below meth c ls hx hb hr hlocks hml hown hts hnm hl ⟨hsz, hP, hK, hD0⟩
  subst hsz
  have hD := hD0.self (sz := s.heap.size)
  generalize hAe : va_A (wPc q cI (sNb σ) (sWd σ) (sPp σ) (sCt σ) (sCs σ) mk la wa ++ wSe q cJ lp tp rk od fr fo) s.heap.size = A at hD ⊢
  have hA : ∀ q : Nat, s.heap.size ≤ q → A q := fun q h => by rw [← hAe]; exact Or.inr h
  refine j_gen (fun H locs hHe hLe => ?_)
  have hS : va_S A s.heap H locs := by rw [hHe, hLe]; exact va_S.rf
  have hP : va_P D vwCl (wPc q cI (sNb σ) (sWd σ) (sPp σ) (sCt σ) (sCs σ) mk la wa ++ wSe q cJ lp tp rk od fr fo) H := by rw [hHe]; exact hP
  have hD : va_D A (wPc q cI (sNb σ) (sWd σ) (sPp σ) (sCt σ) (sCs σ) mk la wa ++ wSe q cJ lp tp rk od fr fo) := hD
  have hl : lv_has ls 3 [(0, .ref (q 5))] := hl
  have hinX0 : ∀ w ∈ u_ws RX0 TX0 8, w ∈ wsX1_priceLinesAndTurns := by decide +kernel
  have hinX1 : ∀ w ∈ u_ws RX1 TX1 7, w ∈ wsX1_priceLinesAndTurns := by decide +kernel
  have hS0 := hok.1
  have hnb := hS0.1
  have hwd := hS0.2.1
  have hpp := hS0.2.2.1
  refine j_iconst hx hb dX1_priceLinesAndTurns_0 ?_
  refine lv_istore_n (lv' := [(1, .int (jI 0)), (0, .ref (q 5))]) hx hb dX1_priceLinesAndTurns_1 rfl hl (by decide) rfl (fun ls hl => ?_)
  refine j_loop (α := Int × (Int → Int) × (Int → Int) × Array Slot × Heap × List Loc) (h := fun z => match z with | (a, lp0, tp0, ls, H, locs) => H) (lc := fun z => match z with | (a, lp0, tp0, ls, H, locs) => locs) (f := fun z => match z with | (a, lp0, tp0, ls, H, locs) => F0 m 2 ls []) (P := fun nn z => match z with | (a, lp0, tp0, ls, H, locs) => ((0 ≤ a ∧ a ≤ sNb σ) ∧ (∀ x y, 0 ≤ x → x < a → x ≤ y → y < sNb σ → lp0 (x * 24 + y) = lpr σ x y) ∧ (∀ x, 0 ≤ x → x < a → tp0 x = trn σ x)) ∧ (sNb σ - a).toNat < nn ∧ lv_has ls 3 [(0, .ref (q 5)), (1, .int (jI a))] ∧ va_P D vwCl (wPc q cI (sNb σ) (sWd σ) (sPp σ) (sCt σ) (sCs σ) mk la wa ++ wSe q cJ lp0 tp0 rk od fr fo) H ∧ va_D A (wPc q cI (sNb σ) (sWd σ) (sPp σ) (sCt σ) (sCs σ) mk la wa ++ wSe q cJ lp0 tp0 rk od fr fo) ∧ va_S A s.heap H locs) (fun z hz => ?_) ?_ ((sNb σ - 0).toNat + 1) (0, lp, tp, ls, H, locs) ⟨⟨by omega, fun x y h1 h2 => by omega, fun x h1 h2 => by omega⟩, Nat.lt_succ_self _, lv_sub hl [1, 0] rfl, hP, hD, hS⟩
  · obtain ⟨a, lp0, tp0, ls, H, locs⟩ := z; exact absurd hz.2.1 (Nat.not_lt_zero _)
  intro n2 ih2 ⟨a, lp0, tp0, ls, H, locs⟩ ⟨hi2, hm2, hl, hP, hD, hS⟩
  have hl : lv_has ls 3 [(0, .ref (q 5)), (1, .int (jI a))] := hl
  have hP : va_P D vwCl (wPc q cI (sNb σ) (sWd σ) (sPp σ) (sCt σ) (sCs σ) mk la wa ++ wSe q cJ lp0 tp0 rk od fr fo) H := hP
  have hD : va_D A (wPc q cI (sNb σ) (sWd σ) (sPp σ) (sCt σ) (sCs σ) mk la wa ++ wSe q cJ lp0 tp0 rk od fr fo) := hD
  have hS : va_S A s.heap H locs := hS
  show W p l e _ s m _ below meth c H locs _ _ _ (F0 m 2 ls [])
  obtain ⟨ha1, ha2, ha3⟩ := hi2
  refine lv_iload_n hx hb dX1_priceLinesAndTurns_2 rfl (lv_at hl 1 rfl) ?_
  refine lv_aload_n hx hb dX1_priceLinesAndTurns_3 rfl (lv_at hl 0 rfl) ?_
  refine va_get (D := D) (ci := 1) (v := .ref (q 0)) (C := RX1) (T := TX1) (N := 7) hx hb hts hinX1 hown hK hP 5 rfl rfl 0 (by decide) (hts (.fieldLink RX1 11 "BreakLines$Search" "piece" "LBreakLines$Piece;") (by decide +kernel)) (fun _ h9 => h9) rfl dX1_priceLinesAndTurns_4 ?_
  refine va_get (D := D) (ci := 0) (v := .int (jI (sNb σ))) (C := RX0) (T := TX0) (N := 8) hx hb hts hinX0 hown hK hP 0 rfl rfl 0 (by decide) (hts (.fieldLink RX1 39 "BreakLines$Piece" "bars" "I") (by decide +kernel)) (fun _ h9 => h9) rfl dX1_priceLinesAndTurns_7 ?_
  refine j_icmp_ge (tgt := 73) hx hb (by unfold i32; omega) dX1_priceLinesAndTurns_10 (by decide) (fun c10 => ?_) (fun c10 => ?_)
  · skip
    exact j_mretV hx hb hr hlocks hS dX1_priceLinesAndTurns_73 (lp0, tp0) ⟨fun x y h1 h2 h3 => ha2 x y h1 (by omega) h2 h3, fun x h1 h2 => ha3 x h1 (by omega)⟩ hP
  · skip
    refine lv_aload_n hx hb dX1_priceLinesAndTurns_13 rfl (lv_at hl 0 rfl) ?_
    refine va_get (D := D) (ci := 1) (v := .ref (q 7)) (C := RX1) (T := TX1) (N := 7) hx hb hts hinX1 hown hK hP 5 rfl rfl 2 (by decide) (hts (.fieldLink RX1 21 "BreakLines$Search" "turnPrices" "[J") (by decide +kernel)) (fun _ h9 => h9) rfl dX1_priceLinesAndTurns_14 ?_
    refine lv_iload_n hx hb dX1_priceLinesAndTurns_17 rfl (lv_at hl 1 rfl) ?_
    refine lv_aload_n hx hb dX1_priceLinesAndTurns_18 rfl (lv_at hl 0 rfl) ?_
    refine va_get (D := D) (ci := 1) (v := .ref (q 0)) (C := RX1) (T := TX1) (N := 7) hx hb hts hinX1 hown hK hP 5 rfl rfl 0 (by decide) (hts (.fieldLink RX1 11 "BreakLines$Search" "piece" "LBreakLines$Piece;") (by decide +kernel)) (fun _ h9 => h9) rfl dX1_priceLinesAndTurns_19 ?_
    refine lv_iload_n hx hb dX1_priceLinesAndTurns_22 rfl (lv_at hl 1 rfl) ?_
    refine j_cVI (As := [.int (jI a)]) (rest := [.int (jI a), .ref (q 7)]) ⟨hx, hb, hml, hown, hts⟩ (kX0_turnPrice l D cI cJ cZ q σ la wa mk hok a (by omega)) (cwV 1 hts gX1_priceLinesAndTurns_X0_turnPrice rfl rfl rfl (by decide +kernel) ⟨Nat.le_of_ble_eq_true rfl, Nat.le_of_ble_eq_true rfl⟩) hK (hP.sub [0, 1, 2, 3, 4] rfl) (va_recv hK hP (ci := 0) (q0 := 0) rfl rfl) rfl hl.1 rfl (Nat.le_of_ble_eq_true rfl) ⟨Nat.zero_le _, Nat.zero_le _⟩ dX1_priceLinesAndTurns_23 ?_
    refine j_i2l hx hb (by have htb := trnB hS0 a; unfold i32; omega) dX1_priceLinesAndTurns_26 ?_
    refine j_last hx hb hK hP hD hS 7 1 rfl rfl (i := a) (by omega) (by decide) dX1_priceLinesAndTurns_27 (fun H locs hP hD hS => ?_)
    have hP : va_P D vwCl (wPc q cI (sNb σ) (sWd σ) (sPp σ) (sCt σ) (sCs σ) mk la wa ++ wSe q cJ lp0 (updI tp0 a (trn σ a)) rk od fr fo) H := hP
    have hD : va_D A (wPc q cI (sNb σ) (sWd σ) (sPp σ) (sCt σ) (sCs σ) mk la wa ++ wSe q cJ lp0 (updI tp0 a (trn σ a)) rk od fr fo) := hD
    have htb := trnB hS0 a
    refine lv_iload_n hx hb dX1_priceLinesAndTurns_28 rfl (lv_at hl 1 rfl) ?_
    refine lv_istore_n (lv' := [(2, .int (jI a)), (0, .ref (q 5)), (1, .int (jI a))]) hx hb dX1_priceLinesAndTurns_29 rfl hl (by decide) rfl (fun ls hl => ?_)
    refine j_loop (α := Int × (Int → Int) × Array Slot × Heap × List Loc) (h := fun z => match z with | (b, lp1, ls, H, locs) => H) (lc := fun z => match z with | (b, lp1, ls, H, locs) => locs) (f := fun z => match z with | (b, lp1, ls, H, locs) => F0 m 30 ls []) (P := fun nn z => match z with | (b, lp1, ls, H, locs) => ((a ≤ b ∧ b ≤ sNb σ) ∧ (∀ x y, 0 ≤ x → ((x < a ∧ x ≤ y ∧ y < sNb σ) ∨ (x = a ∧ a ≤ y ∧ y < b)) → lp1 (x * 24 + y) = lpr σ x y)) ∧ (sNb σ - b).toNat < nn ∧ lv_has ls 3 [(0, .ref (q 5)), (1, .int (jI a)), (2, .int (jI b))] ∧ va_P D vwCl (wPc q cI (sNb σ) (sWd σ) (sPp σ) (sCt σ) (sCs σ) mk la wa ++ wSe q cJ lp1 (updI tp0 a (trn σ a)) rk od fr fo) H ∧ va_D A (wPc q cI (sNb σ) (sWd σ) (sPp σ) (sCt σ) (sCs σ) mk la wa ++ wSe q cJ lp1 (updI tp0 a (trn σ a)) rk od fr fo) ∧ va_S A s.heap H locs) (fun z hz => ?_) ?_ ((sNb σ - a).toNat + 1) (a, lp0, ls, H, locs) ⟨⟨by omega, fun x y h1 h2 => ha2 x y h1 (by omega) (by omega) (by omega)⟩, Nat.lt_succ_self _, lv_sub hl [1, 2, 0] rfl, hP, hD, hS⟩
    · obtain ⟨b, lp1, ls, H, locs⟩ := z; exact absurd hz.2.1 (Nat.not_lt_zero _)
    intro n30 ih30 ⟨b, lp1, ls, H, locs⟩ ⟨hi30, hm30, hl, hP, hD, hS⟩
    have hl : lv_has ls 3 [(0, .ref (q 5)), (1, .int (jI a)), (2, .int (jI b))] := hl
    have hP : va_P D vwCl (wPc q cI (sNb σ) (sWd σ) (sPp σ) (sCt σ) (sCs σ) mk la wa ++ wSe q cJ lp1 (updI tp0 a (trn σ a)) rk od fr fo) H := hP
    have hD : va_D A (wPc q cI (sNb σ) (sWd σ) (sPp σ) (sCt σ) (sCs σ) mk la wa ++ wSe q cJ lp1 (updI tp0 a (trn σ a)) rk od fr fo) := hD
    have hS : va_S A s.heap H locs := hS
    show W p l e _ s m _ below meth c H locs _ _ _ (F0 m 30 ls [])
    obtain ⟨hb1, hb2⟩ := hi30
    refine lv_iload_n hx hb dX1_priceLinesAndTurns_30 rfl (lv_at hl 2 rfl) ?_
    refine lv_aload_n hx hb dX1_priceLinesAndTurns_31 rfl (lv_at hl 0 rfl) ?_
    refine va_get (D := D) (ci := 1) (v := .ref (q 0)) (C := RX1) (T := TX1) (N := 7) hx hb hts hinX1 hown hK hP 5 rfl rfl 0 (by decide) (hts (.fieldLink RX1 11 "BreakLines$Search" "piece" "LBreakLines$Piece;") (by decide +kernel)) (fun _ h9 => h9) rfl dX1_priceLinesAndTurns_32 ?_
    refine va_get (D := D) (ci := 0) (v := .int (jI (sNb σ))) (C := RX0) (T := TX0) (N := 8) hx hb hts hinX0 hown hK hP 0 rfl rfl 0 (by decide) (hts (.fieldLink RX1 39 "BreakLines$Piece" "bars" "I") (by decide +kernel)) (fun _ h9 => h9) rfl dX1_priceLinesAndTurns_35 ?_
    refine j_icmp_ge (tgt := 67) hx hb (by unfold i32; omega) dX1_priceLinesAndTurns_38 (by decide) (fun c38 => ?_) (fun c38 => ?_)
    · skip
      refine lv_iinc (v := jI (a + 1)) (lv' := [(1, .int (jI (a + 1))), (0, .ref (q 5)), (2, .int (jI b))]) hx hb dX1_priceLinesAndTurns_67 hl (k := 1) rfl (jI_add _ _) (by decide) rfl (fun ls hl => ?_)
      refine lv_goto (tgt := 2) hx hb dX1_priceLinesAndTurns_70 (by decide) ?_
      exact ih2 (a + 1, lp1, updI tp0 a (trn σ a), ls, H, locs) ⟨⟨by omega, fun x y h1 h2 h3 h4 => hb2 x y h1 (by omega), fun x h1 h2 => by
          by_cases w : x = a
          · rw [w, updI_s]
          · rw [updI_n w]; exact ha3 x h1 (by omega)⟩, by omega, lv_sub hl [1, 0] rfl, hP, hD, hS⟩
    · skip
      refine lv_aload_n hx hb dX1_priceLinesAndTurns_41 rfl (lv_at hl 0 rfl) ?_
      refine va_get (D := D) (ci := 1) (v := .ref (q 6)) (C := RX1) (T := TX1) (N := 7) hx hb hts hinX1 hown hK hP 5 rfl rfl 1 (by decide) (hts (.fieldLink RX1 17 "BreakLines$Search" "linePrices" "[J") (by decide +kernel)) (fun _ h9 => h9) rfl dX1_priceLinesAndTurns_42 ?_
      refine lv_iload_n hx hb dX1_priceLinesAndTurns_45 rfl (lv_at hl 1 rfl) ?_
      refine j_bipush hx hb dX1_priceLinesAndTurns_46 (by decide) ?_
      refine j_imul hx hb dX1_priceLinesAndTurns_48 ?_
      refine lv_iload_n hx hb dX1_priceLinesAndTurns_49 rfl (lv_at hl 2 rfl) ?_
      refine j_iadd hx hb dX1_priceLinesAndTurns_50 ?_
      refine lv_aload_n hx hb dX1_priceLinesAndTurns_51 rfl (lv_at hl 0 rfl) ?_
      refine va_get (D := D) (ci := 1) (v := .ref (q 0)) (C := RX1) (T := TX1) (N := 7) hx hb hts hinX1 hown hK hP 5 rfl rfl 0 (by decide) (hts (.fieldLink RX1 11 "BreakLines$Search" "piece" "LBreakLines$Piece;") (by decide +kernel)) (fun _ h9 => h9) rfl dX1_priceLinesAndTurns_52 ?_
      refine lv_iload_n hx hb dX1_priceLinesAndTurns_55 rfl (lv_at hl 1 rfl) ?_
      refine lv_iload_n hx hb dX1_priceLinesAndTurns_56 rfl (lv_at hl 2 rfl) ?_
      refine j_cVL (As := [.int (jI a), .int (jI b)]) (rest := [.int (jI ((a * 24) + b)), .ref (q 6)]) ⟨hx, hb, hml, hown, hts⟩ (kX0_linePrice l D cI cJ cZ q σ la wa mk hok a b (by omega)) (cwV 2 hts gX1_priceLinesAndTurns_X0_linePrice rfl rfl rfl (by decide +kernel) ⟨Nat.le_of_ble_eq_true rfl, Nat.le_of_ble_eq_true rfl⟩) hK (hP.sub [0, 1, 2, 3, 4] rfl) (va_recv hK hP (ci := 0) (q0 := 0) rfl rfl) rfl hl.1 rfl (Nat.le_of_ble_eq_true rfl) ⟨Nat.zero_le _, Nat.zero_le _⟩ dX1_priceLinesAndTurns_57 ?_
      refine j_last hx hb hK hP hD hS 6 1 rfl rfl (i := (a * 24) + b) (by omega) (by decide) dX1_priceLinesAndTurns_60 (fun H locs hP hD hS => ?_)
      have hP : va_P D vwCl (wPc q cI (sNb σ) (sWd σ) (sPp σ) (sCt σ) (sCs σ) mk la wa ++ wSe q cJ (updI lp1 ((a * 24) + b) (lpr σ a b)) (updI tp0 a (trn σ a)) rk od fr fo) H := hP
      have hD : va_D A (wPc q cI (sNb σ) (sWd σ) (sPp σ) (sCt σ) (sCs σ) mk la wa ++ wSe q cJ (updI lp1 ((a * 24) + b) (lpr σ a b)) (updI tp0 a (trn σ a)) rk od fr fo) := hD
      refine lv_iinc (v := jI (b + 1)) (lv' := [(2, .int (jI (b + 1))), (0, .ref (q 5)), (1, .int (jI a))]) hx hb dX1_priceLinesAndTurns_61 hl (k := 2) rfl (jI_add _ _) (by decide) rfl (fun ls hl => ?_)
      refine lv_goto (tgt := 30) hx hb dX1_priceLinesAndTurns_64 (by decide) ?_
      exact ih30 (b + 1, updI lp1 ((a * 24) + b) (lpr σ a b), ls, H, locs) ⟨⟨by omega, fun x y h1 h2 => by
          by_cases w : x * 24 + y = a * 24 + b
          · rw [w, updI_s, show x = a by omega, show y = b by omega]
          · rw [updI_n w]; exact hb2 x y h1 (by omega)⟩, by omega, lv_sub hl [1, 2, 0] rfl, hP, hD, hS⟩
set_option maxHeartbeats 4000000 in
set_option maxRecDepth 100000 in
theorem kX1_fillForAnyCount (l : Launch) (D : va_G) (cI cJ cZ : ClassId) (q : Nat → Nat) (σ : Sg) (la wa : Int → Int) (mk : Nat → Int32) (hok : okP σ la wa mk) (lp tp rk od : Int → Int) (fr fo : Int) (h : 0 < sNb σ) (hlp : ∀ x y, 0 ≤ x → x ≤ y → y < sNb σ → lp (x * 24 + y) = lpr σ x y) (htp : ∀ t, 0 ≤ t → t < sNb σ → tp t = trn σ t) : MuV l yX1_fillForAnyCount wsX1_fillForAnyCount 3 86 D (tyc cI cJ cZ) (wPc q cI (sNb σ) (sWd σ) (sPp σ) (sCt σ) (sCs σ) mk la wa ++ wSe q cJ lp tp rk od fr fo) [.ref (q 5)] (fun (u : (Int → Int) × (Int → Int)) => Bst (Cmp σ TT 0 0) (u.1 0) (u.2 0)) (fun u => wPc q cI (sNb σ) (sWd σ) (sPp σ) (sCt σ) (sCs σ) mk la wa ++ wSe q cJ lp tp u.1 u.2 fr fo) := by
  intro sz
  refine j_start RX1 rfl (by decide) rfl (Nat.le_of_ble_eq_true rfl) ?_
  intro p e s m below meth c ls hx hb hr hlocks hml hown hts hnm hl ⟨hsz, hP, hK, hD0⟩
  subst hsz
  have hD := hD0.self (sz := s.heap.size)
  generalize hAe : va_A (wPc q cI (sNb σ) (sWd σ) (sPp σ) (sCt σ) (sCs σ) mk la wa ++ wSe q cJ lp tp rk od fr fo) s.heap.size = A at hD ⊢
  have hA : ∀ q : Nat, s.heap.size ≤ q → A q := fun q h => by rw [← hAe]; exact Or.inr h
  refine j_gen (fun H locs hHe hLe => ?_)
  have hS : va_S A s.heap H locs := by rw [hHe, hLe]; exact va_S.rf
  have hP : va_P D vwCl (wPc q cI (sNb σ) (sWd σ) (sPp σ) (sCt σ) (sCs σ) mk la wa ++ wSe q cJ lp tp rk od fr fo) H := by rw [hHe]; exact hP
  have hD : va_D A (wPc q cI (sNb σ) (sWd σ) (sPp σ) (sCt σ) (sCs σ) mk la wa ++ wSe q cJ lp tp rk od fr fo) := hD
  have hl : lv_has ls 4 [(0, .ref (q 5))] := hl
  have hinX0 : ∀ w ∈ u_ws RX0 TX0 8, w ∈ wsX1_fillForAnyCount := by decide +kernel
  have hinX1 : ∀ w ∈ u_ws RX1 TX1 7, w ∈ wsX1_fillForAnyCount := by decide +kernel
  have hS0 := hok.1
  have hnb := hS0.1
  have hwd := hS0.2.1
  have hpp := hS0.2.2.1
  refine lv_aload_n hx hb dX1_fillForAnyCount_0 rfl (lv_at hl 0 rfl) ?_
  refine va_get (D := D) (ci := 1) (v := .ref (q 0)) (C := RX1) (T := TX1) (N := 7) hx hb hts hinX1 hown hK hP 5 rfl rfl 0 (by decide) (hts (.fieldLink RX1 11 "BreakLines$Search" "piece" "LBreakLines$Piece;") (by decide +kernel)) (fun _ h9 => h9) rfl dX1_fillForAnyCount_1 ?_
  refine va_get (D := D) (ci := 0) (v := .int (jI (sNb σ))) (C := RX0) (T := TX0) (N := 8) hx hb hts hinX0 hown hK hP 0 rfl rfl 0 (by decide) (hts (.fieldLink RX1 39 "BreakLines$Piece" "bars" "I") (by decide +kernel)) (fun _ h9 => h9) rfl dX1_fillForAnyCount_4 ?_
  refine j_iconst hx hb dX1_fillForAnyCount_7 ?_
  refine j_isub hx hb dX1_fillForAnyCount_8 ?_
  refine lv_istore_n (lv' := [(1, .int (jI ((sNb σ) - 1))), (0, .ref (q 5))]) hx hb dX1_fillForAnyCount_9 rfl hl (by decide) rfl (fun ls hl => ?_)
  refine j_loop (α := Int × (Int → Int) × (Int → Int) × Array Slot × Heap × List Loc) (h := fun z => match z with | (a, rk0, od0, ls, H, locs) => H) (lc := fun z => match z with | (a, rk0, od0, ls, H, locs) => locs) (f := fun z => match z with | (a, rk0, od0, ls, H, locs) => F0 m 10 ls []) (P := fun nn z => match z with | (a, rk0, od0, ls, H, locs) => ((-1 ≤ a ∧ a < sNb σ) ∧ tabA σ TT rk0 od0 a) ∧ (a + 1).toNat < nn ∧ lv_has ls 4 [(0, .ref (q 5)), (1, .int (jI a))] ∧ va_P D vwCl (wPc q cI (sNb σ) (sWd σ) (sPp σ) (sCt σ) (sCs σ) mk la wa ++ wSe q cJ lp tp rk0 od0 fr fo) H ∧ va_D A (wPc q cI (sNb σ) (sWd σ) (sPp σ) (sCt σ) (sCs σ) mk la wa ++ wSe q cJ lp tp rk0 od0 fr fo) ∧ va_S A s.heap H locs) (fun z hz => ?_) ?_ ((sNb σ - 1 + 1).toNat + 1) ((sNb σ) - 1, rk, od, ls, H, locs) ⟨⟨by omega, fun x o h1 h2 => by omega⟩, Nat.lt_succ_self _, lv_sub hl [1, 0] rfl, hP, hD, hS⟩
  · obtain ⟨a, rk0, od0, ls, H, locs⟩ := z; exact absurd hz.2.1 (Nat.not_lt_zero _)
  intro n10 ih10 ⟨a, rk0, od0, ls, H, locs⟩ ⟨hi10, hm10, hl, hP, hD, hS⟩
  have hl : lv_has ls 4 [(0, .ref (q 5)), (1, .int (jI a))] := hl
  have hP : va_P D vwCl (wPc q cI (sNb σ) (sWd σ) (sPp σ) (sCt σ) (sCs σ) mk la wa ++ wSe q cJ lp tp rk0 od0 fr fo) H := hP
  have hD : va_D A (wPc q cI (sNb σ) (sWd σ) (sPp σ) (sCt σ) (sCs σ) mk la wa ++ wSe q cJ lp tp rk0 od0 fr fo) := hD
  have hS : va_S A s.heap H locs := hS
  show W p l e _ s m _ below meth c H locs _ _ _ (F0 m 10 ls [])
  obtain ⟨ha1, ha2⟩ := hi10
  refine lv_iload_n hx hb dX1_fillForAnyCount_10 rfl (lv_at hl 1 rfl) ?_
  refine j_if_lt (tgt := 63) hx hb (by unfold i32; omega) dX1_fillForAnyCount_11 (by decide) (fun c11 => ?_) (fun c11 => ?_)
  · skip
    exact j_mretV hx hb hr hlocks hS dX1_fillForAnyCount_63 (rk0, od0) (ha2 0 0 (by omega) (by omega) (by omega) (by omega) (by omega)) hP
  · skip
    refine lv_aload_n hx hb dX1_fillForAnyCount_14 rfl (lv_at hl 0 rfl) ?_
    refine va_get (D := D) (ci := 1) (v := .ref (q 0)) (C := RX1) (T := TX1) (N := 7) hx hb hts hinX1 hown hK hP 5 rfl rfl 0 (by decide) (hts (.fieldLink RX1 11 "BreakLines$Search" "piece" "LBreakLines$Piece;") (by decide +kernel)) (fun _ h9 => h9) rfl dX1_fillForAnyCount_15 ?_
    refine va_get (D := D) (ci := 0) (v := .int (jI (sPp σ))) (C := RX0) (T := TX0) (N := 8) hx hb hts hinX0 hown hK hP 0 rfl rfl 2 (by decide) (hts (.fieldLink RX1 81 "BreakLines$Piece" "perPage" "I") (by decide +kernel)) (fun _ h9 => h9) rfl dX1_fillForAnyCount_18 ?_
    refine j_iconst hx hb dX1_fillForAnyCount_21 ?_
    refine j_isub hx hb dX1_fillForAnyCount_22 ?_
    refine lv_iload_n hx hb dX1_fillForAnyCount_23 rfl (lv_at hl 1 rfl) ?_
    refine va_mmin hx hb (hml.trans hl.1.symm) hown (hts (.methodLink RX1 84 Lib.Math.min.name) (by decide +kernel)) (hts (.static Lib.Math.min.name) (by decide +kernel)) (hts (.initialized "java/lang/Math") (by decide +kernel)) (hts (.code Lib.Math.min.name Lib.Math.min.code 2 (some .int)) (by decide +kernel)) (Nat.le_of_ble_eq_true rfl) (Nat.le_of_ble_eq_true rfl) (Nat.zero_le _) (Nat.zero_le _) dX1_fillForAnyCount_24 ?_
    refine j_topi (y := jI (min ((sPp σ) - 1) a)) (j_min (by unfold i32; omega)) ?_
    refine lv_istore_n (lv' := [(2, .int (jI (min ((sPp σ) - 1) a))), (0, .ref (q 5)), (1, .int (jI a))]) hx hb dX1_fillForAnyCount_27 rfl hl (by decide) rfl (fun ls hl => ?_)
    refine j_iconst hx hb dX1_fillForAnyCount_28 ?_
    refine lv_istore_n (lv' := [(3, .int (jI 0)), (2, .int (jI (min ((sPp σ) - 1) a))), (0, .ref (q 5)), (1, .int (jI a))]) hx hb dX1_fillForAnyCount_29 rfl hl (by decide) rfl (fun ls hl => ?_)
    refine j_loop (α := Int × (Int → Int) × (Int → Int) × Array Slot × Heap × List Loc) (h := fun z => match z with | (o, rk1, od1, ls, H, locs) => H) (lc := fun z => match z with | (o, rk1, od1, ls, H, locs) => locs) (f := fun z => match z with | (o, rk1, od1, ls, H, locs) => F0 m 30 ls []) (P := fun nn z => match z with | (o, rk1, od1, ls, H, locs) => ((0 ≤ o ∧ o ≤ min (sPp σ - 1) a + 1) ∧ rowA σ TT rk1 od1 a o) ∧ (min (sPp σ - 1) a + 1 - o).toNat < nn ∧ lv_has ls 4 [(0, .ref (q 5)), (1, .int (jI a)), (2, .int (jI (min ((sPp σ) - 1) a))), (3, .int (jI o))] ∧ va_P D vwCl (wPc q cI (sNb σ) (sWd σ) (sPp σ) (sCt σ) (sCs σ) mk la wa ++ wSe q cJ lp tp rk1 od1 fr fo) H ∧ va_D A (wPc q cI (sNb σ) (sWd σ) (sPp σ) (sCt σ) (sCs σ) mk la wa ++ wSe q cJ lp tp rk1 od1 fr fo) ∧ va_S A s.heap H locs) (fun z hz => ?_) ?_ ((min (sPp σ - 1) a + 1 - 0).toNat + 1) (0, rk0, od0, ls, H, locs) ⟨⟨by omega, ha2, fun x h1 h2 => by omega⟩, Nat.lt_succ_self _, lv_sub hl [2, 3, 1, 0] rfl, hP, hD, hS⟩
    · obtain ⟨o, rk1, od1, ls, H, locs⟩ := z; exact absurd hz.2.1 (Nat.not_lt_zero _)
    intro n30 ih30 ⟨o, rk1, od1, ls, H, locs⟩ ⟨hi30, hm30, hl, hP, hD, hS⟩
    have hl : lv_has ls 4 [(0, .ref (q 5)), (1, .int (jI a)), (2, .int (jI (min ((sPp σ) - 1) a))), (3, .int (jI o))] := hl
    have hP : va_P D vwCl (wPc q cI (sNb σ) (sWd σ) (sPp σ) (sCt σ) (sCs σ) mk la wa ++ wSe q cJ lp tp rk1 od1 fr fo) H := hP
    have hD : va_D A (wPc q cI (sNb σ) (sWd σ) (sPp σ) (sCt σ) (sCs σ) mk la wa ++ wSe q cJ lp tp rk1 od1 fr fo) := hD
    have hS : va_S A s.heap H locs := hS
    show W p l e _ s m _ below meth c H locs _ _ _ (F0 m 30 ls [])
    obtain ⟨hb1, hb2⟩ := hi30
    refine lv_iload_n hx hb dX1_fillForAnyCount_30 rfl (lv_at hl 3 rfl) ?_
    refine lv_iload_n hx hb dX1_fillForAnyCount_31 rfl (lv_at hl 2 rfl) ?_
    refine j_icmp_gt (tgt := 57) hx hb (by unfold i32; omega) dX1_fillForAnyCount_32 (by decide) (fun c32 => ?_) (fun c32 => ?_)
    · skip
      refine lv_iinc (v := jI (a + (-1))) (lv' := [(1, .int (jI (a + (-1)))), (0, .ref (q 5)), (2, .int (jI (min ((sPp σ) - 1) a))), (3, .int (jI o))]) hx hb dX1_fillForAnyCount_57 hl (k := 1) rfl (jI_add _ _) (by decide) rfl (fun ls hl => ?_)
      refine lv_goto (tgt := 10) hx hb dX1_fillForAnyCount_60 (by decide) ?_
      exact ih10 (a + (-1), rk1, od1, ls, H, locs) ⟨⟨by omega, rowA_end hb2 (by omega)⟩, by omega, lv_sub hl [1, 0] rfl, hP, hD, hS⟩
    · skip
      refine lv_aload_n hx hb dX1_fillForAnyCount_35 rfl (lv_at hl 0 rfl) ?_
      refine lv_iload_n hx hb dX1_fillForAnyCount_36 rfl (lv_at hl 1 rfl) ?_
      refine lv_iload_n hx hb dX1_fillForAnyCount_37 rfl (lv_at hl 3 rfl) ?_
      refine lv_iload_n hx hb dX1_fillForAnyCount_38 rfl (lv_at hl 1 rfl) ?_
      refine lv_aload_n hx hb dX1_fillForAnyCount_39 rfl (lv_at hl 0 rfl) ?_
      refine va_get (D := D) (ci := 1) (v := .ref (q 0)) (C := RX1) (T := TX1) (N := 7) hx hb hts hinX1 hown hK hP 5 rfl rfl 0 (by decide) (hts (.fieldLink RX1 11 "BreakLines$Search" "piece" "LBreakLines$Piece;") (by decide +kernel)) (fun _ h9 => h9) rfl dX1_fillForAnyCount_40 ?_
      refine va_get (D := D) (ci := 0) (v := .int (jI (sNb σ))) (C := RX0) (T := TX0) (N := 8) hx hb hts hinX0 hown hK hP 0 rfl rfl 0 (by decide) (hts (.fieldLink RX1 39 "BreakLines$Piece" "bars" "I") (by decide +kernel)) (fun _ h9 => h9) rfl dX1_fillForAnyCount_43 ?_
      refine j_iconst hx hb dX1_fillForAnyCount_46 ?_
      refine j_isub hx hb dX1_fillForAnyCount_47 ?_
      refine j_mVV (As := [.int (jI a), .int (jI o), .int (jI a), .int (jI ((sNb σ) - 1))]) (rest := []) ⟨hx, hb, hml, hown, hts⟩ (kX1_fillCell l D cI cJ cZ q σ la wa mk hok lp tp rk1 od1 fr fo a o a ((sNb σ) - 1) (by omega) (fun t h1 h2 => hlp a t (by omega) h1 h2) htp (fun t h1 h2 h3 => tabA_ok hS0 hb2.1 (by omega) (by omega) (by omega) t h1 h2 h3)) (cwV 4 hts gX1_fillForAnyCount_X1_fillCell rfl rfl rfl (by decide +kernel) ⟨Nat.le_of_ble_eq_true rfl, Nat.le_of_ble_eq_true rfl⟩) hK hP hD hS hA (va_recv hK hP (ci := 1) (q0 := 5) rfl rfl) rfl hl.1 rfl (Nat.le_of_ble_eq_true rfl) ⟨Nat.zero_le _, Nat.zero_le _⟩ dX1_fillForAnyCount_48 [0, 1, 2, 3, 4, 5, 6, 7, 8, 9] [] [0, 1, 2, 3, 4, 5, 6, 7, 8, 9] rfl (by decide) (wr := ([] : va_W)) rfl (by decide) (by decide) (fun _ => rfl) (fun u => wPc q cI (sNb σ) (sWd σ) (sPp σ) (sCt σ) (sCs σ) mk la wa ++ wSe q cJ lp tp u.1 u.2 fr fo) (fun _ => rfl) (fun _ => rfl) (fun ⟨rkc1, odc1⟩ H locs hu1 hP hD hS => ?_)
      have hP : va_P D vwCl (wPc q cI (sNb σ) (sWd σ) (sPp σ) (sCt σ) (sCs σ) mk la wa ++ wSe q cJ lp tp rkc1 odc1 fr fo) H := hP
      have hD : va_D A (wPc q cI (sNb σ) (sWd σ) (sPp σ) (sCt σ) (sCs σ) mk la wa ++ wSe q cJ lp tp rkc1 odc1 fr fo) := hD
      refine lv_iinc (v := jI (o + 1)) (lv' := [(3, .int (jI (o + 1))), (0, .ref (q 5)), (1, .int (jI a)), (2, .int (jI (min ((sPp σ) - 1) a)))]) hx hb dX1_fillForAnyCount_51 hl (k := 3) rfl (jI_add _ _) (by decide) rfl (fun ls hl => ?_)
      refine lv_goto (tgt := 30) hx hb dX1_fillForAnyCount_54 (by decide) ?_
      exact ih30 (o + 1, rkc1, odc1, ls, H, locs) ⟨⟨by omega, rowA_step hS0 hb2 (by omega) (by omega) hu1.1 (fill_any hS0 hb2.1 (by omega) (by omega) (by omega) (by omega) hu1.2)⟩, by omega, lv_sub hl [1, 2, 3, 0] rfl, hP, hD, hS⟩
set_option maxHeartbeats 4000000 in
set_option maxRecDepth 100000 in
theorem kX1_fillForCount (l : Launch) (D : va_G) (cI cJ cZ : ClassId) (q : Nat → Nat) (σ : Sg) (la wa : Int → Int) (mk : Nat → Int32) (hok : okP σ la wa mk) (lp tp rk od : Int → Int) (fr fo : Int) (n : Int) (h : 1 ≤ n ∧ n ≤ sNb σ) (hlp : ∀ x y, 0 ≤ x → x ≤ y → y < sNb σ → lp (x * 24 + y) = lpr σ x y) (htp : ∀ t, 0 ≤ t → t < sNb σ → tp t = trn σ t) : MuV l yX1_fillForCount wsX1_fillForCount 3 86 D (tyc cI cJ cZ) (wPc q cI (sNb σ) (sWd σ) (sPp σ) (sCt σ) (sCs σ) mk la wa ++ wSe q cJ lp tp rk od fr fo) [.ref (q 5), .int (jI n)] (fun (u : (Int → Int) × (Int → Int)) => Bst (Cmp σ (Tn n) 0 0) (u.1 0) (u.2 0)) (fun u => wPc q cI (sNb σ) (sWd σ) (sPp σ) (sCt σ) (sCs σ) mk la wa ++ wSe q cJ lp tp u.1 u.2 fr fo) := by
  intro sz
  refine j_start RX1 rfl (by decide) rfl (Nat.le_of_ble_eq_true rfl) ?_
  intro p e s m below meth c ls hx hb hr hlocks hml hown hts hnm hl ⟨hsz, hP, hK, hD0⟩
  subst hsz
  have hD := hD0.self (sz := s.heap.size)
  generalize hAe : va_A (wPc q cI (sNb σ) (sWd σ) (sPp σ) (sCt σ) (sCs σ) mk la wa ++ wSe q cJ lp tp rk od fr fo) s.heap.size = A at hD ⊢
  have hA : ∀ q : Nat, s.heap.size ≤ q → A q := fun q h => by rw [← hAe]; exact Or.inr h
  refine j_gen (fun H locs hHe hLe => ?_)
  have hS : va_S A s.heap H locs := by rw [hHe, hLe]; exact va_S.rf
  have hP : va_P D vwCl (wPc q cI (sNb σ) (sWd σ) (sPp σ) (sCt σ) (sCs σ) mk la wa ++ wSe q cJ lp tp rk od fr fo) H := by rw [hHe]; exact hP
  have hD : va_D A (wPc q cI (sNb σ) (sWd σ) (sPp σ) (sCt σ) (sCs σ) mk la wa ++ wSe q cJ lp tp rk od fr fo) := hD
  have hl : lv_has ls 10 [(0, .ref (q 5)), (1, .int (jI n))] := hl
  have hinX0 : ∀ w ∈ u_ws RX0 TX0 8, w ∈ wsX1_fillForCount := by decide +kernel
  have hinX1 : ∀ w ∈ u_ws RX1 TX1 7, w ∈ wsX1_fillForCount := by decide +kernel
  have hS0 := hok.1
  have hnb := hS0.1
  have hwd := hS0.2.1
  have hpp := hS0.2.2.1
  refine j_iconst hx hb dX1_fillForCount_0 ?_
  refine lv_istore_n (lv' := [(2, .int (jI 1)), (0, .ref (q 5)), (1, .int (jI n))]) hx hb dX1_fillForCount_1 rfl hl (by decide) rfl (fun ls hl => ?_)
  refine j_loop (α := Int × (Int → Int) × (Int → Int) × Array Slot × Heap × List Loc) (h := fun z => match z with | (k, rk0, od0, ls, H, locs) => H) (lc := fun z => match z with | (k, rk0, od0, ls, H, locs) => locs) (f := fun z => match z with | (k, rk0, od0, ls, H, locs) => F0 m 2 ls []) (P := fun nn z => match z with | (k, rk0, od0, ls, H, locs) => ((1 ≤ k ∧ k ≤ n + 1) ∧ (k = 1 ∨ tC σ (k - 1) (n - k + 1) (n - k + 1) (if k = n + 1 then 0 else sNb σ - (k - 1)) rk0 od0)) ∧ (n + 1 - k).toNat < nn ∧ lv_has ls 10 [(0, .ref (q 5)), (1, .int (jI n)), (2, .int (jI k))] ∧ va_P D vwCl (wPc q cI (sNb σ) (sWd σ) (sPp σ) (sCt σ) (sCs σ) mk la wa ++ wSe q cJ lp tp rk0 od0 fr fo) H ∧ va_D A (wPc q cI (sNb σ) (sWd σ) (sPp σ) (sCt σ) (sCs σ) mk la wa ++ wSe q cJ lp tp rk0 od0 fr fo) ∧ va_S A s.heap H locs) (fun z hz => ?_) ?_ ((n + 1 - 1).toNat + 1) (1, rk, od, ls, H, locs) ⟨⟨by omega, Or.inl rfl⟩, Nat.lt_succ_self _, lv_sub hl [1, 2, 0] rfl, hP, hD, hS⟩
  · obtain ⟨k, rk0, od0, ls, H, locs⟩ := z; exact absurd hz.2.1 (Nat.not_lt_zero _)
  intro n2 ih2 ⟨k, rk0, od0, ls, H, locs⟩ ⟨hi2, hm2, hl, hP, hD, hS⟩
  have hl : lv_has ls 10 [(0, .ref (q 5)), (1, .int (jI n)), (2, .int (jI k))] := hl
  have hP : va_P D vwCl (wPc q cI (sNb σ) (sWd σ) (sPp σ) (sCt σ) (sCs σ) mk la wa ++ wSe q cJ lp tp rk0 od0 fr fo) H := hP
  have hD : va_D A (wPc q cI (sNb σ) (sWd σ) (sPp σ) (sCt σ) (sCs σ) mk la wa ++ wSe q cJ lp tp rk0 od0 fr fo) := hD
  have hS : va_S A s.heap H locs := hS
  show W p l e _ s m _ below meth c H locs _ _ _ (F0 m 2 ls [])
  obtain ⟨hk1, hk2⟩ := hi2
  refine lv_iload_n hx hb dX1_fillForCount_2 rfl (lv_at hl 2 rfl) ?_
  refine lv_iload_n hx hb dX1_fillForCount_3 rfl (lv_at hl 1 rfl) ?_
  refine j_icmp_gt (tgt := 113) hx hb (by unfold i32; omega) dX1_fillForCount_4 (by decide) (fun c4 => ?_) (fun c4 => ?_)
  · skip
    exact j_mretV hx hb hr hlocks hS dX1_fillForCount_113 (rk0, od0) (by
      have w := hk2.resolve_left (by omega)
      rw [if_pos (by omega), show k - 1 = n by omega, show n - k + 1 = 0 by omega] at w
      exact w 0 0 (by omega) (by omega) (by omega) (by omega) (by omega)) hP
  · skip
    refine lv_iload_n hx hb dX1_fillForCount_7 rfl (lv_at hl 1 rfl) ?_
    refine lv_iload_n hx hb dX1_fillForCount_8 rfl (lv_at hl 2 rfl) ?_
    refine j_isub hx hb dX1_fillForCount_9 ?_
    refine lv_istore_n (lv' := [(3, .int (jI (n - k))), (0, .ref (q 5)), (1, .int (jI n)), (2, .int (jI k))]) hx hb dX1_fillForCount_10 rfl hl (by decide) rfl (fun ls hl => ?_)
    refine lv_aload_n hx hb dX1_fillForCount_11 rfl (lv_at hl 1 rfl) ?_
    refine va_get (D := D) (ci := 1) (v := .ref (q 0)) (C := RX1) (T := TX1) (N := 7) hx hb hts hinX1 hown hK hP 5 rfl rfl 0 (by decide) (hts (.fieldLink RX1 11 "BreakLines$Search" "piece" "LBreakLines$Piece;") (by decide +kernel)) (fun _ h9 => h9) rfl dX1_fillForCount_12 ?_
    refine va_get (D := D) (ci := 0) (v := .int (jI (sNb σ))) (C := RX0) (T := TX0) (N := 8) hx hb hts hinX0 hown hK hP 0 rfl rfl 0 (by decide) (hts (.fieldLink RX1 39 "BreakLines$Piece" "bars" "I") (by decide +kernel)) (fun _ h9 => h9) rfl dX1_fillForCount_15 ?_
    refine lv_iload_n hx hb dX1_fillForCount_18 rfl (lv_at hl 3 rfl) ?_
    refine j_isub hx hb dX1_fillForCount_19 ?_
    refine lv_istore (lv' := [(4, .int (jI ((sNb σ) - k))), (3, .int (jI (n - k))), (0, .ref (q 5)), (1, .int (jI n)), (2, .int (jI k))]) hx hb dX1_fillForCount_20 hl (by decide) rfl (fun ls hl => ?_)
    refine lv_iload_n hx hb dX1_fillForCount_22 rfl (lv_at hl 1 rfl) ?_
    refine j_join (α := Int) (P := fun y => y = if n - k = 0 then 0 else sNb σ - k) (f := fun y => F0 m 32 ls [.int (jI y)]) ?_ (fun jn23 => ?_)
    · intro y hvy
      have hyb : -1 ≤ y ∧ y ≤ sNb σ := by split at hvy <;> omega
      refine lv_istore (lv' := [(5, .int (jI y)), (4, .int (jI ((sNb σ) - k))), (3, .int (jI (n - k))), (0, .ref (q 5)), (1, .int (jI n)), (2, .int (jI k))]) hx hb dX1_fillForCount_32 hl (by decide) rfl (fun ls hl => ?_)
      refine lv_aload_n hx hb dX1_fillForCount_34 rfl (lv_at hl 3 rfl) ?_
      refine va_get (D := D) (ci := 1) (v := .ref (q 0)) (C := RX1) (T := TX1) (N := 7) hx hb hts hinX1 hown hK hP 5 rfl rfl 0 (by decide) (hts (.fieldLink RX1 11 "BreakLines$Search" "piece" "LBreakLines$Piece;") (by decide +kernel)) (fun _ h9 => h9) rfl dX1_fillForCount_35 ?_
      refine va_get (D := D) (ci := 0) (v := .int (jI (sPp σ))) (C := RX0) (T := TX0) (N := 8) hx hb hts hinX0 hown hK hP 0 rfl rfl 2 (by decide) (hts (.fieldLink RX1 81 "BreakLines$Piece" "perPage" "I") (by decide +kernel)) (fun _ h9 => h9) rfl dX1_fillForCount_38 ?_
      refine j_iconst hx hb dX1_fillForCount_41 ?_
      refine j_isub hx hb dX1_fillForCount_42 ?_
      refine lv_iload_n hx hb dX1_fillForCount_43 rfl (lv_at hl 2 rfl) ?_
      refine va_mmin hx hb (hml.trans hl.1.symm) hown (hts (.methodLink RX1 84 Lib.Math.min.name) (by decide +kernel)) (hts (.static Lib.Math.min.name) (by decide +kernel)) (hts (.initialized "java/lang/Math") (by decide +kernel)) (hts (.code Lib.Math.min.name Lib.Math.min.code 2 (some .int)) (by decide +kernel)) (Nat.le_of_ble_eq_true rfl) (Nat.le_of_ble_eq_true rfl) (Nat.zero_le _) (Nat.zero_le _) dX1_fillForCount_44 ?_
      refine j_topi (y := jI (min ((sPp σ) - 1) (n - k))) (j_min (by unfold i32; omega)) ?_
      refine lv_istore (lv' := [(6, .int (jI (min ((sPp σ) - 1) (n - k)))), (5, .int (jI y)), (4, .int (jI ((sNb σ) - k))), (3, .int (jI (n - k))), (0, .ref (q 5)), (1, .int (jI n)), (2, .int (jI k))]) hx hb dX1_fillForCount_47 hl (by decide) rfl (fun ls hl => ?_)
      refine lv_iload_n hx hb dX1_fillForCount_49 rfl (lv_at hl 3 rfl) ?_
      refine lv_istore (lv' := [(7, .int (jI (n - k))), (6, .int (jI (min ((sPp σ) - 1) (n - k)))), (5, .int (jI y)), (4, .int (jI ((sNb σ) - k))), (3, .int (jI (n - k))), (0, .ref (q 5)), (1, .int (jI n)), (2, .int (jI k))]) hx hb dX1_fillForCount_50 hl (by decide) rfl (fun ls hl => ?_)
      refine j_loop (α := Int × (Int → Int) × (Int → Int) × Array Slot × Heap × List Loc) (h := fun z => match z with | (f, rk1, od1, ls, H, locs) => H) (lc := fun z => match z with | (f, rk1, od1, ls, H, locs) => locs) (f := fun z => match z with | (f, rk1, od1, ls, H, locs) => F0 m 52 ls []) (P := fun nn z => match z with | (f, rk1, od1, ls, H, locs) => ((n - k ≤ f ∧ f ≤ y + 1) ∧ rowC σ k (n - k) f rk1 od1 0) ∧ (y + 1 - f).toNat < nn ∧ lv_has ls 10 [(0, .ref (q 5)), (1, .int (jI n)), (2, .int (jI k)), (3, .int (jI (n - k))), (4, .int (jI ((sNb σ) - k))), (5, .int (jI y)), (6, .int (jI (min ((sPp σ) - 1) (n - k)))), (7, .int (jI f))] ∧ va_P D vwCl (wPc q cI (sNb σ) (sWd σ) (sPp σ) (sCt σ) (sCs σ) mk la wa ++ wSe q cJ lp tp rk1 od1 fr fo) H ∧ va_D A (wPc q cI (sNb σ) (sWd σ) (sPp σ) (sCt σ) (sCs σ) mk la wa ++ wSe q cJ lp tp rk1 od1 fr fo) ∧ va_S A s.heap H locs) (fun z hz => ?_) ?_ ((y + 1 - (n - k)).toNat + 1) (n - k, rk0, od0, ls, H, locs) ⟨⟨by split at hvy <;> omega, hk2.imp id (fun w => by rw [if_neg (by omega)] at w; exact w), fun x o h1 h2 => by omega, fun x h1 h2 => by omega⟩, Nat.lt_succ_self _, lv_sub hl [5, 6, 7, 4, 3, 2, 1, 0] rfl, hP, hD, hS⟩
      · obtain ⟨f, rk1, od1, ls, H, locs⟩ := z; exact absurd hz.2.1 (Nat.not_lt_zero _)
      intro n52 ih52 ⟨f, rk1, od1, ls, H, locs⟩ ⟨hi52, hm52, hl, hP, hD, hS⟩
      have hl : lv_has ls 10 [(0, .ref (q 5)), (1, .int (jI n)), (2, .int (jI k)), (3, .int (jI (n - k))), (4, .int (jI ((sNb σ) - k))), (5, .int (jI y)), (6, .int (jI (min ((sPp σ) - 1) (n - k)))), (7, .int (jI f))] := hl
      have hP : va_P D vwCl (wPc q cI (sNb σ) (sWd σ) (sPp σ) (sCt σ) (sCs σ) mk la wa ++ wSe q cJ lp tp rk1 od1 fr fo) H := hP
      have hD : va_D A (wPc q cI (sNb σ) (sWd σ) (sPp σ) (sCt σ) (sCs σ) mk la wa ++ wSe q cJ lp tp rk1 od1 fr fo) := hD
      have hS : va_S A s.heap H locs := hS
      show W p l e _ s m _ below meth c H locs _ _ _ (F0 m 52 ls [])
      obtain ⟨hf1, hf2⟩ := hi52
      refine lv_iload hx hb dX1_fillForCount_52 (lv_at hl 7 rfl) ?_
      refine lv_iload hx hb dX1_fillForCount_54 (lv_at hl 5 rfl) ?_
      refine j_icmp_gt (tgt := 107) hx hb (by unfold i32; omega) dX1_fillForCount_56 (by decide) (fun c56 => ?_) (fun c56 => ?_)
      · skip
        refine lv_iinc (v := jI (k + 1)) (lv' := [(2, .int (jI (k + 1))), (0, .ref (q 5)), (1, .int (jI n)), (3, .int (jI (n - k))), (4, .int (jI ((sNb σ) - k))), (5, .int (jI y)), (6, .int (jI (min ((sPp σ) - 1) (n - k)))), (7, .int (jI f))]) hx hb dX1_fillForCount_107 hl (k := 2) rfl (jI_add _ _) (by decide) rfl (fun ls hl => ?_)
        refine lv_goto (tgt := 2) hx hb dX1_fillForCount_110 (by decide) ?_
        exact ih2 (k + 1, rk1, od1, ls, H, locs) ⟨⟨by omega, Or.inr (by
          have w := hf2.2.1
          have e : (if k + 1 = n + 1 then (0 : Int) else sNb σ - (k + 1 - 1)) = y := by split at hvy <;> split <;> omega
          rw [e, show k + 1 - 1 = k by omega, show n - (k + 1) + 1 = n - k by omega]
          intro x o h1 h2; exact w x o h1 (by omega))⟩, by omega, lv_sub hl [1, 2, 0] rfl, hP, hD, hS⟩
      · skip
        refine lv_iload_n hx hb dX1_fillForCount_59 rfl (lv_at hl 2 rfl) ?_
        refine j_iconst hx hb dX1_fillForCount_60 ?_
        refine j_join (α := Int) (P := fun w => w = if k = 1 then sNb σ - k else f) (f := fun w => F0 m 71 ls [.int (jI w)]) ?_ (fun jn61 => ?_)
        · intro w hvw
          have hfn : f ≤ sNb σ - k := by split at hvy <;> omega
          have hwb : f ≤ w ∧ w ≤ sNb σ := by split at hvw <;> omega
          refine lv_istore (lv' := [(8, .int (jI w)), (0, .ref (q 5)), (1, .int (jI n)), (2, .int (jI k)), (3, .int (jI (n - k))), (4, .int (jI ((sNb σ) - k))), (5, .int (jI y)), (6, .int (jI (min ((sPp σ) - 1) (n - k)))), (7, .int (jI f))]) hx hb dX1_fillForCount_71 hl (by decide) rfl (fun ls hl => ?_)
          refine j_iconst hx hb dX1_fillForCount_73 ?_
          refine lv_istore (lv' := [(9, .int (jI 0)), (8, .int (jI w)), (0, .ref (q 5)), (1, .int (jI n)), (2, .int (jI k)), (3, .int (jI (n - k))), (4, .int (jI ((sNb σ) - k))), (5, .int (jI y)), (6, .int (jI (min ((sPp σ) - 1) (n - k)))), (7, .int (jI f))]) hx hb dX1_fillForCount_74 hl (by decide) rfl (fun ls hl => ?_)
          refine j_loop (α := Int × (Int → Int) × (Int → Int) × Array Slot × Heap × List Loc) (h := fun z => match z with | (o, rk2, od2, ls, H, locs) => H) (lc := fun z => match z with | (o, rk2, od2, ls, H, locs) => locs) (f := fun z => match z with | (o, rk2, od2, ls, H, locs) => F0 m 76 ls []) (P := fun nn z => match z with | (o, rk2, od2, ls, H, locs) => ((0 ≤ o ∧ o ≤ min (sPp σ - 1) (n - k) + 1) ∧ rowC σ k (n - k) f rk2 od2 o) ∧ (min (sPp σ - 1) (n - k) + 1 - o).toNat < nn ∧ lv_has ls 10 [(0, .ref (q 5)), (1, .int (jI n)), (2, .int (jI k)), (3, .int (jI (n - k))), (4, .int (jI ((sNb σ) - k))), (5, .int (jI y)), (6, .int (jI (min ((sPp σ) - 1) (n - k)))), (7, .int (jI f)), (8, .int (jI w)), (9, .int (jI o))] ∧ va_P D vwCl (wPc q cI (sNb σ) (sWd σ) (sPp σ) (sCt σ) (sCs σ) mk la wa ++ wSe q cJ lp tp rk2 od2 fr fo) H ∧ va_D A (wPc q cI (sNb σ) (sWd σ) (sPp σ) (sCt σ) (sCs σ) mk la wa ++ wSe q cJ lp tp rk2 od2 fr fo) ∧ va_S A s.heap H locs) (fun z hz => ?_) ?_ ((min (sPp σ - 1) (n - k) + 1 - 0).toNat + 1) (0, rk1, od1, ls, H, locs) ⟨⟨by omega, hf2⟩, Nat.lt_succ_self _, lv_sub hl [2, 3, 4, 5, 6, 7, 8, 9, 1, 0] rfl, hP, hD, hS⟩
          · obtain ⟨o, rk2, od2, ls, H, locs⟩ := z; exact absurd hz.2.1 (Nat.not_lt_zero _)
          intro n76 ih76 ⟨o, rk2, od2, ls, H, locs⟩ ⟨hi76, hm76, hl, hP, hD, hS⟩
          have hl : lv_has ls 10 [(0, .ref (q 5)), (1, .int (jI n)), (2, .int (jI k)), (3, .int (jI (n - k))), (4, .int (jI ((sNb σ) - k))), (5, .int (jI y)), (6, .int (jI (min ((sPp σ) - 1) (n - k)))), (7, .int (jI f)), (8, .int (jI w)), (9, .int (jI o))] := hl
          have hP : va_P D vwCl (wPc q cI (sNb σ) (sWd σ) (sPp σ) (sCt σ) (sCs σ) mk la wa ++ wSe q cJ lp tp rk2 od2 fr fo) H := hP
          have hD : va_D A (wPc q cI (sNb σ) (sWd σ) (sPp σ) (sCt σ) (sCs σ) mk la wa ++ wSe q cJ lp tp rk2 od2 fr fo) := hD
          have hS : va_S A s.heap H locs := hS
          show W p l e _ s m _ below meth c H locs _ _ _ (F0 m 76 ls [])
          obtain ⟨ho1, ho2⟩ := hi76
          refine lv_iload hx hb dX1_fillForCount_76 (lv_at hl 9 rfl) ?_
          refine lv_iload hx hb dX1_fillForCount_78 (lv_at hl 6 rfl) ?_
          refine j_icmp_gt (tgt := 101) hx hb (by unfold i32; omega) dX1_fillForCount_80 (by decide) (fun c80 => ?_) (fun c80 => ?_)
          · skip
            refine lv_iinc (v := jI (f + 1)) (lv' := [(7, .int (jI (f + 1))), (0, .ref (q 5)), (1, .int (jI n)), (2, .int (jI k)), (3, .int (jI (n - k))), (4, .int (jI ((sNb σ) - k))), (5, .int (jI y)), (6, .int (jI (min ((sPp σ) - 1) (n - k)))), (8, .int (jI w)), (9, .int (jI o))]) hx hb dX1_fillForCount_101 hl (k := 7) rfl (jI_add _ _) (by decide) rfl (fun ls hl => ?_)
            refine lv_goto (tgt := 52) hx hb dX1_fillForCount_104 (by decide) ?_
            exact ih52 (f + 1, rk2, od2, ls, H, locs) ⟨⟨by omega, rowC_next ho2 (by omega)⟩, by omega, lv_sub hl [1, 2, 3, 4, 5, 6, 7, 0] rfl, hP, hD, hS⟩
          · skip
            refine lv_aload_n hx hb dX1_fillForCount_83 rfl (lv_at hl 0 rfl) ?_
            refine lv_iload hx hb dX1_fillForCount_84 (lv_at hl 7 rfl) ?_
            refine lv_iload hx hb dX1_fillForCount_86 (lv_at hl 9 rfl) ?_
            refine lv_iload hx hb dX1_fillForCount_88 (lv_at hl 8 rfl) ?_
            refine lv_iload hx hb dX1_fillForCount_90 (lv_at hl 4 rfl) ?_
            refine j_mVV (As := [.int (jI f), .int (jI o), .int (jI w), .int (jI ((sNb σ) - k))]) (rest := []) ⟨hx, hb, hml, hown, hts⟩ (kX1_fillCell l D cI cJ cZ q σ la wa mk hok lp tp rk2 od2 fr fo f o w ((sNb σ) - k) (by omega) (fun t h1 h2 => hlp f t (by omega) h1 h2) htp (fun t h1 h2 h3 => tC_ok hS0 ho2.1 (by omega) (by omega) hvw (by omega) (by omega) t h1 h2 h3)) (cwV 4 hts gX1_fillForCount_X1_fillCell rfl rfl rfl (by decide +kernel) ⟨Nat.le_of_ble_eq_true rfl, Nat.le_of_ble_eq_true rfl⟩) hK hP hD hS hA (va_recv hK hP (ci := 1) (q0 := 5) rfl rfl) rfl hl.1 rfl (Nat.le_of_ble_eq_true rfl) ⟨Nat.zero_le _, Nat.zero_le _⟩ dX1_fillForCount_92 [0, 1, 2, 3, 4, 5, 6, 7, 8, 9] [] [0, 1, 2, 3, 4, 5, 6, 7, 8, 9] rfl (by decide) (wr := ([] : va_W)) rfl (by decide) (by decide) (fun _ => rfl) (fun u => wPc q cI (sNb σ) (sWd σ) (sPp σ) (sCt σ) (sCs σ) mk la wa ++ wSe q cJ lp tp u.1 u.2 fr fo) (fun _ => rfl) (fun _ => rfl) (fun ⟨rkc1, odc1⟩ H locs hu1 hP hD hS => ?_)
            have hP : va_P D vwCl (wPc q cI (sNb σ) (sWd σ) (sPp σ) (sCt σ) (sCs σ) mk la wa ++ wSe q cJ lp tp rkc1 odc1 fr fo) H := hP
            have hD : va_D A (wPc q cI (sNb σ) (sWd σ) (sPp σ) (sCt σ) (sCs σ) mk la wa ++ wSe q cJ lp tp rkc1 odc1 fr fo) := hD
            refine lv_iinc (v := jI (o + 1)) (lv' := [(9, .int (jI (o + 1))), (0, .ref (q 5)), (1, .int (jI n)), (2, .int (jI k)), (3, .int (jI (n - k))), (4, .int (jI ((sNb σ) - k))), (5, .int (jI y)), (6, .int (jI (min ((sPp σ) - 1) (n - k)))), (7, .int (jI f)), (8, .int (jI w))]) hx hb dX1_fillForCount_95 hl (k := 9) rfl (jI_add _ _) (by decide) rfl (fun ls hl => ?_)
            refine lv_goto (tgt := 76) hx hb dX1_fillForCount_98 (by decide) ?_
            exact ih76 (o + 1, rkc1, odc1, ls, H, locs) ⟨⟨by omega, rowC_step hS0 ho2 (by omega) (by omega) hu1.1 (fill_cnt hS0 ho2.1 (by omega) (by omega) hfn hvw (by omega) (by omega) hu1.2)⟩, by omega, lv_sub hl [1, 2, 3, 4, 5, 6, 7, 8, 9, 0] rfl, hP, hD, hS⟩
        refine j_icmp_ne (tgt := 69) hx hb (by unfold i32; omega) dX1_fillForCount_61 (by decide) (fun c61 => ?_) (fun c61 => ?_)
        · skip
          refine lv_iload hx hb dX1_fillForCount_69 (lv_at hl 7 rfl) ?_
          exact jn61 f (by first | exact (if_pos (by omega)).symm | exact (if_neg (by omega)).symm)
        · skip
          refine lv_iload hx hb dX1_fillForCount_64 (lv_at hl 4 rfl) ?_
          refine lv_goto (tgt := 71) hx hb dX1_fillForCount_66 (by decide) ?_
          exact jn61 ((sNb σ) - k) (by first | exact (if_pos (by omega)).symm | exact (if_neg (by omega)).symm)
    refine j_if_ne (tgt := 30) hx hb (by unfold i32; omega) dX1_fillForCount_23 (by decide) (fun c23 => ?_) (fun c23 => ?_)
    · skip
      refine lv_iload hx hb dX1_fillForCount_30 (lv_at hl 0 rfl) ?_
      exact jn23 ((sNb σ) - k) (by first | exact (if_pos (by omega)).symm | exact (if_neg (by omega)).symm)
    · skip
      refine j_iconst hx hb dX1_fillForCount_26 ?_
      refine lv_goto (tgt := 32) hx hb dX1_fillForCount_27 (by decide) ?_
      exact jn23 0 (by first | exact (if_pos (by omega)).symm | exact (if_neg (by omega)).symm)
set_option maxHeartbeats 4000000 in
set_option maxRecDepth 100000 in
theorem kX1_run (l : Launch) (D : va_G) (cI cJ cZ : ClassId) (q : Nat → Nat) (σ : Sg) (la wa : Int → Int) (mk : Nat → Int32) (hok : okP σ la wa mk) (lp tp rk od : Int → Int) (fr fo : Int) : MuV l yX1_run wsX1_run 4 115 D (tyc cI cJ cZ) (wPc q cI (sNb σ) (sWd σ) (sPp σ) (sCt σ) (sCs σ) mk la wa ++ wSe q cJ lp tp rk od fr fo) [.ref (q 5)] (fun (u : (Int → Int) × (Int → Int) × (Int → Int) × (Int → Int) × Int × Int) => Bst (Cmp σ (Tc σ) 0 0) u.2.2.2.2.1 u.2.2.2.2.2) (fun u => wPc q cI (sNb σ) (sWd σ) (sPp σ) (sCt σ) (sCs σ) mk la wa ++ wSe q cJ u.1 u.2.1 u.2.2.1 u.2.2.2.1 u.2.2.2.2.1 u.2.2.2.2.2) := by
  intro sz
  refine j_start RX1 rfl (by decide) rfl (Nat.le_of_ble_eq_true rfl) ?_
  intro p e s m below meth c ls hx hb hr hlocks hml hown hts hnm hl ⟨hsz, hP, hK, hD0⟩
  subst hsz
  have hD := hD0.self (sz := s.heap.size)
  generalize hAe : va_A (wPc q cI (sNb σ) (sWd σ) (sPp σ) (sCt σ) (sCs σ) mk la wa ++ wSe q cJ lp tp rk od fr fo) s.heap.size = A at hD ⊢
  have hA : ∀ q : Nat, s.heap.size ≤ q → A q := fun q h => by rw [← hAe]; exact Or.inr h
  refine j_gen (fun H locs hHe hLe => ?_)
  have hS : va_S A s.heap H locs := by rw [hHe, hLe]; exact va_S.rf
  have hP : va_P D vwCl (wPc q cI (sNb σ) (sWd σ) (sPp σ) (sCt σ) (sCs σ) mk la wa ++ wSe q cJ lp tp rk od fr fo) H := by rw [hHe]; exact hP
  have hD : va_D A (wPc q cI (sNb σ) (sWd σ) (sPp σ) (sCt σ) (sCs σ) mk la wa ++ wSe q cJ lp tp rk od fr fo) := hD
  have hl : lv_has ls 1 [(0, .ref (q 5))] := hl
  have hinX0 : ∀ w ∈ u_ws RX0 TX0 8, w ∈ wsX1_run := by decide +kernel
  have hinX1 : ∀ w ∈ u_ws RX1 TX1 7, w ∈ wsX1_run := by decide +kernel
  have hS0 := hok.1
  have hnb := hS0.1
  have hwd := hS0.2.1
  have hpp := hS0.2.2.1
  have hct := hS0.2.2.2.1
  refine lv_aload_n hx hb dX1_run_0 rfl (lv_at hl 0 rfl) ?_
  refine j_lconst0 hx hb dX1_run_1 ?_
  refine va_put (D := D) (ci := 1) (v := .long (jL 0)) (ty := .long) (C := RX1) (T := TX1) (N := 7) hx hb hts hinX1 tyX1 tyX1_ok nmX1 hown hK hP hD hS 5 rfl rfl 6 (by decide) (hts (.fieldLink RX1 36 "BreakLines$Search" "foundOrder" "J") (by decide +kernel)) (fun _ h9 => h9) rfl (by decide +kernel) rfl rfl (Nat.le_of_ble_eq_true rfl) dX1_run_2 (fun H locs hP hD hS => ?_)
  have hP : va_P D vwCl (wPc q cI (sNb σ) (sWd σ) (sPp σ) (sCt σ) (sCs σ) mk la wa ++ wSe q cJ lp tp rk od fr 0) H := hP
  have hD : va_D A (wPc q cI (sNb σ) (sWd σ) (sPp σ) (sCt σ) (sCs σ) mk la wa ++ wSe q cJ lp tp rk od fr 0) := hD
  refine lv_aload_n hx hb dX1_run_5 rfl (lv_at hl 0 rfl) ?_
  refine va_get (D := D) (ci := 1) (v := .ref (q 0)) (C := RX1) (T := TX1) (N := 7) hx hb hts hinX1 hown hK hP 5 rfl rfl 0 (by decide) (hts (.fieldLink RX1 11 "BreakLines$Search" "piece" "LBreakLines$Piece;") (by decide +kernel)) (fun _ h9 => h9) rfl dX1_run_6 ?_
  refine va_get (D := D) (ci := 0) (v := .int (jI (sNb σ))) (C := RX0) (T := TX0) (N := 8) hx hb hts hinX0 hown hK hP 0 rfl rfl 0 (by decide) (hts (.fieldLink RX1 39 "BreakLines$Piece" "bars" "I") (by decide +kernel)) (fun _ h9 => h9) rfl dX1_run_9 ?_
  refine j_if_ne (tgt := 37) hx hb (by unfold i32; omega) dX1_run_12 (by decide) (fun c12 => ?_) (fun c12 => ?_)
  · skip
    refine lv_aload_n hx hb dX1_run_37 rfl (lv_at hl 0 rfl) ?_
    refine va_get (D := D) (ci := 1) (v := .ref (q 0)) (C := RX1) (T := TX1) (N := 7) hx hb hts hinX1 hown hK hP 5 rfl rfl 0 (by decide) (hts (.fieldLink RX1 11 "BreakLines$Search" "piece" "LBreakLines$Piece;") (by decide +kernel)) (fun _ h9 => h9) rfl dX1_run_38 ?_
    refine va_get (D := D) (ci := 0) (v := .int (jI (sCt σ))) (C := RX0) (T := TX0) (N := 8) hx hb hts hinX0 hown hK hP 0 rfl rfl 3 (by decide) (hts (.fieldLink RX1 45 "BreakLines$Piece" "count" "I") (by decide +kernel)) (fun _ h9 => h9) rfl dX1_run_41 ?_
    refine lv_aload_n hx hb dX1_run_44 rfl (lv_at hl 0 rfl) ?_
    refine va_get (D := D) (ci := 1) (v := .ref (q 0)) (C := RX1) (T := TX1) (N := 7) hx hb hts hinX1 hown hK hP 5 rfl rfl 0 (by decide) (hts (.fieldLink RX1 11 "BreakLines$Search" "piece" "LBreakLines$Piece;") (by decide +kernel)) (fun _ h9 => h9) rfl dX1_run_45 ?_
    refine va_get (D := D) (ci := 0) (v := .int (jI (sNb σ))) (C := RX0) (T := TX0) (N := 8) hx hb hts hinX0 hown hK hP 0 rfl rfl 0 (by decide) (hts (.fieldLink RX1 39 "BreakLines$Piece" "bars" "I") (by decide +kernel)) (fun _ h9 => h9) rfl dX1_run_48 ?_
    refine j_icmp_le (tgt := 62) hx hb (by unfold i32; omega) dX1_run_51 (by decide) (fun c51 => ?_) (fun c51 => ?_)
    · skip
      refine lv_aload_n hx hb dX1_run_62 rfl (lv_at hl 0 rfl) ?_
      refine j_mVV (As := []) (rest := []) ⟨hx, hb, hml, hown, hts⟩ (kX1_priceLinesAndTurns l D cI cJ cZ q σ la wa mk hok lp tp rk od fr 0) (cwV 0 hts gX1_run_X1_priceLinesAndTurns rfl rfl rfl (by decide +kernel) ⟨Nat.le_of_ble_eq_true rfl, Nat.le_of_ble_eq_true rfl⟩) hK hP hD hS hA (va_recv hK hP (ci := 1) (q0 := 5) rfl rfl) rfl hl.1 rfl (Nat.le_of_ble_eq_true rfl) ⟨Nat.zero_le _, Nat.zero_le _⟩ dX1_run_63 [0, 1, 2, 3, 4, 5, 6, 7, 8, 9] [] [0, 1, 2, 3, 4, 5, 6, 7, 8, 9] rfl (by decide) (wr := ([] : va_W)) rfl (by decide) (by decide) (fun _ => rfl) (fun u => wPc q cI (sNb σ) (sWd σ) (sPp σ) (sCt σ) (sCs σ) mk la wa ++ wSe q cJ u.1 u.2 rk od fr 0) (fun _ => rfl) (fun _ => rfl) (fun ⟨lpc1, tpc1⟩ H locs hu1 hP hD hS => ?_)
      have hlp := hu1.1
      have htp := hu1.2
      have hP : va_P D vwCl (wPc q cI (sNb σ) (sWd σ) (sPp σ) (sCt σ) (sCs σ) mk la wa ++ wSe q cJ lpc1 tpc1 rk od fr 0) H := hP
      have hD : va_D A (wPc q cI (sNb σ) (sWd σ) (sPp σ) (sCt σ) (sCs σ) mk la wa ++ wSe q cJ lpc1 tpc1 rk od fr 0) := hD
      refine lv_aload_n hx hb dX1_run_66 rfl (lv_at hl 0 rfl) ?_
      refine va_get (D := D) (ci := 1) (v := .ref (q 0)) (C := RX1) (T := TX1) (N := 7) hx hb hts hinX1 hown hK hP 5 rfl rfl 0 (by decide) (hts (.fieldLink RX1 11 "BreakLines$Search" "piece" "LBreakLines$Piece;") (by decide +kernel)) (fun _ h9 => h9) rfl dX1_run_67 ?_
      refine va_get (D := D) (ci := 0) (v := .int (jI (sCt σ))) (C := RX0) (T := TX0) (N := 8) hx hb hts hinX0 hown hK hP 0 rfl rfl 3 (by decide) (hts (.fieldLink RX1 45 "BreakLines$Piece" "count" "I") (by decide +kernel)) (fun _ h9 => h9) rfl dX1_run_70 ?_
      refine j_joinM (α := (Int → Int) × (Int → Int) × Array Slot × Heap × List Loc) (h := (fun z => match z with | (rk1, od1, ls, H, locs) => H)) (lc := (fun z => match z with | (rk1, od1, ls, H, locs) => locs)) (f := (fun z => match z with | (rk1, od1, ls, H, locs) => F0 m 94 ls [])) (P := (fun z => match z with | (rk1, od1, ls, H, locs) => (Bst (Cmp σ (Tc σ) 0 0) (rk1 0) (od1 0)) ∧ lv_has ls 1 [(0, .ref (q 5))] ∧ va_P D vwCl (wPc q cI (sNb σ) (sWd σ) (sPp σ) (sCt σ) (sCs σ) mk la wa ++ wSe q cJ lpc1 tpc1 rk1 od1 fr 0) H ∧ va_D A (wPc q cI (sNb σ) (sWd σ) (sPp σ) (sCt σ) (sCs σ) mk la wa ++ wSe q cJ lpc1 tpc1 rk1 od1 fr 0) ∧ va_S A s.heap H locs)) ?_ (fun jn73 => ?_)
      · intro ⟨rk1, od1, ls, H, locs⟩ ⟨hj73, hl, hP, hD, hS⟩
        have hl : lv_has ls 1 [(0, .ref (q 5))] := hl
        have hP : va_P D vwCl (wPc q cI (sNb σ) (sWd σ) (sPp σ) (sCt σ) (sCs σ) mk la wa ++ wSe q cJ lpc1 tpc1 rk1 od1 fr 0) H := hP
        have hD : va_D A (wPc q cI (sNb σ) (sWd σ) (sPp σ) (sCt σ) (sCs σ) mk la wa ++ wSe q cJ lpc1 tpc1 rk1 od1 fr 0) := hD
        have hS : va_S A s.heap H locs := hS
        show W p l e _ s m _ below meth c H locs _ _ _ (F0 m 94 ls [])
        refine lv_aload_n hx hb dX1_run_94 rfl (lv_at hl 0 rfl) ?_
        refine lv_aload_n hx hb dX1_run_95 rfl (lv_at hl 0 rfl) ?_
        refine va_get (D := D) (ci := 1) (v := .ref (q 8)) (C := RX1) (T := TX1) (N := 7) hx hb hts hinX1 hown hK hP 5 rfl rfl 3 (by decide) (hts (.fieldLink RX1 24 "BreakLines$Search" "ranks" "[J") (by decide +kernel)) (fun _ h9 => h9) rfl dX1_run_96 ?_
        refine j_iconst hx hb dX1_run_99 ?_
        refine j_lald hx hb hK hP 8 1 rfl rfl (i := 0) (by omega) (by decide) dX1_run_100 ?_
        refine va_put (D := D) (ci := 1) (v := .long (jL (rk1 0))) (ty := .long) (C := RX1) (T := TX1) (N := 7) hx hb hts hinX1 tyX1 tyX1_ok nmX1 hown hK hP hD hS 5 rfl rfl 5 (by decide) (hts (.fieldLink RX1 32 "BreakLines$Search" "foundRank" "J") (by decide +kernel)) (fun _ h9 => h9) rfl (by decide +kernel) rfl rfl (Nat.le_of_ble_eq_true rfl) dX1_run_101 (fun H locs hP hD hS => ?_)
        have hP : va_P D vwCl (wPc q cI (sNb σ) (sWd σ) (sPp σ) (sCt σ) (sCs σ) mk la wa ++ wSe q cJ lpc1 tpc1 rk1 od1 (rk1 0) 0) H := hP
        have hD : va_D A (wPc q cI (sNb σ) (sWd σ) (sPp σ) (sCt σ) (sCs σ) mk la wa ++ wSe q cJ lpc1 tpc1 rk1 od1 (rk1 0) 0) := hD
        refine lv_aload_n hx hb dX1_run_104 rfl (lv_at hl 0 rfl) ?_
        refine lv_aload_n hx hb dX1_run_105 rfl (lv_at hl 0 rfl) ?_
        refine va_get (D := D) (ci := 1) (v := .ref (q 9)) (C := RX1) (T := TX1) (N := 7) hx hb hts hinX1 hown hK hP 5 rfl rfl 4 (by decide) (hts (.fieldLink RX1 27 "BreakLines$Search" "orders" "[J") (by decide +kernel)) (fun _ h9 => h9) rfl dX1_run_106 ?_
        refine j_iconst hx hb dX1_run_109 ?_
        refine j_lald hx hb hK hP 9 1 rfl rfl (i := 0) (by omega) (by decide) dX1_run_110 ?_
        refine va_put (D := D) (ci := 1) (v := .long (jL (od1 0))) (ty := .long) (C := RX1) (T := TX1) (N := 7) hx hb hts hinX1 tyX1 tyX1_ok nmX1 hown hK hP hD hS 5 rfl rfl 6 (by decide) (hts (.fieldLink RX1 36 "BreakLines$Search" "foundOrder" "J") (by decide +kernel)) (fun _ h9 => h9) rfl (by decide +kernel) rfl rfl (Nat.le_of_ble_eq_true rfl) dX1_run_111 (fun H locs hP hD hS => ?_)
        have hP : va_P D vwCl (wPc q cI (sNb σ) (sWd σ) (sPp σ) (sCt σ) (sCs σ) mk la wa ++ wSe q cJ lpc1 tpc1 rk1 od1 (rk1 0) (od1 0)) H := hP
        have hD : va_D A (wPc q cI (sNb σ) (sWd σ) (sPp σ) (sCt σ) (sCs σ) mk la wa ++ wSe q cJ lpc1 tpc1 rk1 od1 (rk1 0) (od1 0)) := hD
        exact j_mretV hx hb hr hlocks hS dX1_run_114 (lpc1, tpc1, rk1, od1, rk1 0, od1 0) hj73 hP
      refine j_if_ne (tgt := 83) hx hb (by unfold i32; omega) dX1_run_73 (by decide) (fun c73 => ?_) (fun c73 => ?_)
      · skip
        refine lv_aload_n hx hb dX1_run_83 rfl (lv_at hl 0 rfl) ?_
        refine lv_aload_n hx hb dX1_run_84 rfl (lv_at hl 0 rfl) ?_
        refine va_get (D := D) (ci := 1) (v := .ref (q 0)) (C := RX1) (T := TX1) (N := 7) hx hb hts hinX1 hown hK hP 5 rfl rfl 0 (by decide) (hts (.fieldLink RX1 11 "BreakLines$Search" "piece" "LBreakLines$Piece;") (by decide +kernel)) (fun _ h9 => h9) rfl dX1_run_85 ?_
        refine va_get (D := D) (ci := 0) (v := .int (jI (sCt σ))) (C := RX0) (T := TX0) (N := 8) hx hb hts hinX0 hown hK hP 0 rfl rfl 3 (by decide) (hts (.fieldLink RX1 45 "BreakLines$Piece" "count" "I") (by decide +kernel)) (fun _ h9 => h9) rfl dX1_run_88 ?_
        refine j_mVV (As := [.int (jI (sCt σ))]) (rest := []) ⟨hx, hb, hml, hown, hts⟩ (kX1_fillForCount l D cI cJ cZ q σ la wa mk hok lpc1 tpc1 rk od fr 0 (sCt σ) (by omega) hlp htp) (cwV 1 hts gX1_run_X1_fillForCount rfl rfl rfl (by decide +kernel) ⟨Nat.le_of_ble_eq_true rfl, Nat.le_of_ble_eq_true rfl⟩) hK hP hD hS hA (va_recv hK hP (ci := 1) (q0 := 5) rfl rfl) rfl hl.1 rfl (Nat.le_of_ble_eq_true rfl) ⟨Nat.zero_le _, Nat.zero_le _⟩ dX1_run_91 [0, 1, 2, 3, 4, 5, 6, 7, 8, 9] [] [0, 1, 2, 3, 4, 5, 6, 7, 8, 9] rfl (by decide) (wr := ([] : va_W)) rfl (by decide) (by decide) (fun _ => rfl) (fun u => wPc q cI (sNb σ) (sWd σ) (sPp σ) (sCt σ) (sCs σ) mk la wa ++ wSe q cJ lpc1 tpc1 u.1 u.2 fr 0) (fun _ => rfl) (fun _ => rfl) (fun ⟨rkc2, odc2⟩ H locs hu2 hP hD hS => ?_)
        have hP : va_P D vwCl (wPc q cI (sNb σ) (sWd σ) (sPp σ) (sCt σ) (sCs σ) mk la wa ++ wSe q cJ lpc1 tpc1 rkc2 odc2 fr 0) H := hP
        have hD : va_D A (wPc q cI (sNb σ) (sWd σ) (sPp σ) (sCt σ) (sCs σ) mk la wa ++ wSe q cJ lpc1 tpc1 rkc2 odc2 fr 0) := hD
        exact jn73 (rkc2, odc2, ls, H, locs) ⟨(runJ hu2 (by first | exact Or.inl ⟨c73, rfl⟩ | exact Or.inr ⟨c73, rfl⟩)), lv_sub hl [0] rfl, hP, hD, hS⟩
      · skip
        refine lv_aload_n hx hb dX1_run_76 rfl (lv_at hl 0 rfl) ?_
        refine j_mVV (As := []) (rest := []) ⟨hx, hb, hml, hown, hts⟩ (kX1_fillForAnyCount l D cI cJ cZ q σ la wa mk hok lpc1 tpc1 rk od fr 0  (by omega) hlp htp) (cwV 0 hts gX1_run_X1_fillForAnyCount rfl rfl rfl (by decide +kernel) ⟨Nat.le_of_ble_eq_true rfl, Nat.le_of_ble_eq_true rfl⟩) hK hP hD hS hA (va_recv hK hP (ci := 1) (q0 := 5) rfl rfl) rfl hl.1 rfl (Nat.le_of_ble_eq_true rfl) ⟨Nat.zero_le _, Nat.zero_le _⟩ dX1_run_77 [0, 1, 2, 3, 4, 5, 6, 7, 8, 9] [] [0, 1, 2, 3, 4, 5, 6, 7, 8, 9] rfl (by decide) (wr := ([] : va_W)) rfl (by decide) (by decide) (fun _ => rfl) (fun u => wPc q cI (sNb σ) (sWd σ) (sPp σ) (sCt σ) (sCs σ) mk la wa ++ wSe q cJ lpc1 tpc1 u.1 u.2 fr 0) (fun _ => rfl) (fun _ => rfl) (fun ⟨rkc3, odc3⟩ H locs hu3 hP hD hS => ?_)
        have hP : va_P D vwCl (wPc q cI (sNb σ) (sWd σ) (sPp σ) (sCt σ) (sCs σ) mk la wa ++ wSe q cJ lpc1 tpc1 rkc3 odc3 fr 0) H := hP
        have hD : va_D A (wPc q cI (sNb σ) (sWd σ) (sPp σ) (sCt σ) (sCs σ) mk la wa ++ wSe q cJ lpc1 tpc1 rkc3 odc3 fr 0) := hD
        refine lv_goto (tgt := 94) hx hb dX1_run_80 (by decide) ?_
        exact jn73 (rkc3, odc3, ls, H, locs) ⟨(runJ hu3 (by first | exact Or.inl ⟨c73, rfl⟩ | exact Or.inr ⟨c73, rfl⟩)), lv_sub hl [0] rfl, hP, hD, hS⟩
    · skip
      refine lv_aload_n hx hb dX1_run_54 rfl (lv_at hl 0 rfl) ?_
      refine lv_ldc2 (v := jL 9223372036854775807) hx hb hown (hts (.constantLong RX1 30 (9223372036854775807)) (by decide +kernel)) dX1_run_55 ?_
      refine va_put (D := D) (ci := 1) (v := .long (jL 9223372036854775807)) (ty := .long) (C := RX1) (T := TX1) (N := 7) hx hb hts hinX1 tyX1 tyX1_ok nmX1 hown hK hP hD hS 5 rfl rfl 5 (by decide) (hts (.fieldLink RX1 32 "BreakLines$Search" "foundRank" "J") (by decide +kernel)) (fun _ h9 => h9) rfl (by decide +kernel) rfl rfl (Nat.le_of_ble_eq_true rfl) dX1_run_58 (fun H locs hP hD hS => ?_)
      have hP : va_P D vwCl (wPc q cI (sNb σ) (sWd σ) (sPp σ) (sCt σ) (sCs σ) mk la wa ++ wSe q cJ lp tp rk od 9223372036854775807 0) H := hP
      have hD : va_D A (wPc q cI (sNb σ) (sWd σ) (sPp σ) (sCt σ) (sCs σ) mk la wa ++ wSe q cJ lp tp rk od 9223372036854775807 0) := hD
      exact j_mretV hx hb hr hlocks hS dX1_run_61 (lp, tp, rk, od, 9223372036854775807, 0) (Or.inl ⟨rfl, Full_empty hS0 (by omega)⟩) hP
  · skip
    refine lv_aload_n hx hb dX1_run_15 rfl (lv_at hl 0 rfl) ?_
    refine lv_aload_n hx hb dX1_run_16 rfl (lv_at hl 0 rfl) ?_
    refine va_get (D := D) (ci := 1) (v := .ref (q 0)) (C := RX1) (T := TX1) (N := 7) hx hb hts hinX1 hown hK hP 5 rfl rfl 0 (by decide) (hts (.fieldLink RX1 11 "BreakLines$Search" "piece" "LBreakLines$Piece;") (by decide +kernel)) (fun _ h9 => h9) rfl dX1_run_17 ?_
    refine va_get (D := D) (ci := 0) (v := .int (jI (sCt σ))) (C := RX0) (T := TX0) (N := 8) hx hb hts hinX0 hown hK hP 0 rfl rfl 3 (by decide) (hts (.fieldLink RX1 45 "BreakLines$Piece" "count" "I") (by decide +kernel)) (fun _ h9 => h9) rfl dX1_run_20 ?_
    refine j_join (α := Int) (P := fun x => x = if sCt σ = 0 then 0 else 9223372036854775807) (f := fun x => F0 m 33 ls [.long (jL x), .ref (q 5)]) ?_ (fun jn23 => ?_)
    · intro x hvx
      refine va_put (D := D) (ci := 1) (v := .long (jL x)) (ty := .long) (C := RX1) (T := TX1) (N := 7) hx hb hts hinX1 tyX1 tyX1_ok nmX1 hown hK hP hD hS 5 rfl rfl 5 (by decide) (hts (.fieldLink RX1 32 "BreakLines$Search" "foundRank" "J") (by decide +kernel)) (fun _ h9 => h9) rfl (by decide +kernel) rfl rfl (Nat.le_of_ble_eq_true rfl) dX1_run_33 (fun H locs hP hD hS => ?_)
      have hP : va_P D vwCl (wPc q cI (sNb σ) (sWd σ) (sPp σ) (sCt σ) (sCs σ) mk la wa ++ wSe q cJ lp tp rk od x 0) H := hP
      have hD : va_D A (wPc q cI (sNb σ) (sWd σ) (sPp σ) (sCt σ) (sCs σ) mk la wa ++ wSe q cJ lp tp rk od x 0) := hD
      exact j_mretV hx hb hr hlocks hS dX1_run_36 (lp, tp, rk, od, x, 0) (Full_none c12 hvx) hP
    refine j_if_ne (tgt := 30) hx hb (by unfold i32; omega) dX1_run_23 (by decide) (fun c23 => ?_) (fun c23 => ?_)
    · skip
      refine lv_ldc2 (v := jL 9223372036854775807) hx hb hown (hts (.constantLong RX1 30 (9223372036854775807)) (by decide +kernel)) dX1_run_30 ?_
      exact jn23 9223372036854775807 (by first | exact (if_pos c23).symm | exact (if_neg c23).symm)
    · skip
      refine j_lconst0 hx hb dX1_run_26 ?_
      refine lv_goto (tgt := 33) hx hb dX1_run_27 (by decide) ?_
      exact jn23 0 (by first | exact (if_pos c23).symm | exact (if_neg c23).symm)
end
end
section
/-! counting the bars at which lines or pages end; the rows that a setting is kept in -/
noncomputable section
def cntN (P : Int → Prop) : Nat → Int
  | 0 => 0
  | n + 1 => cntN P n + @ite _ (P n) (Classical.propDecidable _) 1 0
def cnt (P : Int → Prop) (k : Int) : Int := cntN P k.toNat
theorem cnt_0 (P : Int → Prop) : cnt P 0 = 0 := rfl
theorem cnt_t {P : Int → Prop} {k : Int} (h : 0 ≤ k) (hp : P k) : cnt P (k + 1) = cnt P k + 1 := by
  obtain ⟨n, rfl⟩ : ∃ n : Nat, k = n := ⟨k.toNat, by omega⟩
  show cntN P ((n : Int) + 1).toNat = cntN P (n : Int).toNat + 1
  rw [show ((n : Int) + 1).toNat = n + 1 by omega, show ((n : Int)).toNat = n by omega]
  show cntN P n + @ite _ (P n) (Classical.propDecidable _) 1 0 = _
  rw [if_pos hp]
theorem cnt_f {P : Int → Prop} {k : Int} (h : 0 ≤ k) (hp : ¬ P k) : cnt P (k + 1) = cnt P k := by
  obtain ⟨n, rfl⟩ : ∃ n : Nat, k = n := ⟨k.toNat, by omega⟩
  show cntN P ((n : Int) + 1).toNat = cntN P (n : Int).toNat
  rw [show ((n : Int) + 1).toNat = n + 1 by omega, show ((n : Int)).toNat = n by omega]
  show cntN P n + @ite _ (P n) (Classical.propDecidable _) 1 0 = _
  rw [if_neg hp]; omega
theorem cnt_m (P : Int → Prop) {a : Int} (h0 : 0 ≤ a) : ∀ n : Nat, cnt P a ≤ cnt P (a + n) ∧ cnt P (a + n) ≤ cnt P a + n := by
  intro n
  induction n with
  | zero => simp
  | succ n ih =>
    rw [show a + ((n + 1 : Nat) : Int) = (a + n) + 1 by omega]
    by_cases hp : P (a + n)
    · rw [cnt_t (by omega) hp]; omega
    · rw [cnt_f (by omega) hp]; omega
theorem cnt_le (P : Int → Prop) {a b : Int} (h0 : 0 ≤ a) (h : a ≤ b) : cnt P a ≤ cnt P b ∧ cnt P b ≤ cnt P a + (b - a) := by
  have := cnt_m P h0 (b - a).toNat
  rw [show a + (((b - a).toNat : Nat) : Int) = b by omega] at this
  omega
theorem cntB (P : Int → Prop) {a : Int} (h : 0 ≤ a) : 0 ≤ cnt P a ∧ cnt P a ≤ a := by
  have := cnt_le P (Int.le_refl 0) h
  rw [cnt_0] at this
  omega
theorem cnt_lt {P : Int → Prop} {a b : Int} (h0 : 0 ≤ a) (h : a < b) (hp : P a) : cnt P a + 1 ≤ cnt P b := by
  have := cnt_le P (a := a + 1) (b := b) (by omega) (by omega)
  rw [cnt_t h0 hp] at this
  omega
theorem cnt_c {P Q : Int → Prop} {k : Int} (h : ∀ j, 0 ≤ j → j < k → (P j ↔ Q j)) : cnt P k = cnt Q k := by
  unfold cnt
  have : ∀ n : Nat, (n : Int) ≤ k.toNat → cntN P n = cntN Q n := by
    intro n
    induction n with
    | zero => intro _; rfl
    | succ n ih =>
      intro hn
      have e := propext (h n (by omega) (by omega))
      show cntN P n + @ite _ (P n) (Classical.propDecidable _) 1 0 = cntN Q n + @ite _ (Q n) (Classical.propDecidable _) 1 0
      rw [ih (by omega), e]
  exact this _ (Int.le_refl _)
def setOK (LE PE : Int → Prop) (n ln pg : Int) (fb fl pl lb : Int → Int) : Prop := ln = cnt LE n ∧ pg = cnt PE n ∧ fb 0 = 0 ∧ fl 0 = 0 ∧ ∀ b, 0 ≤ b → b < n → lb b = cnt LE b ∧ (LE b → fb (cnt LE b + 1) = b + 1 ∧ pl (cnt LE b) = cnt PE b) ∧ (PE b → fl (cnt PE b + 1) = cnt LE (b + 1))
theorem setOK_0 {LE PE : Int → Prop} {fb fl pl lb : Int → Int} (h1 : fb 0 = 0) (h2 : fl 0 = 0) : setOK LE PE 0 0 0 fb fl pl lb := ⟨rfl, rfl, h1, h2, fun b h1 h2 => by omega⟩
theorem setOK_tt {LE PE : Int → Prop} {i ln pg : Int} {fb fl pl lb : Int → Int} (h : setOK LE PE i ln pg fb fl pl lb) (hi : 0 ≤ i) (hl : LE i) (hp : PE i) : setOK LE PE (i + 1) (ln + 1) (pg + 1) (updI fb (ln + 1) (i + 1)) (updI fl (pg + 1) (ln + 1)) (updI pl ln pg) (updI lb i ln) := by
  obtain ⟨h1, h2, h3, h4, h5⟩ := h
  have el := cnt_t (P := LE) hi hl
  have ep := cnt_t (P := PE) hi hp
  have b1 := cntB LE hi
  have b2 := cntB PE hi
  refine ⟨by omega, by omega, by rw [updI_n (by omega)]; exact h3, by rw [updI_n (by omega)]; exact h4, fun b k1 k2 => ?_⟩
  by_cases q : b = i
  · subst q
    refine ⟨by rw [updI_s]; exact h1, fun _ => ⟨by rw [← h1, updI_s], by rw [← h1, updI_s]; exact h2⟩, fun _ => by rw [← h2, updI_s]; omega⟩
  · obtain ⟨w1, w2, w3⟩ := h5 b k1 (by omega)
    refine ⟨by rw [updI_n q]; exact w1, fun w => ?_, fun w => ?_⟩
    · have c1 := cnt_lt (P := LE) k1 (show b < i by omega) w
      rw [updI_n (by omega), updI_n (by omega)]; exact w2 w
    · have c1 := cnt_lt (P := PE) k1 (show b < i by omega) w
      rw [updI_n (by omega)]; exact w3 w
theorem setOK_tf {LE PE : Int → Prop} {i ln pg : Int} {fb fl pl lb : Int → Int} (h : setOK LE PE i ln pg fb fl pl lb) (hi : 0 ≤ i) (hl : LE i) (hp : ¬ PE i) : setOK LE PE (i + 1) (ln + 1) pg (updI fb (ln + 1) (i + 1)) fl (updI pl ln pg) (updI lb i ln) := by
  obtain ⟨h1, h2, h3, h4, h5⟩ := h
  have el := cnt_t (P := LE) hi hl
  have ep := cnt_f (P := PE) hi hp
  have b1 := cntB LE hi
  have b2 := cntB PE hi
  refine ⟨by omega, by omega, by rw [updI_n (by omega)]; exact h3, h4, fun b k1 k2 => ?_⟩
  by_cases q : b = i
  · subst q
    refine ⟨by rw [updI_s]; exact h1, fun _ => ⟨by rw [← h1, updI_s], by rw [← h1, updI_s]; exact h2⟩, fun w => absurd w hp⟩
  · obtain ⟨w1, w2, w3⟩ := h5 b k1 (by omega)
    refine ⟨by rw [updI_n q]; exact w1, fun w => ?_, fun w => ?_⟩
    · have c1 := cnt_lt (P := LE) k1 (show b < i by omega) w
      rw [updI_n (by omega), updI_n (by omega)]; exact w2 w
    · have c1 := cnt_lt (P := PE) k1 (show b < i by omega) w
      exact w3 w
theorem setOK_ft {LE PE : Int → Prop} {i ln pg : Int} {fb fl pl lb : Int → Int} (h : setOK LE PE i ln pg fb fl pl lb) (hi : 0 ≤ i) (hl : ¬ LE i) (hp : PE i) : setOK LE PE (i + 1) ln (pg + 1) fb (updI fl (pg + 1) ln) pl (updI lb i ln) := by
  obtain ⟨h1, h2, h3, h4, h5⟩ := h
  have el := cnt_f (P := LE) hi hl
  have ep := cnt_t (P := PE) hi hp
  have b1 := cntB LE hi
  have b2 := cntB PE hi
  refine ⟨by omega, by omega, h3, by rw [updI_n (by omega)]; exact h4, fun b k1 k2 => ?_⟩
  by_cases q : b = i
  · subst q
    refine ⟨by rw [updI_s]; exact h1, fun w => absurd w hl, fun _ => by rw [← h2, updI_s]; omega⟩
  · obtain ⟨w1, w2, w3⟩ := h5 b k1 (by omega)
    refine ⟨by rw [updI_n q]; exact w1, fun w => ?_, fun w => ?_⟩
    · have c1 := cnt_lt (P := LE) k1 (show b < i by omega) w
      exact w2 w
    · have c1 := cnt_lt (P := PE) k1 (show b < i by omega) w
      rw [updI_n (by omega)]; exact w3 w
theorem setOK_ff {LE PE : Int → Prop} {i ln pg : Int} {fb fl pl lb : Int → Int} (h : setOK LE PE i ln pg fb fl pl lb) (hi : 0 ≤ i) (hl : ¬ LE i) (hp : ¬ PE i) : setOK LE PE (i + 1) ln pg fb fl pl (updI lb i ln) := by
  obtain ⟨h1, h2, h3, h4, h5⟩ := h
  have el := cnt_f (P := LE) hi hl
  have ep := cnt_f (P := PE) hi hp
  have b1 := cntB LE hi
  have b2 := cntB PE hi
  refine ⟨by omega, by omega, h3, h4, fun b k1 k2 => ?_⟩
  by_cases q : b = i
  · subst q
    refine ⟨by rw [updI_s]; exact h1, fun w => absurd w hl, fun w => absurd w hp⟩
  · obtain ⟨w1, w2, w3⟩ := h5 b k1 (by omega)
    refine ⟨by rw [updI_n q]; exact w1, fun w => ?_, fun w => ?_⟩
    · have c1 := cnt_lt (P := LE) k1 (show b < i by omega) w
      exact w2 w
    · have c1 := cnt_lt (P := PE) k1 (show b < i by omega) w
      exact w3 w
end
end
section
/-! the contracts of BreakLines$Setting -/
noncomputable section
set_option maxHeartbeats 4000000 in
set_option maxRecDepth 100000 in
theorem kX2_lastBar (l : Launch) (D : va_G) (cI cJ cZ : ClassId) (q : Nat → Nat) (ex : Prop) (to ln pg : Int) (fb fl pl lb : Int → Int) (k : Int) (h : 0 ≤ k ∧ k < 24) : RoI l yX2_lastBar wsX2_lastBar 0 0 D (tyc cI cJ cZ) (wSt q cI ex to ln pg fb fl pl lb) [.ref (q 10), .int (jI k)] (jI (fb (k + 1) - 1)) := by
  refine j_start RX2 rfl (by decide) rfl (Nat.le_of_ble_eq_true rfl) ?_
  intro p e s m below meth c ls hx hb hr hlocks hml hown hts hnm hl ⟨hP, hK⟩
  have hP : va_P D vwCl (wSt q cI ex to ln pg fb fl pl lb) s.heap := hP
  have hl : lv_has ls 2 [(0, .ref (q 10)), (1, .int (jI k))] := hl
  have hinX2 : ∀ w ∈ u_ws RX2 TX2 8, w ∈ wsX2_lastBar := by decide +kernel
  refine lv_aload_n hx hb dX2_lastBar_0 rfl (lv_at hl 0 rfl) ?_
  refine va_get (D := D) (ci := 2) (v := .ref (q 11)) (C := RX2) (T := TX2) (N := 8) hx hb hts hinX2 hown hK hP 0 rfl rfl 4 (by decide) (hts (.fieldLink RX2 26 "BreakLines$Setting" "firstBar" "[I") (by decide +kernel)) (fun _ h9 => h9) rfl dX2_lastBar_1 ?_
  refine lv_iload_n hx hb dX2_lastBar_4 rfl (lv_at hl 1 rfl) ?_
  refine j_iconst hx hb dX2_lastBar_5 ?_
  refine j_iadd hx hb dX2_lastBar_6 ?_
  refine j_iald hx hb hK hP 1 0 rfl rfl (i := k + 1) (by omega) (by decide) dX2_lastBar_7 ?_
  refine j_iconst hx hb dX2_lastBar_8 ?_
  refine j_isub hx hb dX2_lastBar_9 ?_
  exact j_retI hx hb hr hlocks dX2_lastBar_10 rfl
set_option maxHeartbeats 4000000 in
set_option maxRecDepth 100000 in
theorem kX2_linesOnPage (l : Launch) (D : va_G) (cI cJ cZ : ClassId) (q : Nat → Nat) (ex : Prop) (to ln pg : Int) (fb fl pl lb : Int → Int) (k : Int) (h : 0 ≤ k ∧ k < 24) : RoI l yX2_linesOnPage wsX2_linesOnPage 0 0 D (tyc cI cJ cZ) (wSt q cI ex to ln pg fb fl pl lb) [.ref (q 10), .int (jI k)] (jI (fl (k + 1) - fl k)) := by
  refine j_start RX2 rfl (by decide) rfl (Nat.le_of_ble_eq_true rfl) ?_
  intro p e s m below meth c ls hx hb hr hlocks hml hown hts hnm hl ⟨hP, hK⟩
  have hP : va_P D vwCl (wSt q cI ex to ln pg fb fl pl lb) s.heap := hP
  have hl : lv_has ls 2 [(0, .ref (q 10)), (1, .int (jI k))] := hl
  have hinX2 : ∀ w ∈ u_ws RX2 TX2 8, w ∈ wsX2_linesOnPage := by decide +kernel
  refine lv_aload_n hx hb dX2_linesOnPage_0 rfl (lv_at hl 0 rfl) ?_
  refine va_get (D := D) (ci := 2) (v := .ref (q 12)) (C := RX2) (T := TX2) (N := 8) hx hb hts hinX2 hown hK hP 0 rfl rfl 5 (by decide) (hts (.fieldLink RX2 30 "BreakLines$Setting" "firstLine" "[I") (by decide +kernel)) (fun _ h9 => h9) rfl dX2_linesOnPage_1 ?_
  refine lv_iload_n hx hb dX2_linesOnPage_4 rfl (lv_at hl 1 rfl) ?_
  refine j_iconst hx hb dX2_linesOnPage_5 ?_
  refine j_iadd hx hb dX2_linesOnPage_6 ?_
  refine j_iald hx hb hK hP 2 0 rfl rfl (i := k + 1) (by omega) (by decide) dX2_linesOnPage_7 ?_
  refine lv_aload_n hx hb dX2_linesOnPage_8 rfl (lv_at hl 0 rfl) ?_
  refine va_get (D := D) (ci := 2) (v := .ref (q 12)) (C := RX2) (T := TX2) (N := 8) hx hb hts hinX2 hown hK hP 0 rfl rfl 5 (by decide) (hts (.fieldLink RX2 30 "BreakLines$Setting" "firstLine" "[I") (by decide +kernel)) (fun _ h9 => h9) rfl dX2_linesOnPage_9 ?_
  refine lv_iload_n hx hb dX2_linesOnPage_12 rfl (lv_at hl 1 rfl) ?_
  refine j_iald hx hb hK hP 2 0 rfl rfl (i := k) (by omega) (by decide) dX2_linesOnPage_13 ?_
  refine j_isub hx hb dX2_linesOnPage_14 ?_
  exact j_retI hx hb hr hlocks dX2_linesOnPage_15 rfl
set_option maxHeartbeats 4000000 in
set_option maxRecDepth 100000 in
theorem kX2_take (l : Launch) (D : va_G) (cI cJ cZ : ClassId) (q : Nat → Nat) (σ : Sg) (la wa : Int → Int) (mk : Nat → Int32) (hok : okP σ la wa mk) (lp tp rk od : Int → Int) (fr fo : Int) (ex : Prop) (to ln pg : Int) (fb fl pl lb : Int → Int) (h : okC fr fo) (h0 : fb 0 = 0 ∧ fl 0 = 0) : MuV l yX2_take wsX2_take 2 41 D (tyc cI cJ cZ) (wPc q cI (sNb σ) (sWd σ) (sPp σ) (sCt σ) (sCs σ) mk la wa ++ wSe q cJ lp tp rk od fr fo ++ wSt q cI ex to ln pg fb fl pl lb) [.ref (q 10), .ref (q 5), .int (jI (sNb σ))] (fun (u : Int × Int × (Int → Int) × (Int → Int) × (Int → Int) × (Int → Int)) => (u.2.2.1 0 = 0 ∧ u.2.2.2.1 0 = 0) ∧ (fr ≠ 9223372036854775807 → setOK (fun b => fo / leB b % 2 = 1) (fun b => fo / peB b % 2 = 1) (sNb σ) u.1 u.2.1 u.2.2.1 u.2.2.2.1 u.2.2.2.2.1 u.2.2.2.2.2)) (fun u => wPc q cI (sNb σ) (sWd σ) (sPp σ) (sCt σ) (sCs σ) mk la wa ++ wSe q cJ lp tp rk od fr fo ++ wSt q cI (fr ≠ 9223372036854775807) (if fr = 9223372036854775807 then -1 else fr / 1024) u.1 u.2.1 u.2.2.1 u.2.2.2.1 u.2.2.2.2.1 u.2.2.2.2.2) := by
  intro sz
  refine j_start RX2 rfl (by decide) rfl (Nat.le_of_ble_eq_true rfl) ?_
  intro p e s m below meth c ls hx hb hr hlocks hml hown hts hnm hl ⟨hsz, hP, hK, hD0⟩
  subst hsz
  have hD := hD0.self (sz := s.heap.size)
  generalize hAe : va_A (wPc q cI (sNb σ) (sWd σ) (sPp σ) (sCt σ) (sCs σ) mk la wa ++ wSe q cJ lp tp rk od fr fo ++ wSt q cI ex to ln pg fb fl pl lb) s.heap.size = A at hD ⊢
  have hA : ∀ q : Nat, s.heap.size ≤ q → A q := fun q h => by rw [← hAe]; exact Or.inr h
  refine j_gen (fun H locs hHe hLe => ?_)
  have hS : va_S A s.heap H locs := by rw [hHe, hLe]; exact va_S.rf
  have hP : va_P D vwCl (wPc q cI (sNb σ) (sWd σ) (sPp σ) (sCt σ) (sCs σ) mk la wa ++ wSe q cJ lp tp rk od fr fo ++ wSt q cI ex to ln pg fb fl pl lb) H := by rw [hHe]; exact hP
  have hD : va_D A (wPc q cI (sNb σ) (sWd σ) (sPp σ) (sCt σ) (sCs σ) mk la wa ++ wSe q cJ lp tp rk od fr fo ++ wSt q cI ex to ln pg fb fl pl lb) := hD
  have hl : lv_has ls 4 [(0, .ref (q 10)), (1, .ref (q 5)), (2, .int (jI (sNb σ)))] := hl
  have hinX2 : ∀ w ∈ u_ws RX2 TX2 8, w ∈ wsX2_take := by decide +kernel
  have hS0 := hok.1
  have hnb := hS0.1
  have hwd := hS0.2.1
  have hpp := hS0.2.2.1
  have hc := h
  unfold okC at hc
  refine lv_aload_n hx hb dX2_take_0 rfl (lv_at hl 0 rfl) ?_
  refine lv_aload_n hx hb dX2_take_1 rfl (lv_at hl 1 rfl) ?_
  refine j_cVI (As := []) (rest := [.ref (q 10)]) ⟨hx, hb, hml, hown, hts⟩ (kX1_hasFound l D cI cJ cZ q σ la wa mk hok lp tp rk od fr fo  (by unfold i64; omega)) (cwV 0 hts gX2_take_X1_hasFound rfl rfl rfl (by decide +kernel) ⟨Nat.le_of_ble_eq_true rfl, Nat.le_of_ble_eq_true rfl⟩) hK (hP.sub [0, 1, 2, 3, 4, 5, 6, 7, 8, 9] rfl) (va_recv hK hP (ci := 1) (q0 := 5) rfl rfl) rfl hl.1 rfl (Nat.le_of_ble_eq_true rfl) ⟨Nat.zero_le _, Nat.zero_le _⟩ dX2_take_2 ?_
  refine va_put (D := D) (ci := 2) (v := .int (jZ (fr ≠ 9223372036854775807))) (ty := .boolean) (C := RX2) (T := TX2) (N := 8) hx hb hts hinX2 tyX2 tyX2_ok nmX2 hown hK hP hD hS 10 rfl rfl 0 (by decide) (hts (.fieldLink RX2 9 "BreakLines$Setting" "exists" "Z") (by decide +kernel)) (fun _ h9 => h9) rfl (by decide +kernel) (jZ_narrow _) (jZ_fits _) (Nat.le_of_ble_eq_true rfl) dX2_take_5 (fun H locs hP hD hS => ?_)
  have hP : va_P D vwCl (wPc q cI (sNb σ) (sWd σ) (sPp σ) (sCt σ) (sCs σ) mk la wa ++ wSe q cJ lp tp rk od fr fo ++ wSt q cI (fr ≠ 9223372036854775807) to ln pg fb fl pl lb) H := hP
  have hD : va_D A (wPc q cI (sNb σ) (sWd σ) (sPp σ) (sCt σ) (sCs σ) mk la wa ++ wSe q cJ lp tp rk od fr fo ++ wSt q cI (fr ≠ 9223372036854775807) to ln pg fb fl pl lb) := hD
  refine lv_aload_n hx hb dX2_take_8 rfl (lv_at hl 0 rfl) ?_
  refine lv_aload_n hx hb dX2_take_9 rfl (lv_at hl 1 rfl) ?_
  refine j_cVL (As := []) (rest := [.ref (q 10)]) ⟨hx, hb, hml, hown, hts⟩ (kX1_foundTotal l D cI cJ cZ q σ la wa mk hok lp tp rk od fr fo  (by omega)) (cwV 0 hts gX2_take_X1_foundTotal rfl rfl rfl (by decide +kernel) ⟨Nat.le_of_ble_eq_true rfl, Nat.le_of_ble_eq_true rfl⟩) hK (hP.sub [0, 1, 2, 3, 4, 5, 6, 7, 8, 9] rfl) (va_recv hK hP (ci := 1) (q0 := 5) rfl rfl) rfl hl.1 rfl (Nat.le_of_ble_eq_true rfl) ⟨Nat.zero_le _, Nat.zero_le _⟩ dX2_take_10 ?_
  refine va_put (D := D) (ci := 2) (v := .long (jL (if fr = 9223372036854775807 then -1 else fr / 1024))) (ty := .long) (C := RX2) (T := TX2) (N := 8) hx hb hts hinX2 tyX2 tyX2_ok nmX2 hown hK hP hD hS 10 rfl rfl 1 (by decide) (hts (.fieldLink RX2 15 "BreakLines$Setting" "total" "J") (by decide +kernel)) (fun _ h9 => h9) rfl (by decide +kernel) rfl rfl (Nat.le_of_ble_eq_true rfl) dX2_take_13 (fun H locs hP hD hS => ?_)
  have hP : va_P D vwCl (wPc q cI (sNb σ) (sWd σ) (sPp σ) (sCt σ) (sCs σ) mk la wa ++ wSe q cJ lp tp rk od fr fo ++ wSt q cI (fr ≠ 9223372036854775807) (if fr = 9223372036854775807 then -1 else fr / 1024) ln pg fb fl pl lb) H := hP
  have hD : va_D A (wPc q cI (sNb σ) (sWd σ) (sPp σ) (sCt σ) (sCs σ) mk la wa ++ wSe q cJ lp tp rk od fr fo ++ wSt q cI (fr ≠ 9223372036854775807) (if fr = 9223372036854775807 then -1 else fr / 1024) ln pg fb fl pl lb) := hD
  refine lv_aload_n hx hb dX2_take_16 rfl (lv_at hl 0 rfl) ?_
  refine j_iconst hx hb dX2_take_17 ?_
  refine va_put (D := D) (ci := 2) (v := .int (jI 0)) (ty := .int) (C := RX2) (T := TX2) (N := 8) hx hb hts hinX2 tyX2 tyX2_ok nmX2 hown hK hP hD hS 10 rfl rfl 2 (by decide) (hts (.fieldLink RX2 19 "BreakLines$Setting" "lines" "I") (by decide +kernel)) (fun _ h9 => h9) rfl (by decide +kernel) rfl rfl (Nat.le_of_ble_eq_true rfl) dX2_take_18 (fun H locs hP hD hS => ?_)
  have hP : va_P D vwCl (wPc q cI (sNb σ) (sWd σ) (sPp σ) (sCt σ) (sCs σ) mk la wa ++ wSe q cJ lp tp rk od fr fo ++ wSt q cI (fr ≠ 9223372036854775807) (if fr = 9223372036854775807 then -1 else fr / 1024) 0 pg fb fl pl lb) H := hP
  have hD : va_D A (wPc q cI (sNb σ) (sWd σ) (sPp σ) (sCt σ) (sCs σ) mk la wa ++ wSe q cJ lp tp rk od fr fo ++ wSt q cI (fr ≠ 9223372036854775807) (if fr = 9223372036854775807 then -1 else fr / 1024) 0 pg fb fl pl lb) := hD
  refine lv_aload_n hx hb dX2_take_21 rfl (lv_at hl 0 rfl) ?_
  refine j_iconst hx hb dX2_take_22 ?_
  refine va_put (D := D) (ci := 2) (v := .int (jI 0)) (ty := .int) (C := RX2) (T := TX2) (N := 8) hx hb hts hinX2 tyX2 tyX2_ok nmX2 hown hK hP hD hS 10 rfl rfl 3 (by decide) (hts (.fieldLink RX2 23 "BreakLines$Setting" "pages" "I") (by decide +kernel)) (fun _ h9 => h9) rfl (by decide +kernel) rfl rfl (Nat.le_of_ble_eq_true rfl) dX2_take_23 (fun H locs hP hD hS => ?_)
  have hP : va_P D vwCl (wPc q cI (sNb σ) (sWd σ) (sPp σ) (sCt σ) (sCs σ) mk la wa ++ wSe q cJ lp tp rk od fr fo ++ wSt q cI (fr ≠ 9223372036854775807) (if fr = 9223372036854775807 then -1 else fr / 1024) 0 0 fb fl pl lb) H := hP
  have hD : va_D A (wPc q cI (sNb σ) (sWd σ) (sPp σ) (sCt σ) (sCs σ) mk la wa ++ wSe q cJ lp tp rk od fr fo ++ wSt q cI (fr ≠ 9223372036854775807) (if fr = 9223372036854775807 then -1 else fr / 1024) 0 0 fb fl pl lb) := hD
  refine lv_aload_n hx hb dX2_take_26 rfl (lv_at hl 0 rfl) ?_
  refine va_get (D := D) (ci := 2) (v := .int (jZ (fr ≠ 9223372036854775807))) (C := RX2) (T := TX2) (N := 8) hx hb hts hinX2 hown hK hP 10 rfl rfl 0 (by decide) (hts (.fieldLink RX2 9 "BreakLines$Setting" "exists" "Z") (by decide +kernel)) (fun _ h9 => h9) rfl dX2_take_27 ?_
  refine j_ifneZ (tgt := 34) hx hb dX2_take_30 (by decide) (fun c30 => ?_) (fun c30 => ?_)
  · skip
    refine j_iconst hx hb dX2_take_34 ?_
    refine lv_istore_n (lv' := [(3, .int (jI 0)), (0, .ref (q 10)), (1, .ref (q 5)), (2, .int (jI (sNb σ)))]) hx hb dX2_take_35 rfl hl (by decide) rfl (fun ls hl => ?_)
    refine j_loop (α := Int × Int × Int × (Int → Int) × (Int → Int) × (Int → Int) × (Int → Int) × Array Slot × Heap × List Loc) (h := fun z => match z with | (i, ln0, pg0, fb0, fl0, pl0, lb0, ls, H, locs) => H) (lc := fun z => match z with | (i, ln0, pg0, fb0, fl0, pl0, lb0, ls, H, locs) => locs) (f := fun z => match z with | (i, ln0, pg0, fb0, fl0, pl0, lb0, ls, H, locs) => F0 m 36 ls []) (P := fun nn z => match z with | (i, ln0, pg0, fb0, fl0, pl0, lb0, ls, H, locs) => ((0 ≤ i ∧ i ≤ sNb σ) ∧ setOK (fun b => fo / leB b % 2 = 1) (fun b => fo / peB b % 2 = 1) i ln0 pg0 fb0 fl0 pl0 lb0) ∧ (sNb σ - i).toNat < nn ∧ lv_has ls 4 [(0, .ref (q 10)), (1, .ref (q 5)), (2, .int (jI (sNb σ))), (3, .int (jI i))] ∧ va_P D vwCl (wPc q cI (sNb σ) (sWd σ) (sPp σ) (sCt σ) (sCs σ) mk la wa ++ wSe q cJ lp tp rk od fr fo ++ wSt q cI (fr ≠ 9223372036854775807) (if fr = 9223372036854775807 then -1 else fr / 1024) ln0 pg0 fb0 fl0 pl0 lb0) H ∧ va_D A (wPc q cI (sNb σ) (sWd σ) (sPp σ) (sCt σ) (sCs σ) mk la wa ++ wSe q cJ lp tp rk od fr fo ++ wSt q cI (fr ≠ 9223372036854775807) (if fr = 9223372036854775807 then -1 else fr / 1024) ln0 pg0 fb0 fl0 pl0 lb0) ∧ va_S A s.heap H locs) (fun z hz => ?_) ?_ ((sNb σ - 0).toNat + 1) (0, 0, 0, fb, fl, pl, lb, ls, H, locs) ⟨⟨by omega, setOK_0 h0.1 h0.2⟩, Nat.lt_succ_self _, lv_sub hl [1, 2, 3, 0] rfl, hP, hD, hS⟩
    · obtain ⟨i, ln0, pg0, fb0, fl0, pl0, lb0, ls, H, locs⟩ := z; exact absurd hz.2.1 (Nat.not_lt_zero _)
    intro n36 ih36 ⟨i, ln0, pg0, fb0, fl0, pl0, lb0, ls, H, locs⟩ ⟨hi36, hm36, hl, hP, hD, hS⟩
    have hl : lv_has ls 4 [(0, .ref (q 10)), (1, .ref (q 5)), (2, .int (jI (sNb σ))), (3, .int (jI i))] := hl
    have hP : va_P D vwCl (wPc q cI (sNb σ) (sWd σ) (sPp σ) (sCt σ) (sCs σ) mk la wa ++ wSe q cJ lp tp rk od fr fo ++ wSt q cI (fr ≠ 9223372036854775807) (if fr = 9223372036854775807 then -1 else fr / 1024) ln0 pg0 fb0 fl0 pl0 lb0) H := hP
    have hD : va_D A (wPc q cI (sNb σ) (sWd σ) (sPp σ) (sCt σ) (sCs σ) mk la wa ++ wSe q cJ lp tp rk od fr fo ++ wSt q cI (fr ≠ 9223372036854775807) (if fr = 9223372036854775807 then -1 else fr / 1024) ln0 pg0 fb0 fl0 pl0 lb0) := hD
    have hS : va_S A s.heap H locs := hS
    show W p l e _ s m _ below meth c H locs _ _ _ (F0 m 36 ls [])
    obtain ⟨hi1, hi2⟩ := hi36
    have hl1 := hi2.1
    have hp1 := hi2.2.1
    have hl2 := cntB (fun b => fo / leB b % 2 = 1) hi1.1
    have hp2 := cntB (fun b => fo / peB b % 2 = 1) hi1.1
    have hco : 0 ≤ fo ∧ fo ≤ 9007199254740992 := by omega
    refine lv_iload_n hx hb dX2_take_36 rfl (lv_at hl 3 rfl) ?_
    refine lv_iload_n hx hb dX2_take_37 rfl (lv_at hl 2 rfl) ?_
    refine j_icmp_ge (tgt := 131) hx hb (by unfold i32; omega) dX2_take_38 (by decide) (fun c38 => ?_) (fun c38 => ?_)
    · skip
      exact j_mretV hx hb hr hlocks hS dX2_take_131 (ln0, pg0, fb0, fl0, pl0, lb0) ⟨⟨hi2.2.2.1, hi2.2.2.2.1⟩, fun _ => by rw [show sNb σ = i by omega]; exact hi2⟩ hP
    · skip
      refine lv_aload_n hx hb dX2_take_41 rfl (lv_at hl 0 rfl) ?_
      refine va_get (D := D) (ci := 2) (v := .ref (q 14)) (C := RX2) (T := TX2) (N := 8) hx hb hts hinX2 hown hK hP 10 rfl rfl 7 (by decide) (hts (.fieldLink RX2 36 "BreakLines$Setting" "lineOfBar" "[I") (by decide +kernel)) (fun _ h9 => h9) rfl dX2_take_42 ?_
      refine lv_iload_n hx hb dX2_take_45 rfl (lv_at hl 3 rfl) ?_
      refine lv_aload_n hx hb dX2_take_46 rfl (lv_at hl 0 rfl) ?_
      refine va_get (D := D) (ci := 2) (v := .int (jI ln0)) (C := RX2) (T := TX2) (N := 8) hx hb hts hinX2 hown hK hP 10 rfl rfl 2 (by decide) (hts (.fieldLink RX2 19 "BreakLines$Setting" "lines" "I") (by decide +kernel)) (fun _ h9 => h9) rfl dX2_take_47 ?_
      refine j_iast hx hb hK hP hD hS 14 0 rfl rfl (i := i) (by omega) (by decide) dX2_take_50 (fun H locs hP hD hS => ?_)
      have hP : va_P D vwCl (wPc q cI (sNb σ) (sWd σ) (sPp σ) (sCt σ) (sCs σ) mk la wa ++ wSe q cJ lp tp rk od fr fo ++ wSt q cI (fr ≠ 9223372036854775807) (if fr = 9223372036854775807 then -1 else fr / 1024) ln0 pg0 fb0 fl0 pl0 (updI lb0 i ln0)) H := hP
      have hD : va_D A (wPc q cI (sNb σ) (sWd σ) (sPp σ) (sCt σ) (sCs σ) mk la wa ++ wSe q cJ lp tp rk od fr fo ++ wSt q cI (fr ≠ 9223372036854775807) (if fr = 9223372036854775807 then -1 else fr / 1024) ln0 pg0 fb0 fl0 pl0 (updI lb0 i ln0)) := hD
      refine lv_aload_n hx hb dX2_take_51 rfl (lv_at hl 1 rfl) ?_
      refine lv_iload_n hx hb dX2_take_52 rfl (lv_at hl 3 rfl) ?_
      refine j_cVI (As := [.int (jI i)]) (rest := []) ⟨hx, hb, hml, hown, hts⟩ (kX1_lineEndsAt l D cI cJ cZ q σ la wa mk hok lp tp rk od fr fo i (by omega)) (cwV 1 hts gX2_take_X1_lineEndsAt rfl rfl rfl (by decide +kernel) ⟨Nat.le_of_ble_eq_true rfl, Nat.le_of_ble_eq_true rfl⟩) hK (hP.sub [0, 1, 2, 3, 4, 5, 6, 7, 8, 9] rfl) (va_recv hK hP (ci := 1) (q0 := 5) rfl rfl) rfl hl.1 rfl (Nat.le_of_ble_eq_true rfl) ⟨Nat.zero_le _, Nat.zero_le _⟩ dX2_take_53 ?_
      refine j_ifeqZ (tgt := 94) hx hb dX2_take_56 (by decide) (fun c56 => ?_) (fun c56 => ?_)
      · skip
        refine lv_aload_n hx hb dX2_take_94 rfl (lv_at hl 1 rfl) ?_
        refine lv_iload_n hx hb dX2_take_95 rfl (lv_at hl 3 rfl) ?_
        refine j_cVI (As := [.int (jI i)]) (rest := []) ⟨hx, hb, hml, hown, hts⟩ (kX1_pageEndsAt l D cI cJ cZ q σ la wa mk hok lp tp rk od fr fo i (by omega)) (cwV 1 hts gX2_take_X1_pageEndsAt rfl rfl rfl (by decide +kernel) ⟨Nat.le_of_ble_eq_true rfl, Nat.le_of_ble_eq_true rfl⟩) hK (hP.sub [0, 1, 2, 3, 4, 5, 6, 7, 8, 9] rfl) (va_recv hK hP (ci := 1) (q0 := 5) rfl rfl) rfl hl.1 rfl (Nat.le_of_ble_eq_true rfl) ⟨Nat.zero_le _, Nat.zero_le _⟩ dX2_take_96 ?_
        refine j_ifeqZ (tgt := 125) hx hb dX2_take_99 (by decide) (fun c99 => ?_) (fun c99 => ?_)
        · skip
          refine lv_iinc (v := jI (i + 1)) (lv' := [(3, .int (jI (i + 1))), (0, .ref (q 10)), (1, .ref (q 5)), (2, .int (jI (sNb σ)))]) hx hb dX2_take_125 hl (k := 3) rfl (jI_add _ _) (by decide) rfl (fun ls hl => ?_)
          refine lv_goto (tgt := 36) hx hb dX2_take_128 (by decide) ?_
          exact ih36 (i + 1, ln0, pg0, fb0, fl0, pl0, updI lb0 i ln0, ls, H, locs) ⟨⟨by omega, setOK_ff hi2 (by omega) c56 c99⟩, by omega, lv_sub hl [1, 2, 3, 0] rfl, hP, hD, hS⟩
        · skip
          refine lv_aload_n hx hb dX2_take_102 rfl (lv_at hl 0 rfl) ?_
          refine lv_dup hx hb dX2_take_103 rfl ?_
          refine va_get (D := D) (ci := 2) (v := .int (jI pg0)) (C := RX2) (T := TX2) (N := 8) hx hb hts hinX2 hown hK hP 10 rfl rfl 3 (by decide) (hts (.fieldLink RX2 23 "BreakLines$Setting" "pages" "I") (by decide +kernel)) (fun _ h9 => h9) rfl dX2_take_104 ?_
          refine j_iconst hx hb dX2_take_107 ?_
          refine j_iadd hx hb dX2_take_108 ?_
          refine va_put (D := D) (ci := 2) (v := .int (jI (pg0 + 1))) (ty := .int) (C := RX2) (T := TX2) (N := 8) hx hb hts hinX2 tyX2 tyX2_ok nmX2 hown hK hP hD hS 10 rfl rfl 3 (by decide) (hts (.fieldLink RX2 23 "BreakLines$Setting" "pages" "I") (by decide +kernel)) (fun _ h9 => h9) rfl (by decide +kernel) rfl rfl (Nat.le_of_ble_eq_true rfl) dX2_take_109 (fun H locs hP hD hS => ?_)
          have hP : va_P D vwCl (wPc q cI (sNb σ) (sWd σ) (sPp σ) (sCt σ) (sCs σ) mk la wa ++ wSe q cJ lp tp rk od fr fo ++ wSt q cI (fr ≠ 9223372036854775807) (if fr = 9223372036854775807 then -1 else fr / 1024) ln0 (pg0 + 1) fb0 fl0 pl0 (updI lb0 i ln0)) H := hP
          have hD : va_D A (wPc q cI (sNb σ) (sWd σ) (sPp σ) (sCt σ) (sCs σ) mk la wa ++ wSe q cJ lp tp rk od fr fo ++ wSt q cI (fr ≠ 9223372036854775807) (if fr = 9223372036854775807 then -1 else fr / 1024) ln0 (pg0 + 1) fb0 fl0 pl0 (updI lb0 i ln0)) := hD
          refine lv_aload_n hx hb dX2_take_112 rfl (lv_at hl 0 rfl) ?_
          refine va_get (D := D) (ci := 2) (v := .ref (q 12)) (C := RX2) (T := TX2) (N := 8) hx hb hts hinX2 hown hK hP 10 rfl rfl 5 (by decide) (hts (.fieldLink RX2 30 "BreakLines$Setting" "firstLine" "[I") (by decide +kernel)) (fun _ h9 => h9) rfl dX2_take_113 ?_
          refine lv_aload_n hx hb dX2_take_116 rfl (lv_at hl 0 rfl) ?_
          refine va_get (D := D) (ci := 2) (v := .int (jI (pg0 + 1))) (C := RX2) (T := TX2) (N := 8) hx hb hts hinX2 hown hK hP 10 rfl rfl 3 (by decide) (hts (.fieldLink RX2 23 "BreakLines$Setting" "pages" "I") (by decide +kernel)) (fun _ h9 => h9) rfl dX2_take_117 ?_
          refine lv_aload_n hx hb dX2_take_120 rfl (lv_at hl 0 rfl) ?_
          refine va_get (D := D) (ci := 2) (v := .int (jI ln0)) (C := RX2) (T := TX2) (N := 8) hx hb hts hinX2 hown hK hP 10 rfl rfl 2 (by decide) (hts (.fieldLink RX2 19 "BreakLines$Setting" "lines" "I") (by decide +kernel)) (fun _ h9 => h9) rfl dX2_take_121 ?_
          refine j_iast hx hb hK hP hD hS 12 0 rfl rfl (i := pg0 + 1) (by omega) (by decide) dX2_take_124 (fun H locs hP hD hS => ?_)
          have hP : va_P D vwCl (wPc q cI (sNb σ) (sWd σ) (sPp σ) (sCt σ) (sCs σ) mk la wa ++ wSe q cJ lp tp rk od fr fo ++ wSt q cI (fr ≠ 9223372036854775807) (if fr = 9223372036854775807 then -1 else fr / 1024) ln0 (pg0 + 1) fb0 (updI fl0 (pg0 + 1) ln0) pl0 (updI lb0 i ln0)) H := hP
          have hD : va_D A (wPc q cI (sNb σ) (sWd σ) (sPp σ) (sCt σ) (sCs σ) mk la wa ++ wSe q cJ lp tp rk od fr fo ++ wSt q cI (fr ≠ 9223372036854775807) (if fr = 9223372036854775807 then -1 else fr / 1024) ln0 (pg0 + 1) fb0 (updI fl0 (pg0 + 1) ln0) pl0 (updI lb0 i ln0)) := hD
          refine lv_iinc (v := jI (i + 1)) (lv' := [(3, .int (jI (i + 1))), (0, .ref (q 10)), (1, .ref (q 5)), (2, .int (jI (sNb σ)))]) hx hb dX2_take_125 hl (k := 3) rfl (jI_add _ _) (by decide) rfl (fun ls hl => ?_)
          refine lv_goto (tgt := 36) hx hb dX2_take_128 (by decide) ?_
          exact ih36 (i + 1, ln0, pg0 + 1, fb0, updI fl0 (pg0 + 1) ln0, pl0, updI lb0 i ln0, ls, H, locs) ⟨⟨by omega, setOK_ft hi2 (by omega) c56 c99⟩, by omega, lv_sub hl [1, 2, 3, 0] rfl, hP, hD, hS⟩
      · skip
        refine lv_aload_n hx hb dX2_take_59 rfl (lv_at hl 0 rfl) ?_
        refine va_get (D := D) (ci := 2) (v := .ref (q 13)) (C := RX2) (T := TX2) (N := 8) hx hb hts hinX2 hown hK hP 10 rfl rfl 6 (by decide) (hts (.fieldLink RX2 33 "BreakLines$Setting" "pageOfLine" "[I") (by decide +kernel)) (fun _ h9 => h9) rfl dX2_take_60 ?_
        refine lv_aload_n hx hb dX2_take_63 rfl (lv_at hl 0 rfl) ?_
        refine va_get (D := D) (ci := 2) (v := .int (jI ln0)) (C := RX2) (T := TX2) (N := 8) hx hb hts hinX2 hown hK hP 10 rfl rfl 2 (by decide) (hts (.fieldLink RX2 19 "BreakLines$Setting" "lines" "I") (by decide +kernel)) (fun _ h9 => h9) rfl dX2_take_64 ?_
        refine lv_aload_n hx hb dX2_take_67 rfl (lv_at hl 0 rfl) ?_
        refine va_get (D := D) (ci := 2) (v := .int (jI pg0)) (C := RX2) (T := TX2) (N := 8) hx hb hts hinX2 hown hK hP 10 rfl rfl 3 (by decide) (hts (.fieldLink RX2 23 "BreakLines$Setting" "pages" "I") (by decide +kernel)) (fun _ h9 => h9) rfl dX2_take_68 ?_
        refine j_iast hx hb hK hP hD hS 13 0 rfl rfl (i := ln0) (by omega) (by decide) dX2_take_71 (fun H locs hP hD hS => ?_)
        have hP : va_P D vwCl (wPc q cI (sNb σ) (sWd σ) (sPp σ) (sCt σ) (sCs σ) mk la wa ++ wSe q cJ lp tp rk od fr fo ++ wSt q cI (fr ≠ 9223372036854775807) (if fr = 9223372036854775807 then -1 else fr / 1024) ln0 pg0 fb0 fl0 (updI pl0 ln0 pg0) (updI lb0 i ln0)) H := hP
        have hD : va_D A (wPc q cI (sNb σ) (sWd σ) (sPp σ) (sCt σ) (sCs σ) mk la wa ++ wSe q cJ lp tp rk od fr fo ++ wSt q cI (fr ≠ 9223372036854775807) (if fr = 9223372036854775807 then -1 else fr / 1024) ln0 pg0 fb0 fl0 (updI pl0 ln0 pg0) (updI lb0 i ln0)) := hD
        refine lv_aload_n hx hb dX2_take_72 rfl (lv_at hl 0 rfl) ?_
        refine lv_dup hx hb dX2_take_73 rfl ?_
        refine va_get (D := D) (ci := 2) (v := .int (jI ln0)) (C := RX2) (T := TX2) (N := 8) hx hb hts hinX2 hown hK hP 10 rfl rfl 2 (by decide) (hts (.fieldLink RX2 19 "BreakLines$Setting" "lines" "I") (by decide +kernel)) (fun _ h9 => h9) rfl dX2_take_74 ?_
        refine j_iconst hx hb dX2_take_77 ?_
        refine j_iadd hx hb dX2_take_78 ?_
        refine va_put (D := D) (ci := 2) (v := .int (jI (ln0 + 1))) (ty := .int) (C := RX2) (T := TX2) (N := 8) hx hb hts hinX2 tyX2 tyX2_ok nmX2 hown hK hP hD hS 10 rfl rfl 2 (by decide) (hts (.fieldLink RX2 19 "BreakLines$Setting" "lines" "I") (by decide +kernel)) (fun _ h9 => h9) rfl (by decide +kernel) rfl rfl (Nat.le_of_ble_eq_true rfl) dX2_take_79 (fun H locs hP hD hS => ?_)
        have hP : va_P D vwCl (wPc q cI (sNb σ) (sWd σ) (sPp σ) (sCt σ) (sCs σ) mk la wa ++ wSe q cJ lp tp rk od fr fo ++ wSt q cI (fr ≠ 9223372036854775807) (if fr = 9223372036854775807 then -1 else fr / 1024) (ln0 + 1) pg0 fb0 fl0 (updI pl0 ln0 pg0) (updI lb0 i ln0)) H := hP
        have hD : va_D A (wPc q cI (sNb σ) (sWd σ) (sPp σ) (sCt σ) (sCs σ) mk la wa ++ wSe q cJ lp tp rk od fr fo ++ wSt q cI (fr ≠ 9223372036854775807) (if fr = 9223372036854775807 then -1 else fr / 1024) (ln0 + 1) pg0 fb0 fl0 (updI pl0 ln0 pg0) (updI lb0 i ln0)) := hD
        refine lv_aload_n hx hb dX2_take_82 rfl (lv_at hl 0 rfl) ?_
        refine va_get (D := D) (ci := 2) (v := .ref (q 11)) (C := RX2) (T := TX2) (N := 8) hx hb hts hinX2 hown hK hP 10 rfl rfl 4 (by decide) (hts (.fieldLink RX2 26 "BreakLines$Setting" "firstBar" "[I") (by decide +kernel)) (fun _ h9 => h9) rfl dX2_take_83 ?_
        refine lv_aload_n hx hb dX2_take_86 rfl (lv_at hl 0 rfl) ?_
        refine va_get (D := D) (ci := 2) (v := .int (jI (ln0 + 1))) (C := RX2) (T := TX2) (N := 8) hx hb hts hinX2 hown hK hP 10 rfl rfl 2 (by decide) (hts (.fieldLink RX2 19 "BreakLines$Setting" "lines" "I") (by decide +kernel)) (fun _ h9 => h9) rfl dX2_take_87 ?_
        refine lv_iload_n hx hb dX2_take_90 rfl (lv_at hl 3 rfl) ?_
        refine j_iconst hx hb dX2_take_91 ?_
        refine j_iadd hx hb dX2_take_92 ?_
        refine j_iast hx hb hK hP hD hS 11 0 rfl rfl (i := ln0 + 1) (by omega) (by decide) dX2_take_93 (fun H locs hP hD hS => ?_)
        have hP : va_P D vwCl (wPc q cI (sNb σ) (sWd σ) (sPp σ) (sCt σ) (sCs σ) mk la wa ++ wSe q cJ lp tp rk od fr fo ++ wSt q cI (fr ≠ 9223372036854775807) (if fr = 9223372036854775807 then -1 else fr / 1024) (ln0 + 1) pg0 (updI fb0 (ln0 + 1) (i + 1)) fl0 (updI pl0 ln0 pg0) (updI lb0 i ln0)) H := hP
        have hD : va_D A (wPc q cI (sNb σ) (sWd σ) (sPp σ) (sCt σ) (sCs σ) mk la wa ++ wSe q cJ lp tp rk od fr fo ++ wSt q cI (fr ≠ 9223372036854775807) (if fr = 9223372036854775807 then -1 else fr / 1024) (ln0 + 1) pg0 (updI fb0 (ln0 + 1) (i + 1)) fl0 (updI pl0 ln0 pg0) (updI lb0 i ln0)) := hD
        refine lv_aload_n hx hb dX2_take_94 rfl (lv_at hl 1 rfl) ?_
        refine lv_iload_n hx hb dX2_take_95 rfl (lv_at hl 3 rfl) ?_
        refine j_cVI (As := [.int (jI i)]) (rest := []) ⟨hx, hb, hml, hown, hts⟩ (kX1_pageEndsAt l D cI cJ cZ q σ la wa mk hok lp tp rk od fr fo i (by omega)) (cwV 1 hts gX2_take_X1_pageEndsAt rfl rfl rfl (by decide +kernel) ⟨Nat.le_of_ble_eq_true rfl, Nat.le_of_ble_eq_true rfl⟩) hK (hP.sub [0, 1, 2, 3, 4, 5, 6, 7, 8, 9] rfl) (va_recv hK hP (ci := 1) (q0 := 5) rfl rfl) rfl hl.1 rfl (Nat.le_of_ble_eq_true rfl) ⟨Nat.zero_le _, Nat.zero_le _⟩ dX2_take_96 ?_
        refine j_ifeqZ (tgt := 125) hx hb dX2_take_99 (by decide) (fun c99 => ?_) (fun c99 => ?_)
        · skip
          refine lv_iinc (v := jI (i + 1)) (lv' := [(3, .int (jI (i + 1))), (0, .ref (q 10)), (1, .ref (q 5)), (2, .int (jI (sNb σ)))]) hx hb dX2_take_125 hl (k := 3) rfl (jI_add _ _) (by decide) rfl (fun ls hl => ?_)
          refine lv_goto (tgt := 36) hx hb dX2_take_128 (by decide) ?_
          exact ih36 (i + 1, ln0 + 1, pg0, updI fb0 (ln0 + 1) (i + 1), fl0, updI pl0 ln0 pg0, updI lb0 i ln0, ls, H, locs) ⟨⟨by omega, setOK_tf hi2 (by omega) c56 c99⟩, by omega, lv_sub hl [1, 2, 3, 0] rfl, hP, hD, hS⟩
        · skip
          refine lv_aload_n hx hb dX2_take_102 rfl (lv_at hl 0 rfl) ?_
          refine lv_dup hx hb dX2_take_103 rfl ?_
          refine va_get (D := D) (ci := 2) (v := .int (jI pg0)) (C := RX2) (T := TX2) (N := 8) hx hb hts hinX2 hown hK hP 10 rfl rfl 3 (by decide) (hts (.fieldLink RX2 23 "BreakLines$Setting" "pages" "I") (by decide +kernel)) (fun _ h9 => h9) rfl dX2_take_104 ?_
          refine j_iconst hx hb dX2_take_107 ?_
          refine j_iadd hx hb dX2_take_108 ?_
          refine va_put (D := D) (ci := 2) (v := .int (jI (pg0 + 1))) (ty := .int) (C := RX2) (T := TX2) (N := 8) hx hb hts hinX2 tyX2 tyX2_ok nmX2 hown hK hP hD hS 10 rfl rfl 3 (by decide) (hts (.fieldLink RX2 23 "BreakLines$Setting" "pages" "I") (by decide +kernel)) (fun _ h9 => h9) rfl (by decide +kernel) rfl rfl (Nat.le_of_ble_eq_true rfl) dX2_take_109 (fun H locs hP hD hS => ?_)
          have hP : va_P D vwCl (wPc q cI (sNb σ) (sWd σ) (sPp σ) (sCt σ) (sCs σ) mk la wa ++ wSe q cJ lp tp rk od fr fo ++ wSt q cI (fr ≠ 9223372036854775807) (if fr = 9223372036854775807 then -1 else fr / 1024) (ln0 + 1) (pg0 + 1) (updI fb0 (ln0 + 1) (i + 1)) fl0 (updI pl0 ln0 pg0) (updI lb0 i ln0)) H := hP
          have hD : va_D A (wPc q cI (sNb σ) (sWd σ) (sPp σ) (sCt σ) (sCs σ) mk la wa ++ wSe q cJ lp tp rk od fr fo ++ wSt q cI (fr ≠ 9223372036854775807) (if fr = 9223372036854775807 then -1 else fr / 1024) (ln0 + 1) (pg0 + 1) (updI fb0 (ln0 + 1) (i + 1)) fl0 (updI pl0 ln0 pg0) (updI lb0 i ln0)) := hD
          refine lv_aload_n hx hb dX2_take_112 rfl (lv_at hl 0 rfl) ?_
          refine va_get (D := D) (ci := 2) (v := .ref (q 12)) (C := RX2) (T := TX2) (N := 8) hx hb hts hinX2 hown hK hP 10 rfl rfl 5 (by decide) (hts (.fieldLink RX2 30 "BreakLines$Setting" "firstLine" "[I") (by decide +kernel)) (fun _ h9 => h9) rfl dX2_take_113 ?_
          refine lv_aload_n hx hb dX2_take_116 rfl (lv_at hl 0 rfl) ?_
          refine va_get (D := D) (ci := 2) (v := .int (jI (pg0 + 1))) (C := RX2) (T := TX2) (N := 8) hx hb hts hinX2 hown hK hP 10 rfl rfl 3 (by decide) (hts (.fieldLink RX2 23 "BreakLines$Setting" "pages" "I") (by decide +kernel)) (fun _ h9 => h9) rfl dX2_take_117 ?_
          refine lv_aload_n hx hb dX2_take_120 rfl (lv_at hl 0 rfl) ?_
          refine va_get (D := D) (ci := 2) (v := .int (jI (ln0 + 1))) (C := RX2) (T := TX2) (N := 8) hx hb hts hinX2 hown hK hP 10 rfl rfl 2 (by decide) (hts (.fieldLink RX2 19 "BreakLines$Setting" "lines" "I") (by decide +kernel)) (fun _ h9 => h9) rfl dX2_take_121 ?_
          refine j_iast hx hb hK hP hD hS 12 0 rfl rfl (i := pg0 + 1) (by omega) (by decide) dX2_take_124 (fun H locs hP hD hS => ?_)
          have hP : va_P D vwCl (wPc q cI (sNb σ) (sWd σ) (sPp σ) (sCt σ) (sCs σ) mk la wa ++ wSe q cJ lp tp rk od fr fo ++ wSt q cI (fr ≠ 9223372036854775807) (if fr = 9223372036854775807 then -1 else fr / 1024) (ln0 + 1) (pg0 + 1) (updI fb0 (ln0 + 1) (i + 1)) (updI fl0 (pg0 + 1) (ln0 + 1)) (updI pl0 ln0 pg0) (updI lb0 i ln0)) H := hP
          have hD : va_D A (wPc q cI (sNb σ) (sWd σ) (sPp σ) (sCt σ) (sCs σ) mk la wa ++ wSe q cJ lp tp rk od fr fo ++ wSt q cI (fr ≠ 9223372036854775807) (if fr = 9223372036854775807 then -1 else fr / 1024) (ln0 + 1) (pg0 + 1) (updI fb0 (ln0 + 1) (i + 1)) (updI fl0 (pg0 + 1) (ln0 + 1)) (updI pl0 ln0 pg0) (updI lb0 i ln0)) := hD
          refine lv_iinc (v := jI (i + 1)) (lv' := [(3, .int (jI (i + 1))), (0, .ref (q 10)), (1, .ref (q 5)), (2, .int (jI (sNb σ)))]) hx hb dX2_take_125 hl (k := 3) rfl (jI_add _ _) (by decide) rfl (fun ls hl => ?_)
          refine lv_goto (tgt := 36) hx hb dX2_take_128 (by decide) ?_
          exact ih36 (i + 1, ln0 + 1, pg0 + 1, updI fb0 (ln0 + 1) (i + 1), updI fl0 (pg0 + 1) (ln0 + 1), updI pl0 ln0 pg0, updI lb0 i ln0, ls, H, locs) ⟨⟨by omega, setOK_tt hi2 (by omega) c56 c99⟩, by omega, lv_sub hl [1, 2, 3, 0] rfl, hP, hD, hS⟩
  · skip
    exact j_mretV hx hb hr hlocks hS dX2_take_33 (0, 0, fb, fl, pl, lb) ⟨h0, fun w => absurd w c30⟩ hP
end
end
section
/-! what the first object keeps -/
noncomputable section
def bstOK (σ : Sg) (ex : Prop) (to ln pg : Int) (fb fl pl lb : Int → Int) : Prop := ∃ R Z, Bst (Cmp σ (Tc σ) 0 0) R Z ∧ (ex ↔ R ≠ 9223372036854775807) ∧ to = (if R = 9223372036854775807 then -1 else R / 1024) ∧ (R ≠ 9223372036854775807 → setOK (fun b => Z / leB b % 2 = 1) (fun b => Z / peB b % 2 = 1) (sNb σ) ln pg fb fl pl lb)
def clsI (σ : Sg) (kn ex : Prop) (to ln pg : Int) (fb fl pl lb : Int → Int) : Prop := (fb 0 = 0 ∧ fl 0 = 0) ∧ (kn → bstOK σ ex to ln pg fb fl pl lb)
def iteP (P : Prop) (a b : Int) : Int := @ite _ P (Classical.propDecidable P) a b
theorem iteP_t {P : Prop} (h : P) (a b : Int) : iteP P a b = a := if_pos h
theorem iteP_f {P : Prop} (h : ¬ P) (a b : Int) : iteP P a b = b := if_neg h
theorem setOK_ln {LE PE : Int → Prop} {n ln pg : Int} {fb fl pl lb : Int → Int} (h : setOK LE PE n ln pg fb fl pl lb) (hn : 0 ≤ n) : (0 ≤ ln ∧ ln ≤ n) ∧ (0 ≤ pg ∧ pg ≤ n) := by
  have h1 := cntB LE hn
  have h2 := cntB PE hn
  rw [h.1, h.2.1]
  exact ⟨h1, h2⟩
end
end
section
/-! the contracts of BreakLines, its inner ones -/
noncomputable section
set_option maxHeartbeats 4000000 in
set_option maxRecDepth 100000 in
theorem kX3_findBest (l : Launch) (D : va_G) (cI cJ cZ : ClassId) (q : Nat → Nat) (σ : Sg) (la wa : Int → Int) (mk : Nat → Int32) (hok : okP σ la wa mk) (lp tp rk od : Int → Int) (fr fo : Int) (ex : Prop) (to ln pg : Int) (fb fl pl lb : Int → Int) (kn : Prop) (hI : clsI σ kn ex to ln pg fb fl pl lb) : MuV l yX3_findBest wsX3_findBest 5 135 D (tyc cI cJ cZ) (wPc q cI (sNb σ) (sWd σ) (sPp σ) (sCt σ) (sCs σ) mk la wa ++ wSe q cJ lp tp rk od fr fo ++ wSt q cI ex to ln pg fb fl pl lb ++ wBl q kn) [.ref (q 15)] (fun (u : (Int → Int) × (Int → Int) × (Int → Int) × (Int → Int) × Int × Int × Prop × Int × Int × Int × (Int → Int) × (Int → Int) × (Int → Int) × (Int → Int) × Prop) => u.2.2.2.2.2.2.2.2.2.2.2.2.2.2 ∧ clsI σ u.2.2.2.2.2.2.2.2.2.2.2.2.2.2 u.2.2.2.2.2.2.1 u.2.2.2.2.2.2.2.1 u.2.2.2.2.2.2.2.2.1 u.2.2.2.2.2.2.2.2.2.1 u.2.2.2.2.2.2.2.2.2.2.1 u.2.2.2.2.2.2.2.2.2.2.2.1 u.2.2.2.2.2.2.2.2.2.2.2.2.1 u.2.2.2.2.2.2.2.2.2.2.2.2.2.1) (fun u => wPc q cI (sNb σ) (sWd σ) (sPp σ) (sCt σ) (sCs σ) mk la wa ++ wSe q cJ u.1 u.2.1 u.2.2.1 u.2.2.2.1 u.2.2.2.2.1 u.2.2.2.2.2.1 ++ wSt q cI u.2.2.2.2.2.2.1 u.2.2.2.2.2.2.2.1 u.2.2.2.2.2.2.2.2.1 u.2.2.2.2.2.2.2.2.2.1 u.2.2.2.2.2.2.2.2.2.2.1 u.2.2.2.2.2.2.2.2.2.2.2.1 u.2.2.2.2.2.2.2.2.2.2.2.2.1 u.2.2.2.2.2.2.2.2.2.2.2.2.2.1 ++ wBl q u.2.2.2.2.2.2.2.2.2.2.2.2.2.2) := by
  intro sz
  refine j_start RX3 rfl (by decide) rfl (Nat.le_of_ble_eq_true rfl) ?_
  intro p e s m below meth c ls hx hb hr hlocks hml hown hts hnm hl ⟨hsz, hP, hK, hD0⟩
  subst hsz
  have hD := hD0.self (sz := s.heap.size)
  generalize hAe : va_A (wPc q cI (sNb σ) (sWd σ) (sPp σ) (sCt σ) (sCs σ) mk la wa ++ wSe q cJ lp tp rk od fr fo ++ wSt q cI ex to ln pg fb fl pl lb ++ wBl q kn) s.heap.size = A at hD ⊢
  have hA : ∀ q : Nat, s.heap.size ≤ q → A q := fun q h => by rw [← hAe]; exact Or.inr h
  refine j_gen (fun H locs hHe hLe => ?_)
  have hS : va_S A s.heap H locs := by rw [hHe, hLe]; exact va_S.rf
  have hP : va_P D vwCl (wPc q cI (sNb σ) (sWd σ) (sPp σ) (sCt σ) (sCs σ) mk la wa ++ wSe q cJ lp tp rk od fr fo ++ wSt q cI ex to ln pg fb fl pl lb ++ wBl q kn) H := by rw [hHe]; exact hP
  have hD : va_D A (wPc q cI (sNb σ) (sWd σ) (sPp σ) (sCt σ) (sCs σ) mk la wa ++ wSe q cJ lp tp rk od fr fo ++ wSt q cI ex to ln pg fb fl pl lb ++ wBl q kn) := hD
  have hl : lv_has ls 1 [(0, .ref (q 15))] := hl
  have hinX0 : ∀ w ∈ u_ws RX0 TX0 8, w ∈ wsX3_findBest := by decide +kernel
  have hinX3 : ∀ w ∈ u_ws RX3 TX3 4, w ∈ wsX3_findBest := by decide +kernel
  have hS0 := hok.1
  have hnb := hS0.1
  have hwd := hS0.2.1
  have hpp := hS0.2.2.1
  refine lv_aload_n hx hb dX3_findBest_0 rfl (lv_at hl 0 rfl) ?_
  refine va_get (D := D) (ci := 3) (v := .int (jZ kn)) (C := RX3) (T := TX3) (N := 4) hx hb hts hinX3 hown hK hP 15 rfl rfl 3 (by decide) (hts (.fieldLink RX3 38 "BreakLines" "bestIsKnown" "Z") (by decide +kernel)) (fun _ h9 => h9) rfl dX3_findBest_1 ?_
  refine j_ifeqZ (tgt := 8) hx hb dX3_findBest_4 (by decide) (fun c4 => ?_) (fun c4 => ?_)
  · skip
    refine lv_aload_n hx hb dX3_findBest_8 rfl (lv_at hl 0 rfl) ?_
    refine va_get (D := D) (ci := 3) (v := .ref (q 5)) (C := RX3) (T := TX3) (N := 4) hx hb hts hinX3 hown hK hP 15 rfl rfl 1 (by decide) (hts (.fieldLink RX3 27 "BreakLines" "search" "LBreakLines$Search;") (by decide +kernel)) (fun _ h9 => h9) rfl dX3_findBest_9 ?_
    refine j_mVV (As := []) (rest := []) ⟨hx, hb, hml, hown, hts⟩ (kX1_run l D cI cJ cZ q σ la wa mk hok lp tp rk od fr fo) (cwV 0 hts gX3_findBest_X1_run rfl rfl rfl (by decide +kernel) ⟨Nat.le_of_ble_eq_true rfl, Nat.le_of_ble_eq_true rfl⟩) hK hP hD hS hA (va_recv hK hP (ci := 1) (q0 := 5) rfl rfl) rfl hl.1 rfl (Nat.le_of_ble_eq_true rfl) ⟨Nat.zero_le _, Nat.zero_le _⟩ dX3_findBest_12 [0, 1, 2, 3, 4, 5, 6, 7, 8, 9] [10, 11, 12, 13, 14, 15] [6, 7, 8, 9, 10, 11, 12, 13, 14, 15, 0, 1, 2, 3, 4, 5] rfl (by decide) (wr := (wSt q cI ex to ln pg fb fl pl lb ++ wBl q kn)) rfl (by decide) (by decide) (fun _ => rfl) (fun u => wPc q cI (sNb σ) (sWd σ) (sPp σ) (sCt σ) (sCs σ) mk la wa ++ wSe q cJ u.1 u.2.1 u.2.2.1 u.2.2.2.1 u.2.2.2.2.1 u.2.2.2.2.2 ++ wSt q cI ex to ln pg fb fl pl lb ++ wBl q kn) (fun _ => rfl) (fun _ => rfl) (fun ⟨lpc1, tpc1, rkc1, odc1, frc1, foc1⟩ H locs hu1 hP hD hS => ?_)
    have hP : va_P D vwCl (wPc q cI (sNb σ) (sWd σ) (sPp σ) (sCt σ) (sCs σ) mk la wa ++ wSe q cJ lpc1 tpc1 rkc1 odc1 frc1 foc1 ++ wSt q cI ex to ln pg fb fl pl lb ++ wBl q kn) H := hP
    have hD : va_D A (wPc q cI (sNb σ) (sWd σ) (sPp σ) (sCt σ) (sCs σ) mk la wa ++ wSe q cJ lpc1 tpc1 rkc1 odc1 frc1 foc1 ++ wSt q cI ex to ln pg fb fl pl lb ++ wBl q kn) := hD
    refine lv_aload_n hx hb dX3_findBest_15 rfl (lv_at hl 0 rfl) ?_
    refine va_get (D := D) (ci := 3) (v := .ref (q 10)) (C := RX3) (T := TX3) (N := 4) hx hb hts hinX3 hown hK hP 15 rfl rfl 2 (by decide) (hts (.fieldLink RX3 34 "BreakLines" "best" "LBreakLines$Setting;") (by decide +kernel)) (fun _ h9 => h9) rfl dX3_findBest_16 ?_
    refine lv_aload_n hx hb dX3_findBest_19 rfl (lv_at hl 0 rfl) ?_
    refine va_get (D := D) (ci := 3) (v := .ref (q 5)) (C := RX3) (T := TX3) (N := 4) hx hb hts hinX3 hown hK hP 15 rfl rfl 1 (by decide) (hts (.fieldLink RX3 27 "BreakLines" "search" "LBreakLines$Search;") (by decide +kernel)) (fun _ h9 => h9) rfl dX3_findBest_20 ?_
    refine lv_aload_n hx hb dX3_findBest_23 rfl (lv_at hl 0 rfl) ?_
    refine va_get (D := D) (ci := 3) (v := .ref (q 0)) (C := RX3) (T := TX3) (N := 4) hx hb hts hinX3 hown hK hP 15 rfl rfl 0 (by decide) (hts (.fieldLink RX3 18 "BreakLines" "piece" "LBreakLines$Piece;") (by decide +kernel)) (fun _ h9 => h9) rfl dX3_findBest_24 ?_
    refine va_get (D := D) (ci := 0) (v := .int (jI (sNb σ))) (C := RX0) (T := TX0) (N := 8) hx hb hts hinX0 hown hK hP 0 rfl rfl 0 (by decide) (hts (.fieldLink RX3 46 "BreakLines$Piece" "bars" "I") (by decide +kernel)) (fun _ h9 => h9) rfl dX3_findBest_27 ?_
    refine j_mVV (As := [.ref (q 5), .int (jI (sNb σ))]) (rest := []) ⟨hx, hb, hml, hown, hts⟩ (kX2_take l D cI cJ cZ q σ la wa mk hok lpc1 tpc1 rkc1 odc1 frc1 foc1 ex to ln pg fb fl pl lb (hu1.okC hS0 (by omega) (by omega) (by omega)) hI.1) (cwV 2 hts gX3_findBest_X2_take rfl rfl rfl (by decide +kernel) ⟨Nat.le_of_ble_eq_true rfl, Nat.le_of_ble_eq_true rfl⟩) hK hP hD hS hA (va_recv hK hP (ci := 2) (q0 := 10) rfl rfl) rfl hl.1 rfl (Nat.le_of_ble_eq_true rfl) ⟨Nat.zero_le _, Nat.zero_le _⟩ dX3_findBest_30 [0, 1, 2, 3, 4, 5, 6, 7, 8, 9, 10, 11, 12, 13, 14] [15] [1, 2, 3, 4, 5, 6, 7, 8, 9, 10, 11, 12, 13, 14, 15, 0] rfl (by decide) (wr := (wBl q kn)) rfl (by decide) (by decide) (fun _ => rfl) (fun u => wPc q cI (sNb σ) (sWd σ) (sPp σ) (sCt σ) (sCs σ) mk la wa ++ wSe q cJ lpc1 tpc1 rkc1 odc1 frc1 foc1 ++ wSt q cI (frc1 ≠ 9223372036854775807) (if frc1 = 9223372036854775807 then -1 else frc1 / 1024) u.1 u.2.1 u.2.2.1 u.2.2.2.1 u.2.2.2.2.1 u.2.2.2.2.2 ++ wBl q kn) (fun _ => rfl) (fun _ => rfl) (fun ⟨lnc2, pgc2, fbc2, flc2, plc2, lbc2⟩ H locs hu2 hP hD hS => ?_)
    have hP : va_P D vwCl (wPc q cI (sNb σ) (sWd σ) (sPp σ) (sCt σ) (sCs σ) mk la wa ++ wSe q cJ lpc1 tpc1 rkc1 odc1 frc1 foc1 ++ wSt q cI (frc1 ≠ 9223372036854775807) (if frc1 = 9223372036854775807 then -1 else frc1 / 1024) lnc2 pgc2 fbc2 flc2 plc2 lbc2 ++ wBl q kn) H := hP
    have hD : va_D A (wPc q cI (sNb σ) (sWd σ) (sPp σ) (sCt σ) (sCs σ) mk la wa ++ wSe q cJ lpc1 tpc1 rkc1 odc1 frc1 foc1 ++ wSt q cI (frc1 ≠ 9223372036854775807) (if frc1 = 9223372036854775807 then -1 else frc1 / 1024) lnc2 pgc2 fbc2 flc2 plc2 lbc2 ++ wBl q kn) := hD
    refine lv_aload_n hx hb dX3_findBest_33 rfl (lv_at hl 0 rfl) ?_
    refine j_iconst hx hb dX3_findBest_34 ?_
    refine j_topi (y := jZ True) ((jZ_t trivial).symm) ?_
    refine va_put (D := D) (ci := 3) (v := .int (jZ True)) (ty := .boolean) (C := RX3) (T := TX3) (N := 4) hx hb hts hinX3 tyX3 tyX3_ok nmX3 hown hK hP hD hS 15 rfl rfl 3 (by decide) (hts (.fieldLink RX3 38 "BreakLines" "bestIsKnown" "Z") (by decide +kernel)) (fun _ h9 => h9) rfl (by decide +kernel) (jZ_narrow _) (jZ_fits _) (Nat.le_of_ble_eq_true rfl) dX3_findBest_35 (fun H locs hP hD hS => ?_)
    have hP : va_P D vwCl (wPc q cI (sNb σ) (sWd σ) (sPp σ) (sCt σ) (sCs σ) mk la wa ++ wSe q cJ lpc1 tpc1 rkc1 odc1 frc1 foc1 ++ wSt q cI (frc1 ≠ 9223372036854775807) (if frc1 = 9223372036854775807 then -1 else frc1 / 1024) lnc2 pgc2 fbc2 flc2 plc2 lbc2 ++ wBl q True) H := hP
    have hD : va_D A (wPc q cI (sNb σ) (sWd σ) (sPp σ) (sCt σ) (sCs σ) mk la wa ++ wSe q cJ lpc1 tpc1 rkc1 odc1 frc1 foc1 ++ wSt q cI (frc1 ≠ 9223372036854775807) (if frc1 = 9223372036854775807 then -1 else frc1 / 1024) lnc2 pgc2 fbc2 flc2 plc2 lbc2 ++ wBl q True) := hD
    exact j_mretV hx hb hr hlocks hS dX3_findBest_38 (lpc1, tpc1, rkc1, odc1, frc1, foc1, frc1 ≠ 9223372036854775807, if frc1 = 9223372036854775807 then -1 else frc1 / 1024, lnc2, pgc2, fbc2, flc2, plc2, lbc2, True) ⟨trivial, hu2.1, fun _ => ⟨frc1, foc1, hu1, Iff.rfl, rfl, hu2.2⟩⟩ hP
  · skip
    exact j_mretV hx hb hr hlocks hS dX3_findBest_7 (lp, tp, rk, od, fr, fo, ex, to, ln, pg, fb, fl, pl, lb, kn) ⟨c4, hI⟩ hP
set_option maxHeartbeats 4000000 in
set_option maxRecDepth 100000 in
theorem kX3_isWithin (l : Launch) (D : va_G) (cI cJ cZ : ClassId) (x a b : Int) (h : i32 x ∧ i32 a ∧ i32 b) : RoI l yX3_isWithin wsX3_isWithin 0 0 D (tyc cI cJ cZ) ([]) [.int (jI x), .int (jI a), .int (jI b)] (jZ (a ≤ x ∧ x ≤ b)) := by
  refine j_start RX3 rfl (by decide) rfl (Nat.le_of_ble_eq_true rfl) ?_
  intro p e s m below meth c ls hx hb hr hlocks hml hown hts hnm hl ⟨hP, hK⟩
  have hP : va_P D vwCl ([]) s.heap := hP
  have hl : lv_has ls 3 [(0, .int (jI x)), (1, .int (jI a)), (2, .int (jI b))] := hl
  unfold i32 at h
  refine lv_iload_n hx hb dX3_isWithin_0 rfl (lv_at hl 0 rfl) ?_
  refine lv_iload_n hx hb dX3_isWithin_1 rfl (lv_at hl 1 rfl) ?_
  refine j_icmp_lt (tgt := 14) hx hb (by unfold i32; omega) dX3_isWithin_2 (by decide) (fun c2 => ?_) (fun c2 => ?_)
  · skip
    refine j_iconst hx hb dX3_isWithin_14 ?_
    exact j_retZ hx hb hr (by decide) hlocks dX3_isWithin_15 ((jZ_f (by omega)).symm)
  · skip
    refine lv_iload_n hx hb dX3_isWithin_5 rfl (lv_at hl 0 rfl) ?_
    refine lv_iload_n hx hb dX3_isWithin_6 rfl (lv_at hl 2 rfl) ?_
    refine j_icmp_gt (tgt := 14) hx hb (by unfold i32; omega) dX3_isWithin_7 (by decide) (fun c7 => ?_) (fun c7 => ?_)
    · skip
      refine j_iconst hx hb dX3_isWithin_14 ?_
      exact j_retZ hx hb hr (by decide) hlocks dX3_isWithin_15 ((jZ_f (by omega)).symm)
    · skip
      refine j_iconst hx hb dX3_isWithin_10 ?_
      refine lv_goto (tgt := 15) hx hb dX3_isWithin_11 (by decide) ?_
      exact j_retZ hx hb hr (by decide) hlocks dX3_isWithin_15 ((jZ_t (by omega)).symm)
set_option maxHeartbeats 4000000 in
set_option maxRecDepth 100000 in
theorem kX3_areWidths (l : Launch) (D : va_G) (cI cJ cZ : ClassId) (x y : Int) (h : i32 x ∧ i32 y) : RoI l yX3_areWidths wsX3_areWidths 1 22 D (tyc cI cJ cZ) ([]) [.int (jI x), .int (jI y)] (jZ (1 ≤ x ∧ x ≤ y ∧ y ≤ 400)) := by
  refine j_start RX3 rfl (by decide) rfl (Nat.le_of_ble_eq_true rfl) ?_
  intro p e s m below meth c ls hx hb hr hlocks hml hown hts hnm hl ⟨hP, hK⟩
  have hP : va_P D vwCl ([]) s.heap := hP
  have hl : lv_has ls 2 [(0, .int (jI x)), (1, .int (jI y))] := hl
  unfold i32 at h
  refine lv_iload_n hx hb dX3_areWidths_0 rfl (lv_at hl 1 rfl) ?_
  refine j_iconst hx hb dX3_areWidths_1 ?_
  refine j_sipush hx hb dX3_areWidths_2 (by decide) ?_
  refine j_cSI (As := [.int (jI y), .int (jI 1), .int (jI 400)]) (rest := []) ⟨hx, hb, hml, hown, hts⟩ (kX3_isWithin l D cI cJ cZ y 1 400 (by unfold i32; omega)) (va_cwS 3 hts gX3_areWidths_X3_isWithin rfl rfl rfl (by decide +kernel) ⟨Nat.le_of_ble_eq_true rfl, Nat.le_of_ble_eq_true rfl⟩) hK (hP.sub [] rfl) rfl hl.1 rfl (Nat.le_of_ble_eq_true rfl) ⟨Nat.zero_le _, Nat.zero_le _⟩ dX3_areWidths_5 ?_
  refine j_ifeqZ (tgt := 24) hx hb dX3_areWidths_8 (by decide) (fun c8 => ?_) (fun c8 => ?_)
  · skip
    refine j_iconst hx hb dX3_areWidths_24 ?_
    exact j_retZ hx hb hr (by decide) hlocks dX3_areWidths_25 ((jZ_f (by omega)).symm)
  · skip
    refine lv_iload_n hx hb dX3_areWidths_11 rfl (lv_at hl 0 rfl) ?_
    refine j_iconst hx hb dX3_areWidths_12 ?_
    refine lv_iload_n hx hb dX3_areWidths_13 rfl (lv_at hl 1 rfl) ?_
    refine j_cSI (As := [.int (jI x), .int (jI 1), .int (jI y)]) (rest := []) ⟨hx, hb, hml, hown, hts⟩ (kX3_isWithin l D cI cJ cZ x 1 y (by unfold i32; omega)) (va_cwS 3 hts gX3_areWidths_X3_isWithin rfl rfl rfl (by decide +kernel) ⟨Nat.le_of_ble_eq_true rfl, Nat.le_of_ble_eq_true rfl⟩) hK (hP.sub [] rfl) rfl hl.1 rfl (Nat.le_of_ble_eq_true rfl) ⟨Nat.zero_le _, Nat.zero_le _⟩ dX3_areWidths_14 ?_
    refine j_ifeqZ (tgt := 24) hx hb dX3_areWidths_17 (by decide) (fun c17 => ?_) (fun c17 => ?_)
    · skip
      refine j_iconst hx hb dX3_areWidths_24 ?_
      exact j_retZ hx hb hr (by decide) hlocks dX3_areWidths_25 ((jZ_f (by omega)).symm)
    · skip
      refine j_iconst hx hb dX3_areWidths_20 ?_
      refine lv_goto (tgt := 25) hx hb dX3_areWidths_21 (by decide) ?_
      exact j_retZ hx hb hr (by decide) hlocks dX3_areWidths_25 ((jZ_t (by omega)).symm)
set_option maxHeartbeats 4000000 in
set_option maxRecDepth 100000 in
theorem kX3_nearest (l : Launch) (D : va_G) (cI cJ cZ : ClassId) (x a b : Int) (h : i32 x ∧ i32 a ∧ i32 b) : RoI l yX3_nearest wsX3_nearest 1 14 D (tyc cI cJ cZ) ([]) [.int (jI x), .int (jI a), .int (jI b)] (jI (max a (min b x))) := by
  refine j_start RX3 rfl (by decide) rfl (Nat.le_of_ble_eq_true rfl) ?_
  intro p e s m below meth c ls hx hb hr hlocks hml hown hts hnm hl ⟨hP, hK⟩
  have hP : va_P D vwCl ([]) s.heap := hP
  have hl : lv_has ls 3 [(0, .int (jI x)), (1, .int (jI a)), (2, .int (jI b))] := hl
  unfold i32 at h
  refine lv_iload_n hx hb dX3_nearest_0 rfl (lv_at hl 1 rfl) ?_
  refine lv_iload_n hx hb dX3_nearest_1 rfl (lv_at hl 2 rfl) ?_
  refine lv_iload_n hx hb dX3_nearest_2 rfl (lv_at hl 0 rfl) ?_
  refine va_mmin hx hb (hml.trans hl.1.symm) hown (hts (.methodLink RX3 151 Lib.Math.min.name) (by decide +kernel)) (hts (.static Lib.Math.min.name) (by decide +kernel)) (hts (.initialized "java/lang/Math") (by decide +kernel)) (hts (.code Lib.Math.min.name Lib.Math.min.code 2 (some .int)) (by decide +kernel)) (Nat.le_of_ble_eq_true rfl) (Nat.le_of_ble_eq_true rfl) (Nat.zero_le _) (Nat.zero_le _) dX3_nearest_3 ?_
  refine j_topi (y := jI (min b x)) (j_min (by unfold i32; omega)) ?_
  refine va_mmax hx hb (hml.trans hl.1.symm) hown (hts (.methodLink RX3 156 Lib.Math.max.name) (by decide +kernel)) (hts (.static Lib.Math.max.name) (by decide +kernel)) (hts (.initialized "java/lang/Math") (by decide +kernel)) (hts (.code Lib.Math.max.name Lib.Math.max.code 2 (some .int)) (by decide +kernel)) (Nat.le_of_ble_eq_true rfl) (Nat.le_of_ble_eq_true rfl) (Nat.zero_le _) (Nat.zero_le _) dX3_nearest_6 ?_
  refine j_topi (y := jI (max a (min b x))) (j_max (by unfold i32; omega)) ?_
  exact j_retI hx hb hr hlocks dX3_nearest_9 rfl
end
end
section
/-! the order number's bits say the lines' and the pages' ends -/
noncomputable section
def p2 (k : Int) : Int := 2 ^ k.toNat
theorem p2_pos (k : Int) : 0 < p2 k := Int.pow_pos (by omega)
theorem p2_s {k : Int} (h : 0 ≤ k) : p2 (k + 1) = 2 * p2 k := by
  unfold p2
  rw [show (k + 1).toNat = k.toNat + 1 by omega, Int.pow_succ, Int.mul_comm]
theorem p2_a {k m : Int} (h : 0 ≤ k) (hm : 0 ≤ m) : p2 (k + m) = p2 k * p2 m := by
  unfold p2
  rw [show (k + m).toNat = k.toNat + m.toNat by omega, Int.pow_add]
theorem p2_m {k m : Int} (h : 0 ≤ k) (hm : k ≤ m) : p2 k ≤ p2 m := by
  have e := p2_a (k := k) (m := m - k) h (by omega)
  rw [show k + (m - k) = m by omega] at e
  rw [e]
  have h1 := p2_pos k
  have h2 := p2_pos (m - k)
  have := Int.mul_le_mul_of_nonneg_left (show (1 : Int) ≤ p2 (m - k) by omega) (show (0 : Int) ≤ p2 k by omega)
  omega
def Qs : List Int → Int
  | [] => 0
  | t :: ts => p2 (23 - t) + Qs ts
def incr : Int → List Int → Prop
  | _, [] => True
  | f, t :: ts => f ≤ t ∧ t < 24 ∧ incr (t + 1) ts
theorem incr_w : ∀ {ts : List Int} {f g : Int}, incr f ts → g ≤ f → incr g ts := by
  intro ts
  cases ts with
  | nil => intro f g h hg; trivial
  | cons t ts => intro f g h hg; exact ⟨by have := h.1; omega, h.2⟩
theorem incr_ge : ∀ {ts : List Int} {f b : Int}, incr f ts → b ∈ ts → f ≤ b ∧ b < 24 := by
  intro ts
  induction ts with
  | nil => intro f b h hb; cases hb
  | cons t ts ih =>
    intro f b h hb
    rcases List.mem_cons.mp hb with q | q
    · rw [q]; exact ⟨h.1, h.2.1⟩
    · have := ih h.2.2 q; have := h.1; omega
theorem Qs_B : ∀ {ts : List Int} {f : Int}, 0 ≤ f → f ≤ 24 → incr f ts → 0 ≤ Qs ts ∧ Qs ts < p2 (24 - f) := by
  intro ts
  induction ts with
  | nil => intro f h1 h2 h; exact ⟨Int.le_refl _, p2_pos _⟩
  | cons t ts ih =>
    intro f h1 h2 h
    have h3 := h.1
    have h4 := h.2.1
    have i := ih (f := t + 1) (by omega) (by omega) h.2.2
    have e := p2_s (k := 23 - t) (by omega)
    have m := p2_m (k := 23 - t + 1) (m := 24 - f) (by omega) (by omega)
    have p := p2_pos (23 - t)
    rw [show 24 - (t + 1) = 23 - t by omega] at i
    simp only [Qs]
    omega
theorem Qs_bit : ∀ {ts : List Int} {f b : Int}, 0 ≤ f → incr f ts → 0 ≤ b → b < 24 → (Qs ts / p2 (23 - b) % 2 = 1 ↔ b ∈ ts) := by
  intro ts
  induction ts with
  | nil =>
    intro f b h1 h h3 h4
    simp [Qs]
  | cons t ts ih =>
    intro f b h1 h h3 h4
    have k3 := h.1
    have k4 := h.2.1
    have B := Qs_B (f := t + 1) (by omega) (by omega) h.2.2
    rw [show 24 - (t + 1) = 23 - t by omega] at B
    have pt := p2_pos (23 - t)
    have pb := p2_pos (23 - b)
    simp only [Qs]
    rw [List.mem_cons]
    rcases Int.lt_trichotomy b t with q | q | q
    · have e := p2_s (k := 23 - t) (by omega)
      have m := p2_m (k := 23 - t + 1) (m := 23 - b) (by omega) (by omega)
      rw [Int.ediv_eq_zero_of_lt (by omega) (by omega)]
      constructor
      · intro w; exact absurd w (by decide)
      · rintro (w | w)
        · omega
        · have := incr_ge h.2.2 w; omega
    · subst q
      have e : (p2 (23 - b) + Qs ts) / p2 (23 - b) = 1 := by
        have e2 : p2 (23 - b) + Qs ts = Qs ts + 1 * p2 (23 - b) := by omega
        rw [e2, Int.add_mul_ediv_right _ _ (by omega), Int.ediv_eq_zero_of_lt B.1 B.2]
        rfl
      rw [e]
      exact ⟨fun _ => Or.inl rfl, fun _ => by decide⟩
    · have e2 : p2 (23 - t) = (2 * p2 (b - t - 1)) * p2 (23 - b) := by
        have a1 := p2_a (k := b - t) (m := 23 - b) (by omega) (by omega)
        rw [show b - t + (23 - b) = 23 - t by omega] at a1
        have a2 := p2_s (k := b - t - 1) (by omega)
        rw [show b - t - 1 + 1 = b - t by omega] at a2
        rw [a1, a2]
      have e : (p2 (23 - t) + Qs ts) / p2 (23 - b) = Qs ts / p2 (23 - b) + 2 * p2 (b - t - 1) := by
        rw [e2, Int.add_comm, Int.add_mul_ediv_right _ _ (by omega)]
      rw [e, Int.add_mul_emod_self_left, ih (f := t + 1) (by omega) h.2.2 h3 h4]
      constructor
      · intro w; exact Or.inr w
      · rintro (w | w)
        · omega
        · exact w
def endL (s : List (Int × Bool)) : List Int := s.map Prod.fst
def endP : List (Int × Bool) → List Int
  | [] => []
  | (t, true) :: s => t :: endP s
  | (_, false) :: s => endP s
theorem okL_incr {σ : Sg} (h : okS σ) : ∀ {s : List (Int × Bool)} {f o : Int}, okL σ s f o → incr f (endL s) ∧ incr f (endP s) := by
  have hn := h.1
  intro s
  induction s with
  | nil => intro f o hk; exact ⟨trivial, trivial⟩
  | cons x s ih =>
    intro f o hk
    obtain ⟨t, b⟩ := x
    cases b with
    | true =>
      obtain ⟨k1, k2, -, k4⟩ := hk
      have i := ih k4
      exact ⟨⟨k1, by omega, i.1⟩, ⟨k1, by omega, i.2⟩⟩
    | false =>
      obtain ⟨k1, k2, -, -, k4⟩ := hk
      have i := ih k4
      exact ⟨⟨k1, by omega, i.1⟩, incr_w i.2 (by omega)⟩
theorem leB_p2 {t : Int} (h : t ≤ 23) : leB t = 16777216 * p2 (23 - t) := by
  have := p2_a (k := 24) (m := 23 - t) (by omega) (by omega)
  rw [show (24 : Int) + (23 - t) = 47 - t by omega] at this
  exact this
theorem odL_Q {σ : Sg} (h : okS σ) : ∀ {s : List (Int × Bool)} {f o : Int}, okL σ s f o → odL s = Qs (endP s) + Qs (endL s) * 16777216 := by
  have hn := h.1
  intro s
  induction s with
  | nil => intro f o hk; rfl
  | cons x s ih =>
    intro f o hk
    obtain ⟨t, b⟩ := x
    cases b with
    | true =>
      obtain ⟨k1, k2, -, k4⟩ := hk
      have i := ih k4
      have e := leB_p2 (t := t) (by omega)
      have e2 : peB t = p2 (23 - t) := rfl
      simp only [odL, endP, endL, List.map_cons, Qs]
      unfold endL at i
      omega
    | false =>
      obtain ⟨k1, k2, -, -, k4⟩ := hk
      have i := ih k4
      have e := leB_p2 (t := t) (by omega)
      simp only [odL, endP, endL, List.map_cons, Qs]
      unfold endL at i
      omega
theorem od_bits {σ : Sg} (h : okS σ) {s : List (Int × Bool)} {f o b : Int} (hf : 0 ≤ f) (hf2 : f ≤ 24) (hk : okL σ s f o) (hb : 0 ≤ b) (hb2 : b < 24) : (odL s / leB b % 2 = 1 ↔ b ∈ endL s) ∧ (odL s / peB b % 2 = 1 ↔ b ∈ endP s) := by
  have hi := okL_incr h hk
  have B1 := Qs_B hf hf2 hi.1
  have B2 := Qs_B hf hf2 hi.2
  have m := p2_m (k := 24 - f) (m := 24) (by omega) (by omega)
  have e24 : p2 24 = 16777216 := by decide
  have pb := p2_pos (23 - b)
  have e := odL_Q h hk
  have hq : odL s / 16777216 = Qs (endL s) := by
    rw [e, Int.add_mul_ediv_right _ _ (by omega), Int.ediv_eq_zero_of_lt B2.1 (by omega)]
    omega
  constructor
  · rw [leB_p2 (by omega), ← Int.ediv_ediv_of_nonneg (show (0 : Int) ≤ 16777216 by omega), hq]
    exact Qs_bit hf hi.1 hb hb2
  · rw [← Qs_bit hf hi.2 hb hb2]
    show odL s / p2 (23 - b) % 2 = 1 ↔ _
    have e3 : (16777216 : Int) = (2 * p2 b) * p2 (23 - b) := by
      have a1 := p2_a (k := b + 1) (m := 23 - b) (by omega) (by omega)
      rw [show b + 1 + (23 - b) = 24 by omega, e24] at a1
      rw [a1, p2_s hb]
    have e4 : Qs (endL s) * 16777216 = (2 * (p2 b * Qs (endL s))) * p2 (23 - b) := by
      rw [e3, Int.mul_comm (Qs (endL s)), Int.mul_assoc 2, Int.mul_assoc 2, Int.mul_assoc 2, Int.mul_assoc, Int.mul_assoc, Int.mul_comm (Qs (endL s))]
    rw [e, e4, Int.add_mul_ediv_right _ _ (by omega), Int.add_mul_emod_self_left]
theorem okL_last {σ : Sg} : ∀ {s : List (Int × Bool)} {f o : Int}, okL σ s f o → 0 ≤ o → f < sNb σ → (sNb σ - 1) ∈ endL s ∧ (sNb σ - 1) ∈ endP s := by
  intro s
  induction s with
  | nil => intro f o hk ho hf; exact absurd hk.1 (by omega)
  | cons x s ih =>
    intro f o hk ho hf
    obtain ⟨t, b⟩ := x
    cases b with
    | true =>
      obtain ⟨k1, k2, -, k4⟩ := hk
      by_cases q : t = sNb σ - 1
      · exact ⟨by rw [← q]; exact List.mem_cons_self, by rw [← q]; exact List.mem_cons_self⟩
      · have i := ih k4 (by omega) (by omega)
        exact ⟨List.mem_cons_of_mem _ i.1, List.mem_cons_of_mem _ i.2⟩
    | false =>
      obtain ⟨k1, k2, -, -, k4⟩ := hk
      by_cases q : t = sNb σ - 1
      · have := okL_nb (σ := σ) (s := s) (o := o + 1) (by rw [show t + 1 = sNb σ by omega] at k4; exact k4)
        omega
      · have i := ih k4 (by omega) (by omega)
        exact ⟨List.mem_cons_of_mem _ i.1, i.2⟩
theorem endP_sub : ∀ {s : List (Int × Bool)} {b : Int}, b ∈ endP s → b ∈ endL s := by
  intro s
  induction s with
  | nil => intro b h; cases h
  | cons x s ih =>
    intro b h
    obtain ⟨t, fl⟩ := x
    cases fl with
    | true =>
      rcases List.mem_cons.mp h with q | q
      · rw [q]; exact List.mem_cons_self
      · exact List.mem_cons_of_mem _ (ih q)
    | false => exact List.mem_cons_of_mem _ (ih h)
/-- there is a k-th one -/
theorem cnt_ex {P : Int → Prop} : ∀ {n : Nat} {k : Int}, 0 ≤ k → k < cnt P n → ∃ b : Int, 0 ≤ b ∧ b < n ∧ P b ∧ cnt P b = k := by
  intro n
  induction n with
  | zero => intro k h1 h2; rw [show ((0 : Nat) : Int) = 0 from rfl, cnt_0] at h2; omega
  | succ n ih =>
    intro k h1 h2
    rw [show ((n + 1 : Nat) : Int) = (n : Int) + 1 by omega] at h2
    by_cases hp : P n
    · rw [cnt_t (by omega) hp] at h2
      by_cases q : k = cnt P n
      · exact ⟨n, by omega, by omega, hp, q.symm⟩
      · obtain ⟨b, w1, w2, w3, w4⟩ := ih h1 (by omega)
        exact ⟨b, w1, by omega, w3, w4⟩
    · rw [cnt_f (by omega) hp] at h2
      obtain ⟨b, w1, w2, w3, w4⟩ := ih h1 h2
      exact ⟨b, w1, by omega, w3, w4⟩
theorem cnt_ex' {P : Int → Prop} {n k : Int} (hn : 0 ≤ n) (h1 : 0 ≤ k) (h2 : k < cnt P n) : ∃ b, 0 ≤ b ∧ b < n ∧ P b ∧ cnt P b = k := by
  obtain ⟨m, rfl⟩ : ∃ m : Nat, n = m := ⟨n.toNat, by omega⟩
  exact cnt_ex h1 h2
/-- the k-th row of a setting's rows -/
theorem row_at {P : Int → Prop} {n : Int} {F : Int → Int} (hn : 0 ≤ n) (F0 : F 0 = 0) (hF : ∀ b, 0 ≤ b → b < n → P b → F (cnt P b + 1) = b + 1) {k : Int} (h1 : 0 ≤ k) (h2 : k < cnt P n) : 0 ≤ F k ∧ F k < F (k + 1) ∧ F (k + 1) ≤ n ∧ P (F (k + 1) - 1) ∧ cnt P (F (k + 1) - 1) = k ∧ cnt P (F k) = k := by
  obtain ⟨b, w1, w2, w3, w4⟩ := cnt_ex' hn h1 h2
  have e := hF b w1 w2 w3
  rw [w4] at e
  rw [e, show b + 1 - 1 = b by omega]
  by_cases q : k = 0
  · subst q
    rw [F0]
    exact ⟨by omega, by omega, by omega, w3, w4, cnt_0 P⟩
  · obtain ⟨c, v1, v2, v3, v4⟩ := cnt_ex' (P := P) (k := k - 1) hn (by omega) (by omega)
    have e2 := hF c v1 v2 v3
    rw [v4, show k - 1 + 1 = k by omega] at e2
    rw [e2]
    have hcb : c < b := by
      rcases Int.lt_or_le c b with z | z
      · exact z
      · have := (cnt_le P w1 z).1; omega
    exact ⟨by omega, by omega, by omega, w3, w4, by rw [cnt_t v1 v3]; omega⟩
end
end
