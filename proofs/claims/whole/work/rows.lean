section
-- ===== PART A: goes FIRST, ahead of the names: the tables' words, and 'selects' of the private methods out of them =====
/-- a private method of a class that the tables say can be made, by its rows of tables_1 -/
def lw_okq (q : MethodName × Nat) : Prop := (q.1.cls ≠ "java/lang/invoke/MethodHandle" ∧ q.1.cls ≠ "java/lang/invoke/VarHandle") ∧ Cond.instantiable q.1.cls q.2 ∈ tables_1 ∧ Cond.privateMethod q.1 ∈ tables_1 ∧ Cond.instanceMethod q.1 ∈ tables_1
theorem lw_p0 : lw_okq (⟨"HillLayers$Rock", "bindThick", "(LHillLayers$Gaps;II)Z"⟩, 7) := ⟨⟨by decide +kernel, by decide +kernel⟩, List.mem_of_getElem? (i := 26) (by decide +kernel), List.mem_of_getElem? (i := 268) (by decide +kernel), List.mem_of_getElem? (i := 269) (by decide +kernel)⟩
theorem lw_p1 : lw_okq (⟨"HillLayers$Gaps", "isPlace", "(I)Z"⟩, 2) := ⟨⟨by decide +kernel, by decide +kernel⟩, List.mem_of_getElem? (i := 79) (by decide +kernel), List.mem_of_getElem? (i := 281) (by decide +kernel), List.mem_of_getElem? (i := 282) (by decide +kernel)⟩
theorem lw_p2 : lw_okq (⟨"HillLayers$Gaps", "narrow", "(III)V"⟩, 2) := ⟨⟨by decide +kernel, by decide +kernel⟩, List.mem_of_getElem? (i := 79) (by decide +kernel), List.mem_of_getElem? (i := 285) (by decide +kernel), List.mem_of_getElem? (i := 286) (by decide +kernel)⟩
theorem lw_p3 : lw_okq (⟨"HillLayers$Rock", "bindStep", "(LHillLayers$Gaps;II)Z"⟩, 7) := ⟨⟨by decide +kernel, by decide +kernel⟩, List.mem_of_getElem? (i := 26) (by decide +kernel), List.mem_of_getElem? (i := 290) (by decide +kernel), List.mem_of_getElem? (i := 291) (by decide +kernel)⟩
theorem lw_p4 : lw_okq (⟨"HillLayers$Bodies", "findQuarrel", "()V"⟩, 9) := ⟨⟨by decide +kernel, by decide +kernel⟩, List.mem_of_getElem? (i := 72) (by decide +kernel), List.mem_of_getElem? (i := 294) (by decide +kernel), List.mem_of_getElem? (i := 295) (by decide +kernel)⟩
theorem lw_p5 : lw_okq (⟨"HillLayers", "end", "(II)I"⟩, 4) := ⟨⟨by decide +kernel, by decide +kernel⟩, List.mem_of_getElem? (i := 12) (by decide +kernel), List.mem_of_getElem? (i := 342) (by decide +kernel), List.mem_of_getElem? (i := 343) (by decide +kernel)⟩
theorem lw_p6 : lw_okq (⟨"HillLayers", "isPlaceCode", "(I)Z"⟩, 4) := ⟨⟨by decide +kernel, by decide +kernel⟩, List.mem_of_getElem? (i := 12) (by decide +kernel), List.mem_of_getElem? (i := 384) (by decide +kernel), List.mem_of_getElem? (i := 385) (by decide +kernel)⟩
theorem lw_p7 : lw_okq (⟨"HillLayers", "gain", "(I)I"⟩, 4) := ⟨⟨by decide +kernel, by decide +kernel⟩, List.mem_of_getElem? (i := 12) (by decide +kernel), List.mem_of_getElem? (i := 398) (by decide +kernel), List.mem_of_getElem? (i := 399) (by decide +kernel)⟩
theorem lw_p8 : lw_okq (⟨"HillLayersModel", "isPlace", "(II)Z"⟩, 19) := ⟨⟨by decide +kernel, by decide +kernel⟩, List.mem_of_getElem? (i := 460) (by decide +kernel), List.mem_of_getElem? (i := 551) (by decide +kernel), List.mem_of_getElem? (i := 552) (by decide +kernel)⟩
theorem lw_p9 : lw_okq (⟨"HillLayersModel", "isSight", "(I)Z"⟩, 19) := ⟨⟨by decide +kernel, by decide +kernel⟩, List.mem_of_getElem? (i := 460) (by decide +kernel), List.mem_of_getElem? (i := 559) (by decide +kernel), List.mem_of_getElem? (i := 560) (by decide +kernel)⟩
theorem lw_p10 : lw_okq (⟨"HillLayersModel", "reckons", "()Z"⟩, 19) := ⟨⟨by decide +kernel, by decide +kernel⟩, List.mem_of_getElem? (i := 460) (by decide +kernel), List.mem_of_getElem? (i := 567) (by decide +kernel), List.mem_of_getElem? (i := 568) (by decide +kernel)⟩
theorem lw_p11 : lw_okq (⟨"HillLayersModel", "found", "()Z"⟩, 19) := ⟨⟨by decide +kernel, by decide +kernel⟩, List.mem_of_getElem? (i := 460) (by decide +kernel), List.mem_of_getElem? (i := 571) (by decide +kernel), List.mem_of_getElem? (i := 572) (by decide +kernel)⟩
theorem lw_p12 : lw_okq (⟨"HillLayersModel", "stands", "()Z"⟩, 19) := ⟨⟨by decide +kernel, by decide +kernel⟩, List.mem_of_getElem? (i := 460) (by decide +kernel), List.mem_of_getElem? (i := 575) (by decide +kernel), List.mem_of_getElem? (i := 576) (by decide +kernel)⟩
theorem lw_p13 : lw_okq (⟨"HillLayersModel", "bounds", "(III)V"⟩, 19) := ⟨⟨by decide +kernel, by decide +kernel⟩, List.mem_of_getElem? (i := 460) (by decide +kernel), List.mem_of_getElem? (i := 583) (by decide +kernel), List.mem_of_getElem? (i := 584) (by decide +kernel)⟩
theorem lw_p14 : lw_okq (⟨"HillLayersModel", "within", "(IIII)V"⟩, 19) := ⟨⟨by decide +kernel, by decide +kernel⟩, List.mem_of_getElem? (i := 460) (by decide +kernel), List.mem_of_getElem? (i := 587) (by decide +kernel), List.mem_of_getElem? (i := 588) (by decide +kernel)⟩
theorem lw_p15 : lw_okq (⟨"HillLayersModel", "pairs", "(I)V"⟩, 19) := ⟨⟨by decide +kernel, by decide +kernel⟩, List.mem_of_getElem? (i := 460) (by decide +kernel), List.mem_of_getElem? (i := 592) (by decide +kernel), List.mem_of_getElem? (i := 593) (by decide +kernel)⟩
def lw_privs_1 : List (MethodName × Nat) := [(⟨"HillLayers$Rock", "bindThick", "(LHillLayers$Gaps;II)Z"⟩, 7), (⟨"HillLayers$Gaps", "isPlace", "(I)Z"⟩, 2), (⟨"HillLayers$Gaps", "narrow", "(III)V"⟩, 2), (⟨"HillLayers$Rock", "bindStep", "(LHillLayers$Gaps;II)Z"⟩, 7), (⟨"HillLayers$Bodies", "findQuarrel", "()V"⟩, 9), (⟨"HillLayers", "end", "(II)I"⟩, 4), (⟨"HillLayers", "isPlaceCode", "(I)Z"⟩, 4), (⟨"HillLayers", "gain", "(I)I"⟩, 4), (⟨"HillLayersModel", "isPlace", "(II)Z"⟩, 19), (⟨"HillLayersModel", "isSight", "(I)Z"⟩, 19), (⟨"HillLayersModel", "reckons", "()Z"⟩, 19), (⟨"HillLayersModel", "found", "()Z"⟩, 19), (⟨"HillLayersModel", "stands", "()Z"⟩, 19), (⟨"HillLayersModel", "bounds", "(III)V"⟩, 19), (⟨"HillLayersModel", "within", "(IIII)V"⟩, 19), (⟨"HillLayersModel", "pairs", "(I)V"⟩, 19)]
theorem lw_r1 : ∀ q ∈ lw_privs_1, lw_okq q := List.forall_mem_cons.mpr ⟨lw_p0, List.forall_mem_cons.mpr ⟨lw_p1, List.forall_mem_cons.mpr ⟨lw_p2, List.forall_mem_cons.mpr ⟨lw_p3, List.forall_mem_cons.mpr ⟨lw_p4, List.forall_mem_cons.mpr ⟨lw_p5, List.forall_mem_cons.mpr ⟨lw_p6, List.forall_mem_cons.mpr ⟨lw_p7, List.forall_mem_cons.mpr ⟨lw_p8, List.forall_mem_cons.mpr ⟨lw_p9, List.forall_mem_cons.mpr ⟨lw_p10, List.forall_mem_cons.mpr ⟨lw_p11, List.forall_mem_cons.mpr ⟨lw_p12, List.forall_mem_cons.mpr ⟨lw_p13, List.forall_mem_cons.mpr ⟨lw_p14, List.forall_mem_cons.mpr ⟨lw_p15, fun _ h => absurd h List.not_mem_nil⟩⟩⟩⟩⟩⟩⟩⟩⟩⟩⟩⟩⟩⟩⟩⟩
theorem lw_p16 : lw_okq (⟨"HillLayersModel", "agrees", "(I)Z"⟩, 19) := ⟨⟨by decide +kernel, by decide +kernel⟩, List.mem_of_getElem? (i := 460) (by decide +kernel), List.mem_of_getElem? (i := 596) (by decide +kernel), List.mem_of_getElem? (i := 597) (by decide +kernel)⟩
theorem lw_p17 : lw_okq (⟨"HillLayersModel", "sees", "(I)Z"⟩, 19) := ⟨⟨by decide +kernel, by decide +kernel⟩, List.mem_of_getElem? (i := 460) (by decide +kernel), List.mem_of_getElem? (i := 600) (by decide +kernel), List.mem_of_getElem? (i := 601) (by decide +kernel)⟩
theorem lw_p18 : lw_okq (⟨"HillLayersModel", "addsWithin", "(IIII)Z"⟩, 19) := ⟨⟨by decide +kernel, by decide +kernel⟩, List.mem_of_getElem? (i := 460) (by decide +kernel), List.mem_of_getElem? (i := 604) (by decide +kernel), List.mem_of_getElem? (i := 605) (by decide +kernel)⟩
theorem lw_p19 : lw_okq (⟨"HillLayersModel", "adds", "(III)Z"⟩, 19) := ⟨⟨by decide +kernel, by decide +kernel⟩, List.mem_of_getElem? (i := 460) (by decide +kernel), List.mem_of_getElem? (i := 608) (by decide +kernel), List.mem_of_getElem? (i := 609) (by decide +kernel)⟩
theorem lw_p20 : lw_okq (⟨"HillLayersModel", "low", "(I)I"⟩, 19) := ⟨⟨by decide +kernel, by decide +kernel⟩, List.mem_of_getElem? (i := 460) (by decide +kernel), List.mem_of_getElem? (i := 619) (by decide +kernel), List.mem_of_getElem? (i := 620) (by decide +kernel)⟩
theorem lw_p21 : lw_okq (⟨"HillLayersModel", "high", "(I)I"⟩, 19) := ⟨⟨by decide +kernel, by decide +kernel⟩, List.mem_of_getElem? (i := 460) (by decide +kernel), List.mem_of_getElem? (i := 623) (by decide +kernel), List.mem_of_getElem? (i := 624) (by decide +kernel)⟩
theorem lw_p22 : lw_okq (⟨"HillLayersModel", "opens", "()I"⟩, 19) := ⟨⟨by decide +kernel, by decide +kernel⟩, List.mem_of_getElem? (i := 460) (by decide +kernel), List.mem_of_getElem? (i := 631) (by decide +kernel), List.mem_of_getElem? (i := 632) (by decide +kernel)⟩
theorem lw_p23 : lw_okq (⟨"HillLayersModel", "tellsAt", "(I)I"⟩, 19) := ⟨⟨by decide +kernel, by decide +kernel⟩, List.mem_of_getElem? (i := 460) (by decide +kernel), List.mem_of_getElem? (i := 652) (by decide +kernel), List.mem_of_getElem? (i := 653) (by decide +kernel)⟩
theorem lw_p24 : lw_okq (⟨"HillLayersModel", "opensBy", "(II)I"⟩, 19) := ⟨⟨by decide +kernel, by decide +kernel⟩, List.mem_of_getElem? (i := 460) (by decide +kernel), List.mem_of_getElem? (i := 656) (by decide +kernel), List.mem_of_getElem? (i := 657) (by decide +kernel)⟩
theorem lw_p25 : lw_okq (⟨"HillLayersModel", "depth", "(III)I"⟩, 19) := ⟨⟨by decide +kernel, by decide +kernel⟩, List.mem_of_getElem? (i := 460) (by decide +kernel), List.mem_of_getElem? (i := 668) (by decide +kernel), List.mem_of_getElem? (i := 669) (by decide +kernel)⟩
def lw_privs_2 : List (MethodName × Nat) := [(⟨"HillLayersModel", "agrees", "(I)Z"⟩, 19), (⟨"HillLayersModel", "sees", "(I)Z"⟩, 19), (⟨"HillLayersModel", "addsWithin", "(IIII)Z"⟩, 19), (⟨"HillLayersModel", "adds", "(III)Z"⟩, 19), (⟨"HillLayersModel", "low", "(I)I"⟩, 19), (⟨"HillLayersModel", "high", "(I)I"⟩, 19), (⟨"HillLayersModel", "opens", "()I"⟩, 19), (⟨"HillLayersModel", "tellsAt", "(I)I"⟩, 19), (⟨"HillLayersModel", "opensBy", "(II)I"⟩, 19), (⟨"HillLayersModel", "depth", "(III)I"⟩, 19)]
theorem lw_r2 : ∀ q ∈ lw_privs_2, lw_okq q := List.forall_mem_cons.mpr ⟨lw_p16, List.forall_mem_cons.mpr ⟨lw_p17, List.forall_mem_cons.mpr ⟨lw_p18, List.forall_mem_cons.mpr ⟨lw_p19, List.forall_mem_cons.mpr ⟨lw_p20, List.forall_mem_cons.mpr ⟨lw_p21, List.forall_mem_cons.mpr ⟨lw_p22, List.forall_mem_cons.mpr ⟨lw_p23, List.forall_mem_cons.mpr ⟨lw_p24, List.forall_mem_cons.mpr ⟨lw_p25, fun _ h => absurd h List.not_mem_nil⟩⟩⟩⟩⟩⟩⟩⟩⟩⟩
def lw_privs : List (MethodName × Nat) := lw_privs_1 ++ (lw_privs_2)
def lw_tbl : List Cond := k2_sels lw_privs ++ tables_1
theorem lw_privs_ok : ∀ q ∈ lw_privs, lw_okq q := by
  show ∀ q ∈ lw_privs_1 ++ (lw_privs_2), lw_okq q
  exact List.forall_mem_append.mpr ⟨lw_r1, lw_r2⟩
end
section
/-! ===== BEGIN words of one list among another's, by their places ===== -/
theorem goodIn_r {big : List Cond} (ws : List Cond) (ps : List Nat) (hp : ws = ps.filterMap (fun i => big[i]?)) (h : ws.all goodWord = true) : GoodIn big ws := by
  intro w hw
  have h1 := List.all_eq_true.mp h w hw
  rw [hp] at hw
  obtain ⟨i, -, hi⟩ := List.mem_filterMap.mp hw
  have hm : w ∈ big := by first | exact List.mem_of_getElem? hi | exact List.getElem?_mem hi
  exact ⟨hm, good_of_word h1⟩
theorem goodIn_app {big a b : List Cond} (ha : GoodIn big a) (hb : GoodIn big b) : GoodIn big (a ++ b) := fun w h => (List.mem_append.mp h).elim (ha w) (hb w)
theorem goodIn_ca {big a b : List Cond} {c : Cond} (ha : GoodIn big (c :: a)) (hb : GoodIn big b) : GoodIn big (c :: (a ++ b)) := fun w h => (List.mem_cons.mp h).elim (fun e => ha w (List.mem_cons.mpr (Or.inl e))) (fun h => (List.mem_append.mp h).elim (fun h => ha w (List.mem_cons.mpr (Or.inr h))) (hb w))
theorem goodIn_sub {big ws : List Cond} (hm : ∀ w ∈ ws, w ∈ big) (h : ws.all goodWord = true) : GoodIn big ws := fun w hw => ⟨hm w hw, good_of_word (List.all_eq_true.mp h w hw)⟩
/-! ===== END ===== -/

/-! ===== BEGIN printed: names, fields, word lists, decode rows ===== -/
def RX0 : String := "HillLayers$Bodies"
def TX0 : u_T := fun k => match k with
  | 0 => ("HillLayers$Bodies", "rock", "LHillLayers$Rock;", true)
  | 1 => ("HillLayers$Bodies", "sights", "LHillLayers$Sights;", true)
  | 2 => ("HillLayers$Bodies", "steps", "[LHillLayers$Gaps;", true)
  | 3 => ("HillLayers$Bodies", "withoutSights", "LHillLayers$Gaps;", true)
  | 4 => ("HillLayers$Bodies", "agreed", "LHillLayers$Gaps;", true)
  | 5 => ("HillLayers$Bodies", "rockIsBound", "Z", false)
  | 6 => ("HillLayers$Bodies", "quarrelIsFound", "Z", false)
  | 7 => ("HillLayers$Bodies", "hillStands", "Z", false)
  | _ => ("HillLayers$Bodies", "leftOut", "I", false)
def tyX0 : Nat → FieldType := fun k => match k with
  | 0 => .object "HillLayers$Rock"
  | 1 => .object "HillLayers$Sights"
  | 2 => .array (.object "HillLayers$Gaps")
  | 3 => .object "HillLayers$Gaps"
  | 4 => .object "HillLayers$Gaps"
  | 5 => .boolean
  | 6 => .boolean
  | 7 => .boolean
  | _ => .int
abbrev wsX00 : List Cond := u_ws RX0 TX0 9
theorem nmX0 : ∀ a, a < 9 → ∀ b, b < 9 → a ≠ b → (TX0 a).2.1 ≠ (TX0 b).2.1 := by decide +kernel
theorem tyX0_ok : ∀ k, k < 9 → parseFieldDescriptor (TX0 k).2.2.1 = some (tyX0 k) := by decide +kernel
abbrev cX0_init : ByteArray := prog_2_method_1_code
def yX0_init : MethodName := ⟨RX0, "<init>", "(LHillLayers$Rock;LHillLayers$Sights;)V"⟩
abbrev cX0_forgetRock : ByteArray := prog_2_method_2_code
def yX0_forgetRock : MethodName := ⟨RX0, "forgetRock", "()V"⟩
abbrev cX0_forgetQuarrel : ByteArray := prog_2_method_3_code
def yX0_forgetQuarrel : MethodName := ⟨RX0, "forgetQuarrel", "()V"⟩
abbrev cX0_areSome : ByteArray := prog_2_method_4_code
def yX0_areSome : MethodName := ⟨RX0, "areSome", "()Z"⟩
abbrev cX0_leftOut : ByteArray := prog_2_method_5_code
def yX0_leftOut : MethodName := ⟨RX0, "leftOut", "()I"⟩
abbrev cX0_agreed : ByteArray := prog_2_method_6_code
def yX0_agreed : MethodName := ⟨RX0, "agreed", "()LHillLayers$Gaps;"⟩
abbrev cX0_findQuarrel : ByteArray := prog_2_method_7_code
def yX0_findQuarrel : MethodName := ⟨RX0, "findQuarrel", "()V"⟩
abbrev cX0_decide : ByteArray := prog_2_method_8_code
def yX0_decide : MethodName := ⟨RX0, "decide", "(LHillLayers$Bodies;LHillLayers$Gaps;II)V"⟩
def RX1 : String := "HillLayers$Gaps"
def TX1 : u_T := fun k => match k with
  | 0 => ("HillLayers$Gaps", "size", "I", true)
  | _ => ("HillLayers$Gaps", "widths", "[I", true)
def tyX1 : Nat → FieldType := fun k => match k with
  | 0 => .int
  | _ => .array .int
abbrev wsX10 : List Cond := u_ws RX1 TX1 2
theorem nmX1 : ∀ a, a < 2 → ∀ b, b < 2 → a ≠ b → (TX1 a).2.1 ≠ (TX1 b).2.1 := by decide +kernel
theorem tyX1_ok : ∀ k, k < 2 → parseFieldDescriptor (TX1 k).2.2.1 = some (tyX1 k) := by decide +kernel
abbrev cX1_init : ByteArray := prog_3_method_1_code
def yX1_init : MethodName := ⟨RX1, "<init>", "(I)V"⟩
abbrev cX1_clear : ByteArray := prog_3_method_2_code
def yX1_clear : MethodName := ⟨RX1, "clear", "()V"⟩
abbrev cX1_copyFrom : ByteArray := prog_3_method_3_code
def yX1_copyFrom : MethodName := ⟨RX1, "copyFrom", "(LHillLayers$Gaps;)V"⟩
abbrev cX1_most : ByteArray := prog_3_method_4_code
def yX1_most : MethodName := ⟨RX1, "most", "(II)I"⟩
abbrev cX1_least : ByteArray := prog_3_method_5_code
def yX1_least : MethodName := ⟨RX1, "least", "(I)I"⟩
abbrev cX1_greatest : ByteArray := prog_3_method_6_code
def yX1_greatest : MethodName := ⟨RX1, "greatest", "(I)I"⟩
abbrev cX1_hold : ByteArray := prog_3_method_7_code
def yX1_hold : MethodName := ⟨RX1, "hold", "(IIII)Z"⟩
abbrev cX1_narrow : ByteArray := prog_3_method_8_code
def yX1_narrow : MethodName := ⟨RX1, "narrow", "(III)V"⟩
abbrev cX1_openSum : ByteArray := prog_3_method_9_code
def yX1_openSum : MethodName := ⟨RX1, "openSum", "()I"⟩
abbrev cX1_openSumAfterBore : ByteArray := prog_3_method_10_code
def yX1_openSumAfterBore : MethodName := ⟨RX1, "openSumAfterBore", "(II)I"⟩
abbrev cX1_isPlace : ByteArray := prog_3_method_11_code
def yX1_isPlace : MethodName := ⟨RX1, "isPlace", "(I)Z"⟩
def RX2 : String := "HillLayers$Rock"
def TX2 : u_T := fun k => match k with
  | 0 => ("HillLayers$Rock", "columns", "I", true)
  | 1 => ("HillLayers$Rock", "surfaces", "I", true)
  | 2 => ("HillLayers$Rock", "thickFrom", "[I", true)
  | 3 => ("HillLayers$Rock", "thickTo", "[I", true)
  | 4 => ("HillLayers$Rock", "steepest", "[I", true)
  | 5 => ("HillLayers$Rock", "throwAfter", "[I", true)
  | _ => ("HillLayers$Rock", "brokenAfter", "[Z", true)
def tyX2 : Nat → FieldType := fun k => match k with
  | 0 => .int
  | 1 => .int
  | 2 => .array .int
  | 3 => .array .int
  | 4 => .array .int
  | 5 => .array .int
  | _ => .array .boolean
abbrev wsX20 : List Cond := u_ws RX2 TX2 7
theorem nmX2 : ∀ a, a < 7 → ∀ b, b < 7 → a ≠ b → (TX2 a).2.1 ≠ (TX2 b).2.1 := by decide +kernel
theorem tyX2_ok : ∀ k, k < 7 → parseFieldDescriptor (TX2 k).2.2.1 = some (tyX2 k) := by decide +kernel
abbrev cX2_init : ByteArray := prog_4_method_1_code
def yX2_init : MethodName := ⟨RX2, "<init>", "(II)V"⟩
abbrev cX2_columns : ByteArray := prog_4_method_2_code
def yX2_columns : MethodName := ⟨RX2, "columns", "()I"⟩
abbrev cX2_surfaces : ByteArray := prog_4_method_3_code
def yX2_surfaces : MethodName := ⟨RX2, "surfaces", "()I"⟩
abbrev cX2_places : ByteArray := prog_4_method_4_code
def yX2_places : MethodName := ⟨RX2, "places", "()I"⟩
abbrev cX2_hasSurface : ByteArray := prog_4_method_5_code
def yX2_hasSurface : MethodName := ⟨RX2, "hasSurface", "(I)Z"⟩
abbrev cX2_hasColumn : ByteArray := prog_4_method_6_code
def yX2_hasColumn : MethodName := ⟨RX2, "hasColumn", "(I)Z"⟩
abbrev cX2_hasNextColumn : ByteArray := prog_4_method_7_code
def yX2_hasNextColumn : MethodName := ⟨RX2, "hasNextColumn", "(I)Z"⟩
abbrev cX2_hasPlace : ByteArray := prog_4_method_8_code
def yX2_hasPlace : MethodName := ⟨RX2, "hasPlace", "(II)Z"⟩
abbrev cX2_placeOf : ByteArray := prog_4_method_9_code
def yX2_placeOf : MethodName := ⟨RX2, "placeOf", "(II)I"⟩
abbrev cX2_setThick : ByteArray := prog_4_method_10_code
def yX2_setThick : MethodName := ⟨RX2, "setThick", "(III)V"⟩
abbrev cX2_setSteep : ByteArray := prog_4_method_11_code
def yX2_setSteep : MethodName := ⟨RX2, "setSteep", "(II)V"⟩
abbrev cX2_breakAt : ByteArray := prog_4_method_12_code
def yX2_breakAt : MethodName := ⟨RX2, "breakAt", "(II)V"⟩
abbrev cX2_mendAt : ByteArray := prog_4_method_13_code
def yX2_mendAt : MethodName := ⟨RX2, "mendAt", "(I)V"⟩
abbrev cX2_isBroken : ByteArray := prog_4_method_14_code
def yX2_isBroken : MethodName := ⟨RX2, "isBroken", "(I)Z"⟩
abbrev cX2_faults : ByteArray := prog_4_method_15_code
def yX2_faults : MethodName := ⟨RX2, "faults", "()I"⟩
abbrev cX2_bind : ByteArray := prog_4_method_16_code
def yX2_bind : MethodName := ⟨RX2, "bind", "(LHillLayers$Gaps;)Z"⟩
abbrev cX2_bindThick : ByteArray := prog_4_method_17_code
def yX2_bindThick : MethodName := ⟨RX2, "bindThick", "(LHillLayers$Gaps;II)Z"⟩
abbrev cX2_bindStep : ByteArray := prog_4_method_18_code
def yX2_bindStep : MethodName := ⟨RX2, "bindStep", "(LHillLayers$Gaps;II)Z"⟩
def RX3 : String := "HillLayers$Sight"
def TX3 : u_T := fun k => match k with
  | 0 => ("HillLayers$Sight", "surface", "I", true)
  | 1 => ("HillLayers$Sight", "column", "I", true)
  | 2 => ("HillLayers$Sight", "kind", "I", true)
  | 3 => ("HillLayers$Sight", "z", "I", true)
  | _ => ("HillLayers$Sight", "miss", "I", true)
def tyX3 : Nat → FieldType := fun k => match k with
  | 0 => .int
  | 1 => .int
  | 2 => .int
  | 3 => .int
  | _ => .int
abbrev wsX30 : List Cond := u_ws RX3 TX3 5
theorem nmX3 : ∀ a, a < 5 → ∀ b, b < 5 → a ≠ b → (TX3 a).2.1 ≠ (TX3 b).2.1 := by decide +kernel
theorem tyX3_ok : ∀ k, k < 5 → parseFieldDescriptor (TX3 k).2.2.1 = some (tyX3 k) := by decide +kernel
abbrev cX3_init : ByteArray := prog_5_method_1_code
def yX3_init : MethodName := ⟨RX3, "<init>", "(IIIII)V"⟩
abbrev cX3_surface : ByteArray := prog_5_method_2_code
def yX3_surface : MethodName := ⟨RX3, "surface", "()I"⟩
abbrev cX3_column : ByteArray := prog_5_method_3_code
def yX3_column : MethodName := ⟨RX3, "column", "()I"⟩
abbrev cX3_kind : ByteArray := prog_5_method_4_code
def yX3_kind : MethodName := ⟨RX3, "kind", "()I"⟩
abbrev cX3_z : ByteArray := prog_5_method_5_code
def yX3_z : MethodName := ⟨RX3, "z", "()I"⟩
abbrev cX3_miss : ByteArray := prog_5_method_6_code
def yX3_miss : MethodName := ⟨RX3, "miss", "()I"⟩
abbrev cX3_bind : ByteArray := prog_5_method_7_code
def yX3_bind : MethodName := ⟨RX3, "bind", "(LHillLayers$Gaps;LHillLayers$Rock;)Z"⟩
def RX4 : String := "HillLayers$Sights"
def TX4 : u_T := fun k => match k with
  | 0 => ("HillLayers$Sights", "byNumber", "[LHillLayers$Sight;", true)
  | _ => ("HillLayers$Sights", "came", "I", false)
def tyX4 : Nat → FieldType := fun k => match k with
  | 0 => .array (.object "HillLayers$Sight")
  | _ => .int
abbrev wsX40 : List Cond := u_ws RX4 TX4 2
theorem nmX4 : ∀ a, a < 2 → ∀ b, b < 2 → a ≠ b → (TX4 a).2.1 ≠ (TX4 b).2.1 := by decide +kernel
theorem tyX4_ok : ∀ k, k < 2 → parseFieldDescriptor (TX4 k).2.2.1 = some (tyX4 k) := by decide +kernel
abbrev cX4_init : ByteArray := prog_6_method_1_code
def yX4_init : MethodName := ⟨RX4, "<init>", "()V"⟩
abbrev cX4_add : ByteArray := prog_6_method_2_code
def yX4_add : MethodName := ⟨RX4, "add", "(LHillLayers$Sight;)I"⟩
abbrev cX4_remove : ByteArray := prog_6_method_3_code
def yX4_remove : MethodName := ⟨RX4, "remove", "(I)Z"⟩
abbrev cX4_at : ByteArray := prog_6_method_4_code
def yX4_at : MethodName := ⟨RX4, "at", "(I)LHillLayers$Sight;"⟩
abbrev cX4_came : ByteArray := prog_6_method_5_code
def yX4_came : MethodName := ⟨RX4, "came", "()I"⟩
abbrev cX4_heap : ByteArray := prog_6_method_6_code
def yX4_heap : MethodName := ⟨RX4, "heap", "()I"⟩
def RX5 : String := "HillLayers"
def TX5 : u_T := fun k => match k with
  | 0 => ("HillLayers", "rock", "LHillLayers$Rock;", true)
  | 1 => ("HillLayers", "sights", "LHillLayers$Sights;", true)
  | 2 => ("HillLayers", "bodies", "LHillLayers$Bodies;", true)
  | _ => ("HillLayers", "grounds", "[I", true)
def tyX5 : Nat → FieldType := fun k => match k with
  | 0 => .object "HillLayers$Rock"
  | 1 => .object "HillLayers$Sights"
  | 2 => .object "HillLayers$Bodies"
  | _ => .array .int
abbrev wsX50 : List Cond := u_ws RX5 TX5 4
theorem nmX5 : ∀ a, a < 4 → ∀ b, b < 4 → a ≠ b → (TX5 a).2.1 ≠ (TX5 b).2.1 := by decide +kernel
theorem tyX5_ok : ∀ k, k < 4 → parseFieldDescriptor (TX5 k).2.2.1 = some (tyX5 k) := by decide +kernel
abbrev cX5_init : ByteArray := prog_1_method_1_code
def yX5_init : MethodName := ⟨RX5, "<init>", "(II)V"⟩
abbrev cX5_thick : ByteArray := prog_1_method_2_code
def yX5_thick : MethodName := ⟨RX5, "thick", "(III)Z"⟩
abbrev cX5_steep : ByteArray := prog_1_method_3_code
def yX5_steep : MethodName := ⟨RX5, "steep", "(II)Z"⟩
abbrev cX5_fault : ByteArray := prog_1_method_4_code
def yX5_fault : MethodName := ⟨RX5, "fault", "(II)Z"⟩
abbrev cX5_heal : ByteArray := prog_1_method_5_code
def yX5_heal : MethodName := ⟨RX5, "heal", "(I)Z"⟩
abbrev cX5_ground : ByteArray := prog_1_method_6_code
def yX5_ground : MethodName := ⟨RX5, "ground", "(II)Z"⟩
abbrev cX5_sight : ByteArray := prog_1_method_7_code
def yX5_sight : MethodName := ⟨RX5, "sight", "(III)I"⟩
abbrev cX5_take : ByteArray := prog_1_method_8_code
def yX5_take : MethodName := ⟨RX5, "take", "(I)Z"⟩
abbrev cX5_quarrel : ByteArray := prog_1_method_9_code
def yX5_quarrel : MethodName := ⟨RX5, "quarrel", "()I"⟩
abbrev cX5_span : ByteArray := prog_1_method_10_code
def yX5_span : MethodName := ⟨RX5, "span", "(III)I"⟩
abbrev cX5_open : ByteArray := prog_1_method_11_code
def yX5_open : MethodName := ⟨RX5, "open", "()I"⟩
abbrev cX5_layer : ByteArray := prog_1_method_12_code
def yX5_layer : MethodName := ⟨RX5, "layer", "(II)I"⟩
abbrev cX5_between : ByteArray := prog_1_method_13_code
def yX5_between : MethodName := ⟨RX5, "between", "(III)I"⟩
abbrev cX5_worn : ByteArray := prog_1_method_14_code
def yX5_worn : MethodName := ⟨RX5, "worn", "(II)I"⟩
abbrev cX5_tells : ByteArray := prog_1_method_15_code
def yX5_tells : MethodName := ⟨RX5, "tells", "(II)I"⟩
abbrev cX5_next : ByteArray := prog_1_method_16_code
def yX5_next : MethodName := ⟨RX5, "next", "()I"⟩
abbrev cX5_bend : ByteArray := prog_1_method_17_code
def yX5_bend : MethodName := ⟨RX5, "bend", "(I)I"⟩
abbrev cX5_told : ByteArray := prog_1_method_18_code
def yX5_told : MethodName := ⟨RX5, "told", "(II)I"⟩
abbrev cX5_count : ByteArray := prog_1_method_19_code
def yX5_count : MethodName := ⟨RX5, "count", "(I)I"⟩
abbrev cX5_isDepth : ByteArray := prog_1_method_20_code
def yX5_isDepth : MethodName := ⟨RX5, "isDepth", "(I)Z"⟩
abbrev cX5_isWithin : ByteArray := prog_1_method_21_code
def yX5_isWithin : MethodName := ⟨RX5, "isWithin", "(II)Z"⟩
abbrev cX5_isEnd : ByteArray := prog_1_method_22_code
def yX5_isEnd : MethodName := ⟨RX5, "isEnd", "(I)Z"⟩
abbrev cX5_isPlaceCode : ByteArray := prog_1_method_23_code
def yX5_isPlaceCode : MethodName := ⟨RX5, "isPlaceCode", "(I)Z"⟩
abbrev cX5_end : ByteArray := prog_1_method_24_code
def yX5_end : MethodName := ⟨RX5, "end", "(II)I"⟩
abbrev cX5_gain : ByteArray := prog_1_method_25_code
def yX5_gain : MethodName := ⟨RX5, "gain", "(I)I"⟩
def RX6 : String := "HillLayersModel"
def TX6 : u_T := fun k => match k with
  | 0 => ("HillLayersModel", "w", "I", true)
  | 1 => ("HillLayersModel", "s", "I", true)
  | 2 => ("HillLayersModel", "thickFrom", "[I", true)
  | 3 => ("HillLayersModel", "thickTo", "[I", true)
  | 4 => ("HillLayersModel", "steep", "[I", true)
  | 5 => ("HillLayersModel", "isFault", "[Z", true)
  | 6 => ("HillLayersModel", "thrown", "[I", true)
  | 7 => ("HillLayersModel", "ground", "[I", true)
  | 8 => ("HillLayersModel", "sights", "I", false)
  | 9 => ("HillLayersModel", "where", "[I", true)
  | 10 => ("HillLayersModel", "told", "[I", true)
  | 11 => ("HillLayersModel", "miss", "[I", true)
  | 12 => ("HillLayersModel", "isThere", "[Z", true)
  | 13 => ("HillLayersModel", "most", "[I", true)
  | 14 => ("HillLayersModel", "base", "[I", true)
  | 15 => ("HillLayersModel", "badWith", "[I", true)
  | 16 => ("HillLayersModel", "isReckoned", "Z", false)
  | 17 => ("HillLayersModel", "isHill", "Z", false)
  | _ => ("HillLayersModel", "quarrels", "I", false)
def tyX6 : Nat → FieldType := fun k => match k with
  | 0 => .int
  | 1 => .int
  | 2 => .array .int
  | 3 => .array .int
  | 4 => .array .int
  | 5 => .array .boolean
  | 6 => .array .int
  | 7 => .array .int
  | 8 => .int
  | 9 => .array .int
  | 10 => .array .int
  | 11 => .array .int
  | 12 => .array .boolean
  | 13 => .array .int
  | 14 => .array .int
  | 15 => .array .int
  | 16 => .boolean
  | 17 => .boolean
  | _ => .int
abbrev wsX60 : List Cond := u_ws RX6 TX6 19
theorem nmX6 : ∀ a, a < 19 → ∀ b, b < 19 → a ≠ b → (TX6 a).2.1 ≠ (TX6 b).2.1 := by decide +kernel
theorem tyX6_ok : ∀ k, k < 19 → parseFieldDescriptor (TX6 k).2.2.1 = some (tyX6 k) := by decide +kernel
abbrev cX6_init : ByteArray := prog_8_method_1_code
def yX6_init : MethodName := ⟨RX6, "<init>", "(II)V"⟩
abbrev cX6_in : ByteArray := prog_8_method_2_code
def yX6_in : MethodName := ⟨RX6, "in", "(III)Z"⟩
abbrev cX6_isPlace : ByteArray := prog_8_method_3_code
def yX6_isPlace : MethodName := ⟨RX6, "isPlace", "(II)Z"⟩
abbrev cX6_thick : ByteArray := prog_8_method_4_code
def yX6_thick : MethodName := ⟨RX6, "thick", "(III)Z"⟩
abbrev cX6_steep : ByteArray := prog_8_method_5_code
def yX6_steep : MethodName := ⟨RX6, "steep", "(II)Z"⟩
abbrev cX6_fault : ByteArray := prog_8_method_6_code
def yX6_fault : MethodName := ⟨RX6, "fault", "(II)Z"⟩
abbrev cX6_heal : ByteArray := prog_8_method_7_code
def yX6_heal : MethodName := ⟨RX6, "heal", "(I)Z"⟩
abbrev cX6_ground : ByteArray := prog_8_method_8_code
def yX6_ground : MethodName := ⟨RX6, "ground", "(II)Z"⟩
abbrev cX6_sight : ByteArray := prog_8_method_9_code
def yX6_sight : MethodName := ⟨RX6, "sight", "(III)I"⟩
abbrev cX6_isSight : ByteArray := prog_8_method_10_code
def yX6_isSight : MethodName := ⟨RX6, "isSight", "(I)Z"⟩
abbrev cX6_take : ByteArray := prog_8_method_11_code
def yX6_take : MethodName := ⟨RX6, "take", "(I)Z"⟩
abbrev cX6_node : ByteArray := prog_8_method_12_code
def yX6_node : MethodName := ⟨RX6, "node", "(II)I"⟩
abbrev cX6_bounds : ByteArray := prog_8_method_13_code
def yX6_bounds : MethodName := ⟨RX6, "bounds", "(III)V"⟩
abbrev cX6_within : ByteArray := prog_8_method_14_code
def yX6_within : MethodName := ⟨RX6, "within", "(IIII)V"⟩
abbrev cX6_stands : ByteArray := prog_8_method_15_code
def yX6_stands : MethodName := ⟨RX6, "stands", "()Z"⟩
abbrev cX6_adds : ByteArray := prog_8_method_16_code
def yX6_adds : MethodName := ⟨RX6, "adds", "(III)Z"⟩
abbrev cX6_addsWithin : ByteArray := prog_8_method_17_code
def yX6_addsWithin : MethodName := ⟨RX6, "addsWithin", "(IIII)Z"⟩
abbrev cX6_sees : ByteArray := prog_8_method_18_code
def yX6_sees : MethodName := ⟨RX6, "sees", "(I)Z"⟩
abbrev cX6_agrees : ByteArray := prog_8_method_19_code
def yX6_agrees : MethodName := ⟨RX6, "agrees", "(I)Z"⟩
abbrev cX6_pairs : ByteArray := prog_8_method_20_code
def yX6_pairs : MethodName := ⟨RX6, "pairs", "(I)V"⟩
abbrev cX6_bits : ByteArray := prog_8_method_21_code
def yX6_bits : MethodName := ⟨RX6, "bits", "(I)I"⟩
abbrev cX6_reckons : ByteArray := prog_8_method_22_code
def yX6_reckons : MethodName := ⟨RX6, "reckons", "()Z"⟩
abbrev cX6_found : ByteArray := prog_8_method_23_code
def yX6_found : MethodName := ⟨RX6, "found", "()Z"⟩
abbrev cX6_quarrel : ByteArray := prog_8_method_24_code
def yX6_quarrel : MethodName := ⟨RX6, "quarrel", "()I"⟩
abbrev cX6_high : ByteArray := prog_8_method_25_code
def yX6_high : MethodName := ⟨RX6, "high", "(I)I"⟩
abbrev cX6_low : ByteArray := prog_8_method_26_code
def yX6_low : MethodName := ⟨RX6, "low", "(I)I"⟩
abbrev cX6_span : ByteArray := prog_8_method_27_code
def yX6_span : MethodName := ⟨RX6, "span", "(III)I"⟩
abbrev cX6_opens : ByteArray := prog_8_method_28_code
def yX6_opens : MethodName := ⟨RX6, "opens", "()I"⟩
abbrev cX6_open : ByteArray := prog_8_method_29_code
def yX6_open : MethodName := ⟨RX6, "open", "()I"⟩
abbrev cX6_layer : ByteArray := prog_8_method_30_code
def yX6_layer : MethodName := ⟨RX6, "layer", "(II)I"⟩
abbrev cX6_between : ByteArray := prog_8_method_31_code
def yX6_between : MethodName := ⟨RX6, "between", "(III)I"⟩
abbrev cX6_worn : ByteArray := prog_8_method_32_code
def yX6_worn : MethodName := ⟨RX6, "worn", "(II)I"⟩
abbrev cX6_opensBy : ByteArray := prog_8_method_33_code
def yX6_opensBy : MethodName := ⟨RX6, "opensBy", "(II)I"⟩
abbrev cX6_tellsAt : ByteArray := prog_8_method_34_code
def yX6_tellsAt : MethodName := ⟨RX6, "tellsAt", "(I)I"⟩
abbrev cX6_tells : ByteArray := prog_8_method_35_code
def yX6_tells : MethodName := ⟨RX6, "tells", "(II)I"⟩
abbrev cX6_next : ByteArray := prog_8_method_36_code
def yX6_next : MethodName := ⟨RX6, "next", "()I"⟩
abbrev cX6_depth : ByteArray := prog_8_method_37_code
def yX6_depth : MethodName := ⟨RX6, "depth", "(III)I"⟩
abbrev cX6_bend : ByteArray := prog_8_method_38_code
def yX6_bend : MethodName := ⟨RX6, "bend", "(I)I"⟩
abbrev cX6_told : ByteArray := prog_8_method_39_code
def yX6_told : MethodName := ⟨RX6, "told", "(II)I"⟩
abbrev cX6_count : ByteArray := prog_8_method_40_code
def yX6_count : MethodName := ⟨RX6, "count", "(I)I"⟩
def RJ6 : String := "java/lang/Integer"
def TJ6 : u_T := fun k => match k with
  | _ => ("", "", "", false)
def tyJ6 : Nat → FieldType := fun k => match k with
  | _ => .int
abbrev wsJ60 : List Cond := u_ws RJ6 TJ6 0
theorem nmJ6 : ∀ a, a < 0 → ∀ b, b < 0 → a ≠ b → (TJ6 a).2.1 ≠ (TJ6 b).2.1 := by decide +kernel
theorem tyJ6_ok : ∀ k, k < 0 → parseFieldDescriptor (TJ6 k).2.2.1 = some (tyJ6 k) := by decide +kernel
abbrev cJ6_bitCount_0f7a4 : ByteArray := prog_9_method_49_code
def yJ6_bitCount_0f7a4 : MethodName := ⟨RJ6, "bitCount", "(I)I"⟩
def RJ9 : String := "java/lang/Math"
def TJ9 : u_T := fun k => match k with
  | _ => ("", "", "", false)
def tyJ9 : Nat → FieldType := fun k => match k with
  | _ => .int
abbrev wsJ90 : List Cond := u_ws RJ9 TJ9 0
theorem nmJ9 : ∀ a, a < 0 → ∀ b, b < 0 → a ≠ b → (TJ9 a).2.1 ≠ (TJ9 b).2.1 := by decide +kernel
theorem tyJ9_ok : ∀ k, k < 0 → parseFieldDescriptor (TJ9 k).2.2.1 = some (tyJ9 k) := by decide +kernel
abbrev cJ9_abs_0f7a4 : ByteArray := prog_10_method_59_code
def yJ9_abs_0f7a4 : MethodName := ⟨RJ9, "abs", "(I)I"⟩
abbrev cJ9_max_7cf53 : ByteArray := prog_10_method_65_code
def yJ9_max_7cf53 : MethodName := ⟨RJ9, "max", "(II)I"⟩
abbrev cJ9_min_7cf53 : ByteArray := prog_10_method_69_code
def yJ9_min_7cf53 : MethodName := ⟨RJ9, "min", "(II)I"⟩
def RJ10 : String := "java/lang/System"
def TJ10 : u_T := fun k => match k with
  | _ => ("", "", "", false)
def tyJ10 : Nat → FieldType := fun k => match k with
  | _ => .int
abbrev wsJ100 : List Cond := u_ws RJ10 TJ10 0
theorem nmJ10 : ∀ a, a < 0 → ∀ b, b < 0 → a ≠ b → (TJ10 a).2.1 ≠ (TJ10 b).2.1 := by decide +kernel
theorem tyJ10_ok : ∀ k, k < 0 → parseFieldDescriptor (TJ10 k).2.2.1 = some (tyJ10 k) := by decide +kernel
def RL : String := "HillLayersLaw"
abbrev cL_cell : ByteArray := method_2_code
def yL_cell : MethodName := ⟨RL, "cell", "([II)I"⟩
abbrev cL_law : ByteArray := code
def yL_law : MethodName := ⟨RL, "law", "([I)Z"⟩
abbrev vwCl : List vw_C := [(RX0, TX0, 9), (RX1, TX1, 2), (RX2, TX2, 7), (RX3, TX3, 5), (RX4, TX4, 2), (RX5, TX5, 4), (RX6, TX6, 19)]
end
section
def TG : List Cond := lw_tbl.filter goodWord
theorem TG_in {w : Cond} (h : w ∈ TG) : w ∈ lw_tbl := (List.mem_filter.mp h).1
theorem TG_good {w : Cond} (h : w ∈ TG) : goodWord w = true := (List.mem_filter.mp h).2
theorem tbl1 {w : Cond} (h : w ∈ tables_1_1) : w ∈ lw_tbl := List.mem_append_right _ (List.mem_append_left _ h)
theorem tbl2 {w : Cond} (h : w ∈ tables_1_2) : w ∈ lw_tbl := List.mem_append_right _ (List.mem_append_right _ (List.mem_append_left _ h))
theorem tbl3 {w : Cond} (h : w ∈ tables_1_3) : w ∈ lw_tbl := List.mem_append_right _ (List.mem_append_right _ (List.mem_append_right _ h))
theorem tb1 {w : Cond} (h : w ∈ tables_1_1) (g : goodWord w = true) : w ∈ TG := List.mem_filter.mpr ⟨tbl1 h, g⟩
theorem tb2 {w : Cond} (h : w ∈ tables_1_2) (g : goodWord w = true) : w ∈ TG := List.mem_filter.mpr ⟨tbl2 h, g⟩
theorem tb3 {w : Cond} (h : w ∈ tables_1_3) (g : goodWord w = true) : w ∈ TG := List.mem_filter.mpr ⟨tbl3 h, g⟩
theorem tbs {q : MethodName × Nat} (h : q ∈ lw_privs) : Cond.selects q.1.cls q.1 q.1 ∈ TG := List.mem_filter.mpr ⟨List.mem_append_left _ (List.mem_map.mpr ⟨q, h, rfl⟩), rfl⟩
theorem tbs1 {q : MethodName × Nat} (h : q ∈ lw_privs_1) : Cond.selects q.1.cls q.1 q.1 ∈ TG := tbs (List.mem_append_left _ h)
theorem tbs2 {q : MethodName × Nat} (h : q ∈ lw_privs_2) : Cond.selects q.1.cls q.1 q.1 ∈ TG := tbs (List.mem_append_right _ h)
theorem wI_L : Cond.initialized RL ∈ TG := tb1 (List.mem_of_getElem? (i := 0) rfl) rfl
theorem wI_X5 : Cond.initialized RX5 ∈ TG := tb1 (List.mem_of_getElem? (i := 1) rfl) rfl
theorem wI_J9 : Cond.initialized RJ9 ∈ TG := tb1 (List.mem_of_getElem? (i := 2) rfl) rfl
theorem wI_Math : Cond.initialized "java/lang/Math" ∈ TG := tb1 (List.mem_of_getElem? (i := 2) rfl) rfl
theorem wI_X2 : Cond.initialized RX2 ∈ TG := tb1 (List.mem_of_getElem? (i := 3) rfl) rfl
theorem wI_X4 : Cond.initialized RX4 ∈ TG := tb1 (List.mem_of_getElem? (i := 4) rfl) rfl
theorem wI_X0 : Cond.initialized RX0 ∈ TG := tb1 (List.mem_of_getElem? (i := 5) rfl) rfl
theorem wI_X1 : Cond.initialized RX1 ∈ TG := tb1 (List.mem_of_getElem? (i := 6) rfl) rfl
theorem wI_X6 : Cond.initialized RX6 ∈ TG := tb1 (List.mem_of_getElem? (i := 7) rfl) rfl
theorem wI_X3 : Cond.initialized RX3 ∈ TG := tb1 (List.mem_of_getElem? (i := 8) rfl) rfl
theorem wI_J10 : Cond.initialized RJ10 ∈ TG := tb1 (List.mem_of_getElem? (i := 9) rfl) rfl
theorem wI_System : Cond.initialized "java/lang/System" ∈ TG := tb1 (List.mem_of_getElem? (i := 9) rfl) rfl
theorem wI_J6 : Cond.initialized RJ6 ∈ TG := tb1 (List.mem_of_getElem? (i := 10) rfl) rfl
theorem wk_L_7 : Cond.classLink RL 7 RX5 ∈ TG := tb1 (List.mem_of_getElem? (i := 11) rfl) rfl
theorem wN_X5 : Cond.instantiable RX5 4 ∈ TG := tb1 (List.mem_of_getElem? (i := 12) rfl) rfl
theorem wl_L_15 : Cond.methodLink RL 15 yX5_init ∈ TG := tb1 (List.mem_of_getElem? (i := 13) rfl) rfl
theorem wi_X5_init : Cond.instanceMethod yX5_init ∈ TG := tb1 (List.mem_of_getElem? (i := 14) rfl) rfl
theorem wc_X5_init : Cond.code yX5_init cX5_init 5 none ∈ TG := tb1 (List.mem_of_getElem? (i := 15) rfl) rfl
theorem wl_X5_1 : Cond.methodLink RX5 1 objectInit ∈ TG := tb1 (List.mem_of_getElem? (i := 16) rfl) rfl
theorem wi_objinit : Cond.instanceMethod objectInit ∈ TG := tb1 (List.mem_of_getElem? (i := 17) rfl) rfl
theorem wc_objinit : Cond.code objectInit ⟨#[0xb1]⟩ 1 none ∈ TG := tb1 (List.mem_of_getElem? (i := 18) rfl) rfl
theorem wl_X5_7 : Cond.methodLink RX5 7 Lib.Math.min.name ∈ TG := tb1 (List.mem_of_getElem? (i := 19) rfl) rfl
theorem ws_Math_min : Cond.static Lib.Math.min.name ∈ TG := tb1 (List.mem_of_getElem? (i := 20) rfl) rfl
theorem wc_Math_min : Cond.code Lib.Math.min.name Lib.Math.min.code 2 (some .int) ∈ TG := tb1 (List.mem_of_getElem? (i := 21) rfl) rfl
theorem wl_X5_13 : Cond.methodLink RX5 13 Lib.Math.max.name ∈ TG := tb1 (List.mem_of_getElem? (i := 22) rfl) rfl
theorem ws_Math_max : Cond.static Lib.Math.max.name ∈ TG := tb1 (List.mem_of_getElem? (i := 23) rfl) rfl
theorem wc_Math_max : Cond.code Lib.Math.max.name Lib.Math.max.code 2 (some .int) ∈ TG := tb1 (List.mem_of_getElem? (i := 24) rfl) rfl
theorem wk_X5_16 : Cond.classLink RX5 16 RX2 ∈ TG := tb1 (List.mem_of_getElem? (i := 25) rfl) rfl
theorem wN_X2 : Cond.instantiable RX2 7 ∈ TG := tb1 (List.mem_of_getElem? (i := 26) rfl) rfl
theorem wl_X5_18 : Cond.methodLink RX5 18 yX2_init ∈ TG := tb1 (List.mem_of_getElem? (i := 27) rfl) rfl
theorem wi_X2_init : Cond.instanceMethod yX2_init ∈ TG := tb1 (List.mem_of_getElem? (i := 28) rfl) rfl
theorem wc_X2_init : Cond.code yX2_init cX2_init 4 none ∈ TG := tb1 (List.mem_of_getElem? (i := 29) rfl) rfl
theorem wl_X2_3 : Cond.methodLink RX2 3 objectInit ∈ TG := tb1 (List.mem_of_getElem? (i := 30) rfl) rfl
theorem wl_X2_9 : Cond.methodLink RX2 9 Lib.Math.max.name ∈ TG := tb1 (List.mem_of_getElem? (i := 31) rfl) rfl
theorem wf_X2_15 : Cond.fieldLink RX2 15 "HillLayers$Rock" "columns" "I" ∈ TG := tb1 (List.mem_of_getElem? (i := 32) rfl) rfl
theorem wf_X2_21 : Cond.fieldLink RX2 21 "HillLayers$Rock" "surfaces" "I" ∈ TG := tb1 (List.mem_of_getElem? (i := 33) rfl) rfl
theorem wf_X2_24 : Cond.fieldLink RX2 24 "HillLayers$Rock" "thickFrom" "[I" ∈ TG := tb1 (List.mem_of_getElem? (i := 34) rfl) rfl
theorem wf_X2_28 : Cond.fieldLink RX2 28 "HillLayers$Rock" "thickTo" "[I" ∈ TG := tb1 (List.mem_of_getElem? (i := 35) rfl) rfl
theorem wf_X2_31 : Cond.fieldLink RX2 31 "HillLayers$Rock" "steepest" "[I" ∈ TG := tb1 (List.mem_of_getElem? (i := 36) rfl) rfl
theorem wf_X2_34 : Cond.fieldLink RX2 34 "HillLayers$Rock" "throwAfter" "[I" ∈ TG := tb1 (List.mem_of_getElem? (i := 37) rfl) rfl
theorem wf_X2_37 : Cond.fieldLink RX2 37 "HillLayers$Rock" "brokenAfter" "[Z" ∈ TG := tb1 (List.mem_of_getElem? (i := 38) rfl) rfl
theorem wa_int : Cond.arrayClass .int ∈ TG := tb1 (List.mem_of_getElem? (i := 54) rfl) rfl
theorem wa_boolean : Cond.arrayClass .boolean ∈ TG := tb1 (List.mem_of_getElem? (i := 55) rfl) rfl
theorem wk_X5_27 : Cond.classLink RX5 27 RX4 ∈ TG := tb1 (List.mem_of_getElem? (i := 56) rfl) rfl
theorem wN_X4 : Cond.instantiable RX4 2 ∈ TG := tb1 (List.mem_of_getElem? (i := 57) rfl) rfl
theorem wn_X5_29 : Cond.methodLinkNest RX5 29 yX4_init RX5 ∈ lw_tbl := tbl1 (List.mem_of_getElem? (i := 58) rfl)
theorem wi_X4_init : Cond.instanceMethod yX4_init ∈ TG := tb1 (List.mem_of_getElem? (i := 59) rfl) rfl
theorem wc_X4_init : Cond.code yX4_init cX4_init 1 none ∈ TG := tb1 (List.mem_of_getElem? (i := 60) rfl) rfl
theorem wl_X4_3 : Cond.methodLink RX4 3 objectInit ∈ TG := tb1 (List.mem_of_getElem? (i := 61) rfl) rfl
theorem wk_X4_9 : Cond.classLink RX4 9 RX3 ∈ TG := tb1 (List.mem_of_getElem? (i := 62) rfl) rfl
theorem wo_X3 : Cond.arrayOver (.object RX3) ∈ lw_tbl := tbl1 (List.mem_of_getElem? (i := 63) rfl)
theorem wf_X4_11 : Cond.fieldLink RX4 11 "HillLayers$Sights" "byNumber" "[LHillLayers$Sight;" ∈ TG := tb1 (List.mem_of_getElem? (i := 64) rfl) rfl
theorem wf_X4_17 : Cond.fieldLink RX4 17 "HillLayers$Sights" "came" "I" ∈ TG := tb1 (List.mem_of_getElem? (i := 65) rfl) rfl
theorem wk_X5_34 : Cond.classLink RX5 34 RX0 ∈ TG := tb1 (List.mem_of_getElem? (i := 71) rfl) rfl
theorem wN_X0 : Cond.instantiable RX0 9 ∈ TG := tb1 (List.mem_of_getElem? (i := 72) rfl) rfl
theorem wl_X5_36 : Cond.methodLink RX5 36 yX0_init ∈ TG := tb1 (List.mem_of_getElem? (i := 73) rfl) rfl
theorem wi_X0_init : Cond.instanceMethod yX0_init ∈ TG := tb1 (List.mem_of_getElem? (i := 74) rfl) rfl
theorem wc_X0_init : Cond.code yX0_init cX0_init 4 none ∈ TG := tb1 (List.mem_of_getElem? (i := 75) rfl) rfl
theorem wl_X0_3 : Cond.methodLink RX0 3 objectInit ∈ TG := tb1 (List.mem_of_getElem? (i := 76) rfl) rfl
theorem wk_X0_9 : Cond.classLink RX0 9 RX1 ∈ TG := tb1 (List.mem_of_getElem? (i := 77) rfl) rfl
theorem wo_X1 : Cond.arrayOver (.object RX1) ∈ lw_tbl := tbl1 (List.mem_of_getElem? (i := 78) rfl)
theorem wN_X1 : Cond.instantiable RX1 2 ∈ TG := tb1 (List.mem_of_getElem? (i := 79) rfl) rfl
theorem wl_X0_39 : Cond.methodLink RX0 39 yX2_places ∈ TG := tb1 (List.mem_of_getElem? (i := 80) rfl) rfl
theorem wi_X2_places : Cond.instanceMethod yX2_places ∈ TG := tb1 (List.mem_of_getElem? (i := 81) rfl) rfl
theorem wse_X2_places : Cond.selects RX2 yX2_places yX2_places ∈ TG := tb1 (List.mem_of_getElem? (i := 82) rfl) rfl
theorem wc_X2_places : Cond.code yX2_places cX2_places 1 (some .int) ∈ TG := tb1 (List.mem_of_getElem? (i := 83) rfl) rfl
theorem wl_X0_45 : Cond.methodLink RX0 45 yX1_init ∈ TG := tb1 (List.mem_of_getElem? (i := 84) rfl) rfl
theorem wi_X1_init : Cond.instanceMethod yX1_init ∈ TG := tb1 (List.mem_of_getElem? (i := 85) rfl) rfl
theorem wc_X1_init : Cond.code yX1_init cX1_init 2 none ∈ TG := tb1 (List.mem_of_getElem? (i := 86) rfl) rfl
theorem wl_X1_3 : Cond.methodLink RX1 3 objectInit ∈ TG := tb1 (List.mem_of_getElem? (i := 87) rfl) rfl
theorem wl_X1_9 : Cond.methodLink RX1 9 Lib.Math.max.name ∈ TG := tb1 (List.mem_of_getElem? (i := 88) rfl) rfl
theorem wf_X1_15 : Cond.fieldLink RX1 15 "HillLayers$Gaps" "size" "I" ∈ TG := tb1 (List.mem_of_getElem? (i := 89) rfl) rfl
theorem wf_X1_21 : Cond.fieldLink RX1 21 "HillLayers$Gaps" "widths" "[I" ∈ TG := tb1 (List.mem_of_getElem? (i := 90) rfl) rfl
theorem wf_X0_31 : Cond.fieldLink RX0 31 "HillLayers$Bodies" "rock" "LHillLayers$Rock;" ∈ TG := tb1 (List.mem_of_getElem? (i := 96) rfl) rfl
theorem wf_X0_35 : Cond.fieldLink RX0 35 "HillLayers$Bodies" "sights" "LHillLayers$Sights;" ∈ TG := tb1 (List.mem_of_getElem? (i := 97) rfl) rfl
theorem wf_X0_11 : Cond.fieldLink RX0 11 "HillLayers$Bodies" "steps" "[LHillLayers$Gaps;" ∈ TG := tb1 (List.mem_of_getElem? (i := 98) rfl) rfl
theorem wf_X0_48 : Cond.fieldLink RX0 48 "HillLayers$Bodies" "withoutSights" "LHillLayers$Gaps;" ∈ TG := tb1 (List.mem_of_getElem? (i := 99) rfl) rfl
theorem wf_X0_52 : Cond.fieldLink RX0 52 "HillLayers$Bodies" "agreed" "LHillLayers$Gaps;" ∈ TG := tb1 (List.mem_of_getElem? (i := 100) rfl) rfl
theorem wf_X0_17 : Cond.fieldLink RX0 17 "HillLayers$Bodies" "rockIsBound" "Z" ∈ TG := tb1 (List.mem_of_getElem? (i := 101) rfl) rfl
theorem wf_X0_21 : Cond.fieldLink RX0 21 "HillLayers$Bodies" "quarrelIsFound" "Z" ∈ TG := tb1 (List.mem_of_getElem? (i := 102) rfl) rfl
theorem wf_X0_24 : Cond.fieldLink RX0 24 "HillLayers$Bodies" "hillStands" "Z" ∈ TG := tb1 (List.mem_of_getElem? (i := 103) rfl) rfl
theorem wf_X0_27 : Cond.fieldLink RX0 27 "HillLayers$Bodies" "leftOut" "I" ∈ TG := tb1 (List.mem_of_getElem? (i := 104) rfl) rfl
theorem wf_X5_21 : Cond.fieldLink RX5 21 "HillLayers" "rock" "LHillLayers$Rock;" ∈ TG := tb1 (List.mem_of_getElem? (i := 124) rfl) rfl
theorem wf_X5_30 : Cond.fieldLink RX5 30 "HillLayers" "sights" "LHillLayers$Sights;" ∈ TG := tb1 (List.mem_of_getElem? (i := 125) rfl) rfl
theorem wf_X5_39 : Cond.fieldLink RX5 39 "HillLayers" "bodies" "LHillLayers$Bodies;" ∈ TG := tb1 (List.mem_of_getElem? (i := 126) rfl) rfl
theorem wf_X5_43 : Cond.fieldLink RX5 43 "HillLayers" "grounds" "[I" ∈ TG := tb1 (List.mem_of_getElem? (i := 127) rfl) rfl
theorem wl_L_21 : Cond.methodLink RL 21 yX5_thick ∈ TG := tb1 (List.mem_of_getElem? (i := 137) rfl) rfl
theorem wi_X5_thick : Cond.instanceMethod yX5_thick ∈ TG := tb1 (List.mem_of_getElem? (i := 138) rfl) rfl
theorem wse_X5_thick : Cond.selects RX5 yX5_thick yX5_thick ∈ TG := tb1 (List.mem_of_getElem? (i := 139) rfl) rfl
theorem wc_X5_thick : Cond.code yX5_thick cX5_thick 4 (some .boolean) ∈ TG := tb1 (List.mem_of_getElem? (i := 140) rfl) rfl
theorem wl_X5_47 : Cond.methodLink RX5 47 yX2_hasSurface ∈ TG := tb1 (List.mem_of_getElem? (i := 141) rfl) rfl
theorem wi_X2_hasSurface : Cond.instanceMethod yX2_hasSurface ∈ TG := tb1 (List.mem_of_getElem? (i := 142) rfl) rfl
theorem wse_X2_hasSurface : Cond.selects RX2 yX2_hasSurface yX2_hasSurface ∈ TG := tb1 (List.mem_of_getElem? (i := 143) rfl) rfl
theorem wc_X2_hasSurface : Cond.code yX2_hasSurface cX2_hasSurface 2 (some .boolean) ∈ TG := tb1 (List.mem_of_getElem? (i := 144) rfl) rfl
theorem wl_X5_51 : Cond.methodLink RX5 51 yX5_isDepth ∈ TG := tb1 (List.mem_of_getElem? (i := 145) rfl) rfl
theorem ws_X5_isDepth : Cond.static yX5_isDepth ∈ TG := tb1 (List.mem_of_getElem? (i := 146) rfl) rfl
theorem wc_X5_isDepth : Cond.code yX5_isDepth cX5_isDepth 1 (some .boolean) ∈ TG := tb1 (List.mem_of_getElem? (i := 147) rfl) rfl
theorem wl_X5_54 : Cond.methodLink RX5 54 yX2_setThick ∈ TG := tb1 (List.mem_of_getElem? (i := 148) rfl) rfl
theorem wi_X2_setThick : Cond.instanceMethod yX2_setThick ∈ TG := tb1 (List.mem_of_getElem? (i := 149) rfl) rfl
theorem wse_X2_setThick : Cond.selects RX2 yX2_setThick yX2_setThick ∈ TG := tb1 (List.mem_of_getElem? (i := 150) rfl) rfl
theorem wc_X2_setThick : Cond.code yX2_setThick cX2_setThick 4 none ∈ TG := tb1 (List.mem_of_getElem? (i := 151) rfl) rfl
theorem wl_X2_41 : Cond.methodLink RX2 41 yX2_hasSurface ∈ TG := tb1 (List.mem_of_getElem? (i := 152) rfl) rfl
theorem wl_X5_58 : Cond.methodLink RX5 58 yX0_forgetRock ∈ TG := tb1 (List.mem_of_getElem? (i := 153) rfl) rfl
theorem wi_X0_forgetRock : Cond.instanceMethod yX0_forgetRock ∈ TG := tb1 (List.mem_of_getElem? (i := 154) rfl) rfl
theorem wse_X0_forgetRock : Cond.selects RX0 yX0_forgetRock yX0_forgetRock ∈ TG := tb1 (List.mem_of_getElem? (i := 155) rfl) rfl
theorem wc_X0_forgetRock : Cond.code yX0_forgetRock cX0_forgetRock 1 none ∈ TG := tb1 (List.mem_of_getElem? (i := 156) rfl) rfl
theorem wl_L_26 : Cond.methodLink RL 26 yX5_steep ∈ TG := tb1 (List.mem_of_getElem? (i := 157) rfl) rfl
theorem wi_X5_steep : Cond.instanceMethod yX5_steep ∈ TG := tb1 (List.mem_of_getElem? (i := 158) rfl) rfl
theorem wse_X5_steep : Cond.selects RX5 yX5_steep yX5_steep ∈ TG := tb1 (List.mem_of_getElem? (i := 159) rfl) rfl
theorem wc_X5_steep : Cond.code yX5_steep cX5_steep 3 (some .boolean) ∈ TG := tb1 (List.mem_of_getElem? (i := 160) rfl) rfl
theorem wl_X5_61 : Cond.methodLink RX5 61 yX2_setSteep ∈ TG := tb1 (List.mem_of_getElem? (i := 161) rfl) rfl
theorem wi_X2_setSteep : Cond.instanceMethod yX2_setSteep ∈ TG := tb1 (List.mem_of_getElem? (i := 162) rfl) rfl
theorem wse_X2_setSteep : Cond.selects RX2 yX2_setSteep yX2_setSteep ∈ TG := tb1 (List.mem_of_getElem? (i := 163) rfl) rfl
theorem wc_X2_setSteep : Cond.code yX2_setSteep cX2_setSteep 3 none ∈ TG := tb1 (List.mem_of_getElem? (i := 164) rfl) rfl
theorem wl_L_31 : Cond.methodLink RL 31 yX5_fault ∈ TG := tb1 (List.mem_of_getElem? (i := 165) rfl) rfl
theorem wi_X5_fault : Cond.instanceMethod yX5_fault ∈ TG := tb1 (List.mem_of_getElem? (i := 166) rfl) rfl
theorem wse_X5_fault : Cond.selects RX5 yX5_fault yX5_fault ∈ TG := tb1 (List.mem_of_getElem? (i := 167) rfl) rfl
theorem wc_X5_fault : Cond.code yX5_fault cX5_fault 3 (some .boolean) ∈ TG := tb1 (List.mem_of_getElem? (i := 168) rfl) rfl
theorem wl_X5_64 : Cond.methodLink RX5 64 yX2_hasNextColumn ∈ TG := tb1 (List.mem_of_getElem? (i := 169) rfl) rfl
theorem wi_X2_hasNextColumn : Cond.instanceMethod yX2_hasNextColumn ∈ TG := tb1 (List.mem_of_getElem? (i := 170) rfl) rfl
theorem wse_X2_hasNextColumn : Cond.selects RX2 yX2_hasNextColumn yX2_hasNextColumn ∈ TG := tb1 (List.mem_of_getElem? (i := 171) rfl) rfl
theorem wc_X2_hasNextColumn : Cond.code yX2_hasNextColumn cX2_hasNextColumn 2 (some .boolean) ∈ TG := tb1 (List.mem_of_getElem? (i := 172) rfl) rfl
theorem wl_X5_67 : Cond.methodLink RX5 67 yX5_isWithin ∈ TG := tb1 (List.mem_of_getElem? (i := 173) rfl) rfl
theorem ws_X5_isWithin : Cond.static yX5_isWithin ∈ TG := tb1 (List.mem_of_getElem? (i := 174) rfl) rfl
theorem wc_X5_isWithin : Cond.code yX5_isWithin cX5_isWithin 2 (some .boolean) ∈ TG := tb1 (List.mem_of_getElem? (i := 175) rfl) rfl
theorem wl_X5_71 : Cond.methodLink RX5 71 yX2_breakAt ∈ TG := tb1 (List.mem_of_getElem? (i := 176) rfl) rfl
theorem wi_X2_breakAt : Cond.instanceMethod yX2_breakAt ∈ TG := tb1 (List.mem_of_getElem? (i := 177) rfl) rfl
theorem wse_X2_breakAt : Cond.selects RX2 yX2_breakAt yX2_breakAt ∈ TG := tb1 (List.mem_of_getElem? (i := 178) rfl) rfl
theorem wc_X2_breakAt : Cond.code yX2_breakAt cX2_breakAt 3 none ∈ TG := tb1 (List.mem_of_getElem? (i := 179) rfl) rfl
theorem wl_X2_50 : Cond.methodLink RX2 50 yX2_hasNextColumn ∈ TG := tb1 (List.mem_of_getElem? (i := 180) rfl) rfl
theorem wl_L_35 : Cond.methodLink RL 35 yX5_heal ∈ TG := tb1 (List.mem_of_getElem? (i := 181) rfl) rfl
theorem wi_X5_heal : Cond.instanceMethod yX5_heal ∈ TG := tb1 (List.mem_of_getElem? (i := 182) rfl) rfl
theorem wse_X5_heal : Cond.selects RX5 yX5_heal yX5_heal ∈ TG := tb1 (List.mem_of_getElem? (i := 183) rfl) rfl
theorem wc_X5_heal : Cond.code yX5_heal cX5_heal 2 (some .boolean) ∈ TG := tb1 (List.mem_of_getElem? (i := 184) rfl) rfl
theorem wl_X5_74 : Cond.methodLink RX5 74 yX2_isBroken ∈ TG := tb1 (List.mem_of_getElem? (i := 185) rfl) rfl
theorem wi_X2_isBroken : Cond.instanceMethod yX2_isBroken ∈ TG := tb1 (List.mem_of_getElem? (i := 186) rfl) rfl
theorem wse_X2_isBroken : Cond.selects RX2 yX2_isBroken yX2_isBroken ∈ TG := tb1 (List.mem_of_getElem? (i := 187) rfl) rfl
theorem wc_X2_isBroken : Cond.code yX2_isBroken cX2_isBroken 2 (some .boolean) ∈ TG := tb1 (List.mem_of_getElem? (i := 188) rfl) rfl
theorem wl_X5_77 : Cond.methodLink RX5 77 yX2_mendAt ∈ TG := tb1 (List.mem_of_getElem? (i := 189) rfl) rfl
theorem wi_X2_mendAt : Cond.instanceMethod yX2_mendAt ∈ TG := tb1 (List.mem_of_getElem? (i := 190) rfl) rfl
theorem wse_X2_mendAt : Cond.selects RX2 yX2_mendAt yX2_mendAt ∈ TG := tb1 (List.mem_of_getElem? (i := 191) rfl) rfl
theorem wc_X2_mendAt : Cond.code yX2_mendAt cX2_mendAt 2 none ∈ TG := tb1 (List.mem_of_getElem? (i := 192) rfl) rfl
theorem wl_L_40 : Cond.methodLink RL 40 yX5_ground ∈ TG := tb1 (List.mem_of_getElem? (i := 193) rfl) rfl
theorem wi_X5_ground : Cond.instanceMethod yX5_ground ∈ TG := tb1 (List.mem_of_getElem? (i := 194) rfl) rfl
theorem wse_X5_ground : Cond.selects RX5 yX5_ground yX5_ground ∈ TG := tb1 (List.mem_of_getElem? (i := 195) rfl) rfl
theorem wc_X5_ground : Cond.code yX5_ground cX5_ground 3 (some .boolean) ∈ TG := tb1 (List.mem_of_getElem? (i := 196) rfl) rfl
theorem wl_L_44 : Cond.methodLink RL 44 yX5_sight ∈ TG := tb1 (List.mem_of_getElem? (i := 197) rfl) rfl
theorem wi_X5_sight : Cond.instanceMethod yX5_sight ∈ TG := tb1 (List.mem_of_getElem? (i := 198) rfl) rfl
theorem wse_X5_sight : Cond.selects RX5 yX5_sight yX5_sight ∈ TG := tb1 (List.mem_of_getElem? (i := 199) rfl) rfl
theorem wc_X5_sight : Cond.code yX5_sight cX5_sight 8 (some .int) ∈ TG := tb1 (List.mem_of_getElem? (i := 200) rfl) rfl
theorem wl_X5_81 : Cond.methodLink RX5 81 yX2_hasPlace ∈ TG := tb1 (List.mem_of_getElem? (i := 201) rfl) rfl
theorem wi_X2_hasPlace : Cond.instanceMethod yX2_hasPlace ∈ TG := tb1 (List.mem_of_getElem? (i := 202) rfl) rfl
theorem wse_X2_hasPlace : Cond.selects RX2 yX2_hasPlace yX2_hasPlace ∈ TG := tb1 (List.mem_of_getElem? (i := 203) rfl) rfl
theorem wc_X2_hasPlace : Cond.code yX2_hasPlace cX2_hasPlace 3 (some .boolean) ∈ TG := tb1 (List.mem_of_getElem? (i := 204) rfl) rfl
theorem wl_X2_45 : Cond.methodLink RX2 45 yX2_hasColumn ∈ TG := tb1 (List.mem_of_getElem? (i := 205) rfl) rfl
theorem wi_X2_hasColumn : Cond.instanceMethod yX2_hasColumn ∈ TG := tb1 (List.mem_of_getElem? (i := 206) rfl) rfl
theorem wse_X2_hasColumn : Cond.selects RX2 yX2_hasColumn yX2_hasColumn ∈ TG := tb1 (List.mem_of_getElem? (i := 207) rfl) rfl
theorem wc_X2_hasColumn : Cond.code yX2_hasColumn cX2_hasColumn 2 (some .boolean) ∈ TG := tb1 (List.mem_of_getElem? (i := 208) rfl) rfl
theorem wk_X5_84 : Cond.classLink RX5 84 RX3 ∈ TG := tb1 (List.mem_of_getElem? (i := 209) rfl) rfl
theorem wN_X3 : Cond.instantiable RX3 5 ∈ TG := tb1 (List.mem_of_getElem? (i := 210) rfl) rfl
theorem wl_X5_86 : Cond.methodLink RX5 86 yX3_init ∈ TG := tb1 (List.mem_of_getElem? (i := 211) rfl) rfl
theorem wi_X3_init : Cond.instanceMethod yX3_init ∈ TG := tb1 (List.mem_of_getElem? (i := 212) rfl) rfl
theorem wc_X3_init : Cond.code yX3_init cX3_init 6 none ∈ TG := tb1 (List.mem_of_getElem? (i := 213) rfl) rfl
theorem wl_X3_3 : Cond.methodLink RX3 3 objectInit ∈ TG := tb1 (List.mem_of_getElem? (i := 214) rfl) rfl
theorem wf_X3_9 : Cond.fieldLink RX3 9 "HillLayers$Sight" "surface" "I" ∈ TG := tb1 (List.mem_of_getElem? (i := 215) rfl) rfl
theorem wf_X3_15 : Cond.fieldLink RX3 15 "HillLayers$Sight" "column" "I" ∈ TG := tb1 (List.mem_of_getElem? (i := 216) rfl) rfl
theorem wf_X3_18 : Cond.fieldLink RX3 18 "HillLayers$Sight" "kind" "I" ∈ TG := tb1 (List.mem_of_getElem? (i := 217) rfl) rfl
theorem wf_X3_21 : Cond.fieldLink RX3 21 "HillLayers$Sight" "z" "I" ∈ TG := tb1 (List.mem_of_getElem? (i := 218) rfl) rfl
theorem wf_X3_24 : Cond.fieldLink RX3 24 "HillLayers$Sight" "miss" "I" ∈ TG := tb1 (List.mem_of_getElem? (i := 219) rfl) rfl
theorem wl_X5_89 : Cond.methodLink RX5 89 yX4_add ∈ TG := tb1 (List.mem_of_getElem? (i := 231) rfl) rfl
theorem wi_X4_add : Cond.instanceMethod yX4_add ∈ TG := tb1 (List.mem_of_getElem? (i := 232) rfl) rfl
theorem wse_X4_add : Cond.selects RX4 yX4_add yX4_add ∈ TG := tb1 (List.mem_of_getElem? (i := 233) rfl) rfl
theorem wc_X4_add : Cond.code yX4_add cX4_add 2 (some .int) ∈ TG := tb1 (List.mem_of_getElem? (i := 234) rfl) rfl
theorem wl_X5_93 : Cond.methodLink RX5 93 yX0_forgetQuarrel ∈ TG := tb1 (List.mem_of_getElem? (i := 235) rfl) rfl
theorem wi_X0_forgetQuarrel : Cond.instanceMethod yX0_forgetQuarrel ∈ TG := tb1 (List.mem_of_getElem? (i := 236) rfl) rfl
theorem wse_X0_forgetQuarrel : Cond.selects RX0 yX0_forgetQuarrel yX0_forgetQuarrel ∈ TG := tb1 (List.mem_of_getElem? (i := 237) rfl) rfl
theorem wc_X0_forgetQuarrel : Cond.code yX0_forgetQuarrel cX0_forgetQuarrel 1 none ∈ TG := tb1 (List.mem_of_getElem? (i := 238) rfl) rfl
theorem wl_L_49 : Cond.methodLink RL 49 yX5_take ∈ TG := tb1 (List.mem_of_getElem? (i := 239) rfl) rfl
theorem wi_X5_take : Cond.instanceMethod yX5_take ∈ TG := tb2 (List.mem_of_getElem? (i := 0) rfl) rfl
theorem wse_X5_take : Cond.selects RX5 yX5_take yX5_take ∈ TG := tb2 (List.mem_of_getElem? (i := 1) rfl) rfl
theorem wc_X5_take : Cond.code yX5_take cX5_take 2 (some .boolean) ∈ TG := tb2 (List.mem_of_getElem? (i := 2) rfl) rfl
theorem wl_X5_96 : Cond.methodLink RX5 96 yX4_remove ∈ TG := tb2 (List.mem_of_getElem? (i := 3) rfl) rfl
theorem wi_X4_remove : Cond.instanceMethod yX4_remove ∈ TG := tb2 (List.mem_of_getElem? (i := 4) rfl) rfl
theorem wse_X4_remove : Cond.selects RX4 yX4_remove yX4_remove ∈ TG := tb2 (List.mem_of_getElem? (i := 5) rfl) rfl
theorem wc_X4_remove : Cond.code yX4_remove cX4_remove 2 (some .boolean) ∈ TG := tb2 (List.mem_of_getElem? (i := 6) rfl) rfl
theorem wl_X4_21 : Cond.methodLink RX4 21 yX4_at ∈ TG := tb2 (List.mem_of_getElem? (i := 7) rfl) rfl
theorem wi_X4_at : Cond.instanceMethod yX4_at ∈ TG := tb2 (List.mem_of_getElem? (i := 8) rfl) rfl
theorem wse_X4_at : Cond.selects RX4 yX4_at yX4_at ∈ TG := tb2 (List.mem_of_getElem? (i := 9) rfl) rfl
theorem wc_X4_at : Cond.code yX4_at cX4_at 2 (some (.object "HillLayers$Sight")) ∈ TG := tb2 (List.mem_of_getElem? (i := 10) rfl) rfl
theorem wl_L_53 : Cond.methodLink RL 53 yX5_quarrel ∈ TG := tb2 (List.mem_of_getElem? (i := 11) rfl) rfl
theorem wi_X5_quarrel : Cond.instanceMethod yX5_quarrel ∈ TG := tb2 (List.mem_of_getElem? (i := 12) rfl) rfl
theorem wse_X5_quarrel : Cond.selects RX5 yX5_quarrel yX5_quarrel ∈ TG := tb2 (List.mem_of_getElem? (i := 13) rfl) rfl
theorem wc_X5_quarrel : Cond.code yX5_quarrel cX5_quarrel 1 (some .int) ∈ TG := tb2 (List.mem_of_getElem? (i := 14) rfl) rfl
theorem wl_X5_99 : Cond.methodLink RX5 99 yX0_areSome ∈ TG := tb2 (List.mem_of_getElem? (i := 15) rfl) rfl
theorem wi_X0_areSome : Cond.instanceMethod yX0_areSome ∈ TG := tb2 (List.mem_of_getElem? (i := 16) rfl) rfl
theorem wse_X0_areSome : Cond.selects RX0 yX0_areSome yX0_areSome ∈ TG := tb2 (List.mem_of_getElem? (i := 17) rfl) rfl
theorem wc_X0_areSome : Cond.code yX0_areSome cX0_areSome 1 (some .boolean) ∈ TG := tb2 (List.mem_of_getElem? (i := 18) rfl) rfl
theorem wl_X0_55 : Cond.methodLink RX0 55 yX1_clear ∈ TG := tb2 (List.mem_of_getElem? (i := 19) rfl) rfl
theorem wi_X1_clear : Cond.instanceMethod yX1_clear ∈ TG := tb2 (List.mem_of_getElem? (i := 20) rfl) rfl
theorem wse_X1_clear : Cond.selects RX1 yX1_clear yX1_clear ∈ TG := tb2 (List.mem_of_getElem? (i := 21) rfl) rfl
theorem wc_X1_clear : Cond.code yX1_clear cX1_clear 4 none ∈ TG := tb2 (List.mem_of_getElem? (i := 22) rfl) rfl
theorem wl_X0_58 : Cond.methodLink RX0 58 yX2_bind ∈ TG := tb2 (List.mem_of_getElem? (i := 23) rfl) rfl
theorem wi_X2_bind : Cond.instanceMethod yX2_bind ∈ TG := tb2 (List.mem_of_getElem? (i := 24) rfl) rfl
theorem wse_X2_bind : Cond.selects RX2 yX2_bind yX2_bind ∈ TG := tb2 (List.mem_of_getElem? (i := 25) rfl) rfl
theorem wc_X2_bind : Cond.code yX2_bind cX2_bind 4 (some .boolean) ∈ TG := tb2 (List.mem_of_getElem? (i := 26) rfl) rfl
theorem wl_X2_56 : Cond.methodLink RX2 56 yX2_bindThick ∈ TG := tb2 (List.mem_of_getElem? (i := 27) rfl) rfl
theorem wi_X2_bindThick : Cond.instanceMethod yX2_bindThick ∈ TG := tb2 (List.mem_of_getElem? (i := 29) rfl) rfl
theorem wc_X2_bindThick : Cond.code yX2_bindThick cX2_bindThick 6 (some .boolean) ∈ TG := tb2 (List.mem_of_getElem? (i := 30) rfl) rfl
theorem wl_X2_63 : Cond.methodLink RX2 63 yX2_hasPlace ∈ TG := tb2 (List.mem_of_getElem? (i := 31) rfl) rfl
theorem wl_X2_67 : Cond.methodLink RX2 67 yX2_placeOf ∈ TG := tb2 (List.mem_of_getElem? (i := 32) rfl) rfl
theorem wi_X2_placeOf : Cond.instanceMethod yX2_placeOf ∈ TG := tb2 (List.mem_of_getElem? (i := 33) rfl) rfl
theorem wse_X2_placeOf : Cond.selects RX2 yX2_placeOf yX2_placeOf ∈ TG := tb2 (List.mem_of_getElem? (i := 34) rfl) rfl
theorem wc_X2_placeOf : Cond.code yX2_placeOf cX2_placeOf 3 (some .int) ∈ TG := tb2 (List.mem_of_getElem? (i := 35) rfl) rfl
theorem wl_X2_70 : Cond.methodLink RX2 70 yX1_hold ∈ TG := tb2 (List.mem_of_getElem? (i := 36) rfl) rfl
theorem wi_X1_hold : Cond.instanceMethod yX1_hold ∈ TG := tb2 (List.mem_of_getElem? (i := 37) rfl) rfl
theorem wse_X1_hold : Cond.selects RX1 yX1_hold yX1_hold ∈ TG := tb2 (List.mem_of_getElem? (i := 38) rfl) rfl
theorem wc_X1_hold : Cond.code yX1_hold cX1_hold 5 (some .boolean) ∈ TG := tb2 (List.mem_of_getElem? (i := 39) rfl) rfl
theorem wl_X1_31 : Cond.methodLink RX1 31 yX1_isPlace ∈ TG := tb2 (List.mem_of_getElem? (i := 40) rfl) rfl
theorem wi_X1_isPlace : Cond.instanceMethod yX1_isPlace ∈ TG := tb2 (List.mem_of_getElem? (i := 42) rfl) rfl
theorem wc_X1_isPlace : Cond.code yX1_isPlace cX1_isPlace 2 (some .boolean) ∈ TG := tb2 (List.mem_of_getElem? (i := 43) rfl) rfl
theorem wl_X1_38 : Cond.methodLink RX1 38 yX1_narrow ∈ TG := tb2 (List.mem_of_getElem? (i := 44) rfl) rfl
theorem wi_X1_narrow : Cond.instanceMethod yX1_narrow ∈ TG := tb2 (List.mem_of_getElem? (i := 46) rfl) rfl
theorem wc_X1_narrow : Cond.code yX1_narrow cX1_narrow 8 none ∈ TG := tb2 (List.mem_of_getElem? (i := 47) rfl) rfl
theorem wl_X1_42 : Cond.methodLink RX1 42 Lib.Math.min.name ∈ TG := tb2 (List.mem_of_getElem? (i := 48) rfl) rfl
theorem wl_X2_60 : Cond.methodLink RX2 60 yX2_bindStep ∈ TG := tb2 (List.mem_of_getElem? (i := 49) rfl) rfl
theorem wi_X2_bindStep : Cond.instanceMethod yX2_bindStep ∈ TG := tb2 (List.mem_of_getElem? (i := 51) rfl) rfl
theorem wc_X2_bindStep : Cond.code yX2_bindStep cX2_bindStep 8 (some .boolean) ∈ TG := tb2 (List.mem_of_getElem? (i := 52) rfl) rfl
theorem wl_X0_62 : Cond.methodLink RX0 62 yX0_findQuarrel ∈ TG := tb2 (List.mem_of_getElem? (i := 53) rfl) rfl
theorem wi_X0_findQuarrel : Cond.instanceMethod yX0_findQuarrel ∈ TG := tb2 (List.mem_of_getElem? (i := 55) rfl) rfl
theorem wc_X0_findQuarrel : Cond.code yX0_findQuarrel cX0_findQuarrel 1 none ∈ TG := tb2 (List.mem_of_getElem? (i := 56) rfl) rfl
theorem wl_X0_65 : Cond.methodLink RX0 65 yX4_heap ∈ TG := tb2 (List.mem_of_getElem? (i := 57) rfl) rfl
theorem wi_X4_heap : Cond.instanceMethod yX4_heap ∈ TG := tb2 (List.mem_of_getElem? (i := 58) rfl) rfl
theorem wse_X4_heap : Cond.selects RX4 yX4_heap yX4_heap ∈ TG := tb2 (List.mem_of_getElem? (i := 59) rfl) rfl
theorem wc_X4_heap : Cond.code yX4_heap cX4_heap 3 (some .int) ∈ TG := tb2 (List.mem_of_getElem? (i := 60) rfl) rfl
theorem wl_X0_70 : Cond.methodLink RX0 70 yX1_copyFrom ∈ TG := tb2 (List.mem_of_getElem? (i := 61) rfl) rfl
theorem wi_X1_copyFrom : Cond.instanceMethod yX1_copyFrom ∈ TG := tb2 (List.mem_of_getElem? (i := 62) rfl) rfl
theorem wse_X1_copyFrom : Cond.selects RX1 yX1_copyFrom yX1_copyFrom ∈ TG := tb2 (List.mem_of_getElem? (i := 63) rfl) rfl
theorem wc_X1_copyFrom : Cond.code yX1_copyFrom cX1_copyFrom 2 none ∈ TG := tb2 (List.mem_of_getElem? (i := 64) rfl) rfl
theorem wl_X1_25 : Cond.methodLink RX1 25 arraycopyName ∈ TG := tb2 (List.mem_of_getElem? (i := 65) rfl) rfl
theorem ws_arraycopy : Cond.static arraycopyName ∈ TG := tb2 (List.mem_of_getElem? (i := 66) rfl) rfl
theorem wnat_arraycopy : Cond.native arraycopyName ∈ TG := tb2 (List.mem_of_getElem? (i := 67) rfl) rfl
theorem wl_X0_74 : Cond.methodLink RX0 74 yX4_came ∈ TG := tb2 (List.mem_of_getElem? (i := 68) rfl) rfl
theorem wi_X4_came : Cond.instanceMethod yX4_came ∈ TG := tb2 (List.mem_of_getElem? (i := 69) rfl) rfl
theorem wse_X4_came : Cond.selects RX4 yX4_came yX4_came ∈ TG := tb2 (List.mem_of_getElem? (i := 70) rfl) rfl
theorem wc_X4_came : Cond.code yX4_came cX4_came 1 (some .int) ∈ TG := tb2 (List.mem_of_getElem? (i := 71) rfl) rfl
theorem wl_X0_77 : Cond.methodLink RX0 77 Lib.Math.min.name ∈ TG := tb2 (List.mem_of_getElem? (i := 72) rfl) rfl
theorem wl_X0_83 : Cond.methodLink RX0 83 yX0_decide ∈ TG := tb2 (List.mem_of_getElem? (i := 73) rfl) rfl
theorem ws_X0_decide : Cond.static yX0_decide ∈ TG := tb2 (List.mem_of_getElem? (i := 74) rfl) rfl
theorem wc_X0_decide : Cond.code yX0_decide cX0_decide 7 none ∈ TG := tb2 (List.mem_of_getElem? (i := 75) rfl) rfl
theorem wl_X0_87 : Cond.methodLink RX0 87 yJ6_bitCount_0f7a4 ∈ TG := tb2 (List.mem_of_getElem? (i := 76) rfl) rfl
theorem ws_J6_bitCount_0f7a4 : Cond.static yJ6_bitCount_0f7a4 ∈ TG := tb2 (List.mem_of_getElem? (i := 77) rfl) rfl
theorem wc_J6_bitCount_0f7a4 : Cond.code yJ6_bitCount_0f7a4 cJ6_bitCount_0f7a4 1 (some .int) ∈ TG := tb2 (List.mem_of_getElem? (i := 78) rfl) rfl
theorem wv_J6_265 : Cond.constant RJ6 265 1431655765 ∈ TG := tb2 (List.mem_of_getElem? (i := 79) rfl) rfl
theorem wv_J6_266 : Cond.constant RJ6 266 858993459 ∈ TG := tb2 (List.mem_of_getElem? (i := 80) rfl) rfl
theorem wv_J6_267 : Cond.constant RJ6 267 252645135 ∈ TG := tb2 (List.mem_of_getElem? (i := 81) rfl) rfl
theorem wl_X0_93 : Cond.methodLink RX0 93 yX4_at ∈ TG := tb2 (List.mem_of_getElem? (i := 82) rfl) rfl
theorem wl_X0_97 : Cond.methodLink RX0 97 yX3_bind ∈ TG := tb2 (List.mem_of_getElem? (i := 83) rfl) rfl
theorem wi_X3_bind : Cond.instanceMethod yX3_bind ∈ TG := tb2 (List.mem_of_getElem? (i := 84) rfl) rfl
theorem wse_X3_bind : Cond.selects RX3 yX3_bind yX3_bind ∈ TG := tb2 (List.mem_of_getElem? (i := 85) rfl) rfl
theorem wc_X3_bind : Cond.code yX3_bind cX3_bind 4 (some .boolean) ∈ TG := tb2 (List.mem_of_getElem? (i := 86) rfl) rfl
theorem wl_X3_27 : Cond.methodLink RX3 27 yX2_placeOf ∈ TG := tb2 (List.mem_of_getElem? (i := 87) rfl) rfl
theorem wl_X3_35 : Cond.methodLink RX3 35 yX1_hold ∈ TG := tb2 (List.mem_of_getElem? (i := 88) rfl) rfl
theorem wl_X5_103 : Cond.methodLink RX5 103 yX0_leftOut ∈ TG := tb2 (List.mem_of_getElem? (i := 89) rfl) rfl
theorem wi_X0_leftOut : Cond.instanceMethod yX0_leftOut ∈ TG := tb2 (List.mem_of_getElem? (i := 90) rfl) rfl
theorem wse_X0_leftOut : Cond.selects RX0 yX0_leftOut yX0_leftOut ∈ TG := tb2 (List.mem_of_getElem? (i := 91) rfl) rfl
theorem wc_X0_leftOut : Cond.code yX0_leftOut cX0_leftOut 1 (some .int) ∈ TG := tb2 (List.mem_of_getElem? (i := 92) rfl) rfl
theorem wl_L_58 : Cond.methodLink RL 58 yX5_span ∈ TG := tb2 (List.mem_of_getElem? (i := 93) rfl) rfl
theorem wi_X5_span : Cond.instanceMethod yX5_span ∈ TG := tb2 (List.mem_of_getElem? (i := 94) rfl) rfl
theorem wse_X5_span : Cond.selects RX5 yX5_span yX5_span ∈ TG := tb2 (List.mem_of_getElem? (i := 95) rfl) rfl
theorem wc_X5_span : Cond.code yX5_span cX5_span 4 (some .int) ∈ TG := tb2 (List.mem_of_getElem? (i := 96) rfl) rfl
theorem wl_X5_107 : Cond.methodLink RX5 107 yX5_isEnd ∈ TG := tb2 (List.mem_of_getElem? (i := 97) rfl) rfl
theorem ws_X5_isEnd : Cond.static yX5_isEnd ∈ TG := tb2 (List.mem_of_getElem? (i := 98) rfl) rfl
theorem wc_X5_isEnd : Cond.code yX5_isEnd cX5_isEnd 1 (some .boolean) ∈ TG := tb2 (List.mem_of_getElem? (i := 99) rfl) rfl
theorem wl_X5_110 : Cond.methodLink RX5 110 yX2_placeOf ∈ TG := tb2 (List.mem_of_getElem? (i := 100) rfl) rfl
theorem wl_X5_113 : Cond.methodLink RX5 113 yX5_end ∈ TG := tb2 (List.mem_of_getElem? (i := 101) rfl) rfl
theorem wi_X5_end : Cond.instanceMethod yX5_end ∈ TG := tb2 (List.mem_of_getElem? (i := 103) rfl) rfl
theorem wc_X5_end : Cond.code yX5_end cX5_end 4 (some .int) ∈ TG := tb2 (List.mem_of_getElem? (i := 104) rfl) rfl
theorem wl_X5_116 : Cond.methodLink RX5 116 yX0_agreed ∈ TG := tb2 (List.mem_of_getElem? (i := 105) rfl) rfl
theorem wi_X0_agreed : Cond.instanceMethod yX0_agreed ∈ TG := tb2 (List.mem_of_getElem? (i := 106) rfl) rfl
theorem wse_X0_agreed : Cond.selects RX0 yX0_agreed yX0_agreed ∈ TG := tb2 (List.mem_of_getElem? (i := 107) rfl) rfl
theorem wc_X0_agreed : Cond.code yX0_agreed cX0_agreed 1 (some (.object "HillLayers$Gaps")) ∈ TG := tb2 (List.mem_of_getElem? (i := 108) rfl) rfl
theorem wl_X5_175 : Cond.methodLink RX5 175 yX1_least ∈ TG := tb2 (List.mem_of_getElem? (i := 109) rfl) rfl
theorem wi_X1_least : Cond.instanceMethod yX1_least ∈ TG := tb2 (List.mem_of_getElem? (i := 110) rfl) rfl
theorem wse_X1_least : Cond.selects RX1 yX1_least yX1_least ∈ TG := tb2 (List.mem_of_getElem? (i := 111) rfl) rfl
theorem wc_X1_least : Cond.code yX1_least cX1_least 2 (some .int) ∈ TG := tb2 (List.mem_of_getElem? (i := 112) rfl) rfl
theorem wl_X1_35 : Cond.methodLink RX1 35 yX1_most ∈ TG := tb2 (List.mem_of_getElem? (i := 113) rfl) rfl
theorem wi_X1_most : Cond.instanceMethod yX1_most ∈ TG := tb2 (List.mem_of_getElem? (i := 114) rfl) rfl
theorem wse_X1_most : Cond.selects RX1 yX1_most yX1_most ∈ TG := tb2 (List.mem_of_getElem? (i := 115) rfl) rfl
theorem wc_X1_most : Cond.code yX1_most cX1_most 3 (some .int) ∈ TG := tb2 (List.mem_of_getElem? (i := 116) rfl) rfl
theorem wl_X5_178 : Cond.methodLink RX5 178 yX1_greatest ∈ TG := tb2 (List.mem_of_getElem? (i := 117) rfl) rfl
theorem wi_X1_greatest : Cond.instanceMethod yX1_greatest ∈ TG := tb2 (List.mem_of_getElem? (i := 118) rfl) rfl
theorem wse_X1_greatest : Cond.selects RX1 yX1_greatest yX1_greatest ∈ TG := tb2 (List.mem_of_getElem? (i := 119) rfl) rfl
theorem wc_X1_greatest : Cond.code yX1_greatest cX1_greatest 2 (some .int) ∈ TG := tb2 (List.mem_of_getElem? (i := 120) rfl) rfl
theorem wl_L_62 : Cond.methodLink RL 62 yX5_open ∈ TG := tb2 (List.mem_of_getElem? (i := 121) rfl) rfl
theorem wi_X5_open : Cond.instanceMethod yX5_open ∈ TG := tb2 (List.mem_of_getElem? (i := 122) rfl) rfl
theorem wse_X5_open : Cond.selects RX5 yX5_open yX5_open ∈ TG := tb2 (List.mem_of_getElem? (i := 123) rfl) rfl
theorem wc_X5_open : Cond.code yX5_open cX5_open 1 (some .int) ∈ TG := tb2 (List.mem_of_getElem? (i := 124) rfl) rfl
theorem wl_X5_120 : Cond.methodLink RX5 120 yX1_openSum ∈ TG := tb2 (List.mem_of_getElem? (i := 125) rfl) rfl
theorem wi_X1_openSum : Cond.instanceMethod yX1_openSum ∈ TG := tb2 (List.mem_of_getElem? (i := 126) rfl) rfl
theorem wse_X1_openSum : Cond.selects RX1 yX1_openSum yX1_openSum ∈ TG := tb2 (List.mem_of_getElem? (i := 127) rfl) rfl
theorem wc_X1_openSum : Cond.code yX1_openSum cX1_openSum 3 (some .int) ∈ TG := tb2 (List.mem_of_getElem? (i := 128) rfl) rfl
theorem wl_X1_45 : Cond.methodLink RX1 45 yX1_greatest ∈ TG := tb2 (List.mem_of_getElem? (i := 129) rfl) rfl
theorem wl_X1_49 : Cond.methodLink RX1 49 yX1_least ∈ TG := tb2 (List.mem_of_getElem? (i := 130) rfl) rfl
theorem wl_L_66 : Cond.methodLink RL 66 yX5_layer ∈ TG := tb2 (List.mem_of_getElem? (i := 131) rfl) rfl
theorem wi_X5_layer : Cond.instanceMethod yX5_layer ∈ TG := tb2 (List.mem_of_getElem? (i := 132) rfl) rfl
theorem wse_X5_layer : Cond.selects RX5 yX5_layer yX5_layer ∈ TG := tb2 (List.mem_of_getElem? (i := 133) rfl) rfl
theorem wc_X5_layer : Cond.code yX5_layer cX5_layer 7 (some .int) ∈ TG := tb2 (List.mem_of_getElem? (i := 134) rfl) rfl
theorem wl_X5_125 : Cond.methodLink RX5 125 yX2_surfaces ∈ TG := tb2 (List.mem_of_getElem? (i := 135) rfl) rfl
theorem wi_X2_surfaces : Cond.instanceMethod yX2_surfaces ∈ TG := tb2 (List.mem_of_getElem? (i := 136) rfl) rfl
theorem wse_X2_surfaces : Cond.selects RX2 yX2_surfaces yX2_surfaces ∈ TG := tb2 (List.mem_of_getElem? (i := 137) rfl) rfl
theorem wc_X2_surfaces : Cond.code yX2_surfaces cX2_surfaces 1 (some .int) ∈ TG := tb2 (List.mem_of_getElem? (i := 138) rfl) rfl
theorem wl_L_71 : Cond.methodLink RL 71 yX5_between ∈ TG := tb2 (List.mem_of_getElem? (i := 139) rfl) rfl
theorem wi_X5_between : Cond.instanceMethod yX5_between ∈ TG := tb2 (List.mem_of_getElem? (i := 140) rfl) rfl
theorem wse_X5_between : Cond.selects RX5 yX5_between yX5_between ∈ TG := tb2 (List.mem_of_getElem? (i := 141) rfl) rfl
theorem wc_X5_between : Cond.code yX5_between cX5_between 7 (some .int) ∈ TG := tb2 (List.mem_of_getElem? (i := 142) rfl) rfl
theorem wl_X5_128 : Cond.methodLink RX5 128 yX5_isPlaceCode ∈ TG := tb2 (List.mem_of_getElem? (i := 143) rfl) rfl
theorem wi_X5_isPlaceCode : Cond.instanceMethod yX5_isPlaceCode ∈ TG := tb2 (List.mem_of_getElem? (i := 145) rfl) rfl
theorem wc_X5_isPlaceCode : Cond.code yX5_isPlaceCode cX5_isPlaceCode 2 (some .boolean) ∈ TG := tb2 (List.mem_of_getElem? (i := 146) rfl) rfl
theorem wv_X5_131 : Cond.constant RX5 131 (-2147483648) ∈ TG := tb2 (List.mem_of_getElem? (i := 147) rfl) rfl
theorem wl_X5_132 : Cond.methodLink RX5 132 yX1_most ∈ TG := tb2 (List.mem_of_getElem? (i := 148) rfl) rfl
theorem wl_L_75 : Cond.methodLink RL 75 yX5_worn ∈ TG := tb2 (List.mem_of_getElem? (i := 149) rfl) rfl
theorem wi_X5_worn : Cond.instanceMethod yX5_worn ∈ TG := tb2 (List.mem_of_getElem? (i := 150) rfl) rfl
theorem wse_X5_worn : Cond.selects RX5 yX5_worn yX5_worn ∈ TG := tb2 (List.mem_of_getElem? (i := 151) rfl) rfl
theorem wc_X5_worn : Cond.code yX5_worn cX5_worn 4 (some .int) ∈ TG := tb2 (List.mem_of_getElem? (i := 152) rfl) rfl
theorem wl_L_79 : Cond.methodLink RL 79 yX5_tells ∈ TG := tb2 (List.mem_of_getElem? (i := 153) rfl) rfl
theorem wi_X5_tells : Cond.instanceMethod yX5_tells ∈ TG := tb2 (List.mem_of_getElem? (i := 154) rfl) rfl
theorem wse_X5_tells : Cond.selects RX5 yX5_tells yX5_tells ∈ TG := tb2 (List.mem_of_getElem? (i := 155) rfl) rfl
theorem wc_X5_tells : Cond.code yX5_tells cX5_tells 3 (some .int) ∈ TG := tb2 (List.mem_of_getElem? (i := 156) rfl) rfl
theorem wl_X5_135 : Cond.methodLink RX5 135 yX5_gain ∈ TG := tb2 (List.mem_of_getElem? (i := 157) rfl) rfl
theorem wi_X5_gain : Cond.instanceMethod yX5_gain ∈ TG := tb2 (List.mem_of_getElem? (i := 159) rfl) rfl
theorem wc_X5_gain : Cond.code yX5_gain cX5_gain 5 (some .int) ∈ TG := tb2 (List.mem_of_getElem? (i := 160) rfl) rfl
theorem wl_X5_181 : Cond.methodLink RX5 181 yX1_openSumAfterBore ∈ TG := tb2 (List.mem_of_getElem? (i := 161) rfl) rfl
theorem wi_X1_openSumAfterBore : Cond.instanceMethod yX1_openSumAfterBore ∈ TG := tb2 (List.mem_of_getElem? (i := 162) rfl) rfl
theorem wse_X1_openSumAfterBore : Cond.selects RX1 yX1_openSumAfterBore yX1_openSumAfterBore ∈ TG := tb2 (List.mem_of_getElem? (i := 163) rfl) rfl
theorem wc_X1_openSumAfterBore : Cond.code yX1_openSumAfterBore cX1_openSumAfterBore 7 (some .int) ∈ TG := tb2 (List.mem_of_getElem? (i := 164) rfl) rfl
theorem wl_L_83 : Cond.methodLink RL 83 yX5_next ∈ TG := tb2 (List.mem_of_getElem? (i := 165) rfl) rfl
theorem wi_X5_next : Cond.instanceMethod yX5_next ∈ TG := tb2 (List.mem_of_getElem? (i := 166) rfl) rfl
theorem wse_X5_next : Cond.selects RX5 yX5_next yX5_next ∈ TG := tb2 (List.mem_of_getElem? (i := 167) rfl) rfl
theorem wc_X5_next : Cond.code yX5_next cX5_next 6 (some .int) ∈ TG := tb2 (List.mem_of_getElem? (i := 168) rfl) rfl
theorem wl_X5_139 : Cond.methodLink RX5 139 yX2_columns ∈ TG := tb2 (List.mem_of_getElem? (i := 169) rfl) rfl
theorem wi_X2_columns : Cond.instanceMethod yX2_columns ∈ TG := tb2 (List.mem_of_getElem? (i := 170) rfl) rfl
theorem wse_X2_columns : Cond.selects RX2 yX2_columns yX2_columns ∈ TG := tb2 (List.mem_of_getElem? (i := 171) rfl) rfl
theorem wc_X2_columns : Cond.code yX2_columns cX2_columns 1 (some .int) ∈ TG := tb2 (List.mem_of_getElem? (i := 172) rfl) rfl
theorem wl_L_87 : Cond.methodLink RL 87 yX5_bend ∈ TG := tb2 (List.mem_of_getElem? (i := 173) rfl) rfl
theorem wi_X5_bend : Cond.instanceMethod yX5_bend ∈ TG := tb2 (List.mem_of_getElem? (i := 174) rfl) rfl
theorem wse_X5_bend : Cond.selects RX5 yX5_bend yX5_bend ∈ TG := tb2 (List.mem_of_getElem? (i := 175) rfl) rfl
theorem wc_X5_bend : Cond.code yX5_bend cX5_bend 8 (some .int) ∈ TG := tb2 (List.mem_of_getElem? (i := 176) rfl) rfl
theorem wl_X5_142 : Cond.methodLink RX5 142 Lib.Math.abs.name ∈ TG := tb2 (List.mem_of_getElem? (i := 177) rfl) rfl
theorem ws_Math_abs : Cond.static Lib.Math.abs.name ∈ TG := tb2 (List.mem_of_getElem? (i := 178) rfl) rfl
theorem wc_Math_abs : Cond.code Lib.Math.abs.name Lib.Math.abs.code 1 (some .int) ∈ TG := tb2 (List.mem_of_getElem? (i := 179) rfl) rfl
theorem wl_L_92 : Cond.methodLink RL 92 yX5_told ∈ TG := tb2 (List.mem_of_getElem? (i := 180) rfl) rfl
theorem wi_X5_told : Cond.instanceMethod yX5_told ∈ TG := tb2 (List.mem_of_getElem? (i := 181) rfl) rfl
theorem wse_X5_told : Cond.selects RX5 yX5_told yX5_told ∈ TG := tb2 (List.mem_of_getElem? (i := 182) rfl) rfl
theorem wc_X5_told : Cond.code yX5_told cX5_told 4 (some .int) ∈ TG := tb2 (List.mem_of_getElem? (i := 183) rfl) rfl
theorem wl_X5_145 : Cond.methodLink RX5 145 yX4_at ∈ TG := tb2 (List.mem_of_getElem? (i := 184) rfl) rfl
theorem wl_X5_149 : Cond.methodLink RX5 149 yX3_surface ∈ TG := tb2 (List.mem_of_getElem? (i := 185) rfl) rfl
theorem wi_X3_surface : Cond.instanceMethod yX3_surface ∈ TG := tb2 (List.mem_of_getElem? (i := 186) rfl) rfl
theorem wse_X3_surface : Cond.selects RX3 yX3_surface yX3_surface ∈ TG := tb2 (List.mem_of_getElem? (i := 187) rfl) rfl
theorem wc_X3_surface : Cond.code yX3_surface cX3_surface 1 (some .int) ∈ TG := tb2 (List.mem_of_getElem? (i := 188) rfl) rfl
theorem wl_X5_152 : Cond.methodLink RX5 152 yX3_column ∈ TG := tb2 (List.mem_of_getElem? (i := 189) rfl) rfl
theorem wi_X3_column : Cond.instanceMethod yX3_column ∈ TG := tb2 (List.mem_of_getElem? (i := 190) rfl) rfl
theorem wse_X3_column : Cond.selects RX3 yX3_column yX3_column ∈ TG := tb2 (List.mem_of_getElem? (i := 191) rfl) rfl
theorem wc_X3_column : Cond.code yX3_column cX3_column 1 (some .int) ∈ TG := tb2 (List.mem_of_getElem? (i := 192) rfl) rfl
theorem wl_X5_155 : Cond.methodLink RX5 155 yX3_kind ∈ TG := tb2 (List.mem_of_getElem? (i := 193) rfl) rfl
theorem wi_X3_kind : Cond.instanceMethod yX3_kind ∈ TG := tb2 (List.mem_of_getElem? (i := 194) rfl) rfl
theorem wse_X3_kind : Cond.selects RX3 yX3_kind yX3_kind ∈ TG := tb2 (List.mem_of_getElem? (i := 195) rfl) rfl
theorem wc_X3_kind : Cond.code yX3_kind cX3_kind 1 (some .int) ∈ TG := tb2 (List.mem_of_getElem? (i := 196) rfl) rfl
theorem wl_X5_158 : Cond.methodLink RX5 158 yX3_z ∈ TG := tb2 (List.mem_of_getElem? (i := 197) rfl) rfl
theorem wi_X3_z : Cond.instanceMethod yX3_z ∈ TG := tb2 (List.mem_of_getElem? (i := 198) rfl) rfl
theorem wse_X3_z : Cond.selects RX3 yX3_z yX3_z ∈ TG := tb2 (List.mem_of_getElem? (i := 199) rfl) rfl
theorem wc_X3_z : Cond.code yX3_z cX3_z 1 (some .int) ∈ TG := tb2 (List.mem_of_getElem? (i := 200) rfl) rfl
theorem wl_X5_161 : Cond.methodLink RX5 161 yX3_miss ∈ TG := tb2 (List.mem_of_getElem? (i := 201) rfl) rfl
theorem wi_X3_miss : Cond.instanceMethod yX3_miss ∈ TG := tb2 (List.mem_of_getElem? (i := 202) rfl) rfl
theorem wse_X3_miss : Cond.selects RX3 yX3_miss yX3_miss ∈ TG := tb2 (List.mem_of_getElem? (i := 203) rfl) rfl
theorem wc_X3_miss : Cond.code yX3_miss cX3_miss 1 (some .int) ∈ TG := tb2 (List.mem_of_getElem? (i := 204) rfl) rfl
theorem wl_L_96 : Cond.methodLink RL 96 yX5_count ∈ TG := tb2 (List.mem_of_getElem? (i := 205) rfl) rfl
theorem wi_X5_count : Cond.instanceMethod yX5_count ∈ TG := tb2 (List.mem_of_getElem? (i := 206) rfl) rfl
theorem wse_X5_count : Cond.selects RX5 yX5_count yX5_count ∈ TG := tb2 (List.mem_of_getElem? (i := 207) rfl) rfl
theorem wc_X5_count : Cond.code yX5_count cX5_count 2 (some .int) ∈ TG := tb2 (List.mem_of_getElem? (i := 208) rfl) rfl
theorem wl_X5_164 : Cond.methodLink RX5 164 yX4_heap ∈ TG := tb2 (List.mem_of_getElem? (i := 209) rfl) rfl
theorem wl_X5_167 : Cond.methodLink RX5 167 yJ6_bitCount_0f7a4 ∈ TG := tb2 (List.mem_of_getElem? (i := 210) rfl) rfl
theorem wl_X5_172 : Cond.methodLink RX5 172 yX2_faults ∈ TG := tb2 (List.mem_of_getElem? (i := 211) rfl) rfl
theorem wi_X2_faults : Cond.instanceMethod yX2_faults ∈ TG := tb2 (List.mem_of_getElem? (i := 212) rfl) rfl
theorem wse_X2_faults : Cond.selects RX2 yX2_faults yX2_faults ∈ TG := tb2 (List.mem_of_getElem? (i := 213) rfl) rfl
theorem wc_X2_faults : Cond.code yX2_faults cX2_faults 3 (some .int) ∈ TG := tb2 (List.mem_of_getElem? (i := 214) rfl) rfl
theorem wl_X2_53 : Cond.methodLink RX2 53 yX2_isBroken ∈ TG := tb2 (List.mem_of_getElem? (i := 215) rfl) rfl
theorem wl_L_9 : Cond.methodLink RL 9 yL_cell ∈ TG := tb2 (List.mem_of_getElem? (i := 216) rfl) rfl
theorem ws_L_cell : Cond.static yL_cell ∈ TG := tb2 (List.mem_of_getElem? (i := 217) rfl) rfl
theorem wc_L_cell : Cond.code yL_cell cL_cell 2 (some .int) ∈ TG := tb2 (List.mem_of_getElem? (i := 218) rfl) rfl
theorem wk_L_18 : Cond.classLink RL 18 RX6 ∈ TG := tb2 (List.mem_of_getElem? (i := 219) rfl) rfl
theorem wN_X6 : Cond.instantiable RX6 19 ∈ TG := tb2 (List.mem_of_getElem? (i := 220) rfl) rfl
theorem wl_L_20 : Cond.methodLink RL 20 yX6_init ∈ TG := tb2 (List.mem_of_getElem? (i := 221) rfl) rfl
theorem wi_X6_init : Cond.instanceMethod yX6_init ∈ TG := tb2 (List.mem_of_getElem? (i := 222) rfl) rfl
theorem wc_X6_init : Cond.code yX6_init cX6_init 4 none ∈ TG := tb2 (List.mem_of_getElem? (i := 223) rfl) rfl
theorem wl_X6_3 : Cond.methodLink RX6 3 objectInit ∈ TG := tb2 (List.mem_of_getElem? (i := 224) rfl) rfl
theorem wf_X6_50 : Cond.fieldLink RX6 50 "HillLayersModel" "w" "I" ∈ TG := tb2 (List.mem_of_getElem? (i := 225) rfl) rfl
theorem wf_X6_54 : Cond.fieldLink RX6 54 "HillLayersModel" "s" "I" ∈ TG := tb2 (List.mem_of_getElem? (i := 226) rfl) rfl
theorem wf_X6_9 : Cond.fieldLink RX6 9 "HillLayersModel" "thickFrom" "[I" ∈ TG := tb2 (List.mem_of_getElem? (i := 227) rfl) rfl
theorem wf_X6_13 : Cond.fieldLink RX6 13 "HillLayersModel" "thickTo" "[I" ∈ TG := tb2 (List.mem_of_getElem? (i := 228) rfl) rfl
theorem wf_X6_16 : Cond.fieldLink RX6 16 "HillLayersModel" "steep" "[I" ∈ TG := tb2 (List.mem_of_getElem? (i := 229) rfl) rfl
theorem wf_X6_19 : Cond.fieldLink RX6 19 "HillLayersModel" "isFault" "[Z" ∈ TG := tb2 (List.mem_of_getElem? (i := 230) rfl) rfl
theorem wf_X6_23 : Cond.fieldLink RX6 23 "HillLayersModel" "thrown" "[I" ∈ TG := tb2 (List.mem_of_getElem? (i := 231) rfl) rfl
theorem wf_X6_26 : Cond.fieldLink RX6 26 "HillLayersModel" "ground" "[I" ∈ TG := tb2 (List.mem_of_getElem? (i := 232) rfl) rfl
theorem wf_X6_69 : Cond.fieldLink RX6 69 "HillLayersModel" "sights" "I" ∈ TG := tb2 (List.mem_of_getElem? (i := 233) rfl) rfl
theorem wf_X6_29 : Cond.fieldLink RX6 29 "HillLayersModel" "where" "[I" ∈ TG := tb2 (List.mem_of_getElem? (i := 234) rfl) rfl
theorem wf_X6_32 : Cond.fieldLink RX6 32 "HillLayersModel" "told" "[I" ∈ TG := tb2 (List.mem_of_getElem? (i := 235) rfl) rfl
theorem wf_X6_35 : Cond.fieldLink RX6 35 "HillLayersModel" "miss" "[I" ∈ TG := tb2 (List.mem_of_getElem? (i := 236) rfl) rfl
theorem wf_X6_38 : Cond.fieldLink RX6 38 "HillLayersModel" "isThere" "[Z" ∈ TG := tb2 (List.mem_of_getElem? (i := 237) rfl) rfl
theorem wf_X6_41 : Cond.fieldLink RX6 41 "HillLayersModel" "most" "[I" ∈ TG := tb2 (List.mem_of_getElem? (i := 238) rfl) rfl
theorem wf_X6_44 : Cond.fieldLink RX6 44 "HillLayersModel" "base" "[I" ∈ TG := tb2 (List.mem_of_getElem? (i := 239) rfl) rfl
theorem wf_X6_47 : Cond.fieldLink RX6 47 "HillLayersModel" "badWith" "[I" ∈ TG := tb3 (List.mem_of_getElem? (i := 0) rfl) rfl
theorem wf_X6_61 : Cond.fieldLink RX6 61 "HillLayersModel" "isReckoned" "Z" ∈ TG := tb3 (List.mem_of_getElem? (i := 1) rfl) rfl
theorem wf_X6_107 : Cond.fieldLink RX6 107 "HillLayersModel" "isHill" "Z" ∈ TG := tb3 (List.mem_of_getElem? (i := 2) rfl) rfl
theorem wf_X6_121 : Cond.fieldLink RX6 121 "HillLayersModel" "quarrels" "I" ∈ TG := tb3 (List.mem_of_getElem? (i := 3) rfl) rfl
theorem wl_L_25 : Cond.methodLink RL 25 yX6_thick ∈ TG := tb3 (List.mem_of_getElem? (i := 43) rfl) rfl
theorem wi_X6_thick : Cond.instanceMethod yX6_thick ∈ TG := tb3 (List.mem_of_getElem? (i := 44) rfl) rfl
theorem wse_X6_thick : Cond.selects RX6 yX6_thick yX6_thick ∈ TG := tb3 (List.mem_of_getElem? (i := 45) rfl) rfl
theorem wc_X6_thick : Cond.code yX6_thick cX6_thick 4 (some .boolean) ∈ TG := tb3 (List.mem_of_getElem? (i := 46) rfl) rfl
theorem wl_X6_57 : Cond.methodLink RX6 57 yX6_in ∈ TG := tb3 (List.mem_of_getElem? (i := 47) rfl) rfl
theorem ws_X6_in : Cond.static yX6_in ∈ TG := tb3 (List.mem_of_getElem? (i := 48) rfl) rfl
theorem wc_X6_in : Cond.code yX6_in cX6_in 3 (some .boolean) ∈ TG := tb3 (List.mem_of_getElem? (i := 49) rfl) rfl
theorem wl_L_30 : Cond.methodLink RL 30 yX6_steep ∈ TG := tb3 (List.mem_of_getElem? (i := 50) rfl) rfl
theorem wi_X6_steep : Cond.instanceMethod yX6_steep ∈ TG := tb3 (List.mem_of_getElem? (i := 51) rfl) rfl
theorem wse_X6_steep : Cond.selects RX6 yX6_steep yX6_steep ∈ TG := tb3 (List.mem_of_getElem? (i := 52) rfl) rfl
theorem wc_X6_steep : Cond.code yX6_steep cX6_steep 3 (some .boolean) ∈ TG := tb3 (List.mem_of_getElem? (i := 53) rfl) rfl
theorem wl_L_34 : Cond.methodLink RL 34 yX6_fault ∈ TG := tb3 (List.mem_of_getElem? (i := 54) rfl) rfl
theorem wi_X6_fault : Cond.instanceMethod yX6_fault ∈ TG := tb3 (List.mem_of_getElem? (i := 55) rfl) rfl
theorem wse_X6_fault : Cond.selects RX6 yX6_fault yX6_fault ∈ TG := tb3 (List.mem_of_getElem? (i := 56) rfl) rfl
theorem wc_X6_fault : Cond.code yX6_fault cX6_fault 3 (some .boolean) ∈ TG := tb3 (List.mem_of_getElem? (i := 57) rfl) rfl
theorem wl_L_39 : Cond.methodLink RL 39 yX6_heal ∈ TG := tb3 (List.mem_of_getElem? (i := 58) rfl) rfl
theorem wi_X6_heal : Cond.instanceMethod yX6_heal ∈ TG := tb3 (List.mem_of_getElem? (i := 59) rfl) rfl
theorem wse_X6_heal : Cond.selects RX6 yX6_heal yX6_heal ∈ TG := tb3 (List.mem_of_getElem? (i := 60) rfl) rfl
theorem wc_X6_heal : Cond.code yX6_heal cX6_heal 2 (some .boolean) ∈ TG := tb3 (List.mem_of_getElem? (i := 61) rfl) rfl
theorem wl_L_43 : Cond.methodLink RL 43 yX6_ground ∈ TG := tb3 (List.mem_of_getElem? (i := 62) rfl) rfl
theorem wi_X6_ground : Cond.instanceMethod yX6_ground ∈ TG := tb3 (List.mem_of_getElem? (i := 63) rfl) rfl
theorem wse_X6_ground : Cond.selects RX6 yX6_ground yX6_ground ∈ TG := tb3 (List.mem_of_getElem? (i := 64) rfl) rfl
theorem wc_X6_ground : Cond.code yX6_ground cX6_ground 3 (some .boolean) ∈ TG := tb3 (List.mem_of_getElem? (i := 65) rfl) rfl
theorem wl_L_48 : Cond.methodLink RL 48 yX6_sight ∈ TG := tb3 (List.mem_of_getElem? (i := 66) rfl) rfl
theorem wi_X6_sight : Cond.instanceMethod yX6_sight ∈ TG := tb3 (List.mem_of_getElem? (i := 67) rfl) rfl
theorem wse_X6_sight : Cond.selects RX6 yX6_sight yX6_sight ∈ TG := tb3 (List.mem_of_getElem? (i := 68) rfl) rfl
theorem wc_X6_sight : Cond.code yX6_sight cX6_sight 4 (some .int) ∈ TG := tb3 (List.mem_of_getElem? (i := 69) rfl) rfl
theorem wl_X6_65 : Cond.methodLink RX6 65 yX6_isPlace ∈ TG := tb3 (List.mem_of_getElem? (i := 70) rfl) rfl
theorem wi_X6_isPlace : Cond.instanceMethod yX6_isPlace ∈ TG := tb3 (List.mem_of_getElem? (i := 72) rfl) rfl
theorem wc_X6_isPlace : Cond.code yX6_isPlace cX6_isPlace 3 (some .boolean) ∈ TG := tb3 (List.mem_of_getElem? (i := 73) rfl) rfl
theorem wl_L_52 : Cond.methodLink RL 52 yX6_take ∈ TG := tb3 (List.mem_of_getElem? (i := 74) rfl) rfl
theorem wi_X6_take : Cond.instanceMethod yX6_take ∈ TG := tb3 (List.mem_of_getElem? (i := 75) rfl) rfl
theorem wse_X6_take : Cond.selects RX6 yX6_take yX6_take ∈ TG := tb3 (List.mem_of_getElem? (i := 76) rfl) rfl
theorem wc_X6_take : Cond.code yX6_take cX6_take 2 (some .boolean) ∈ TG := tb3 (List.mem_of_getElem? (i := 77) rfl) rfl
theorem wl_X6_72 : Cond.methodLink RX6 72 yX6_isSight ∈ TG := tb3 (List.mem_of_getElem? (i := 78) rfl) rfl
theorem wi_X6_isSight : Cond.instanceMethod yX6_isSight ∈ TG := tb3 (List.mem_of_getElem? (i := 80) rfl) rfl
theorem wc_X6_isSight : Cond.code yX6_isSight cX6_isSight 2 (some .boolean) ∈ TG := tb3 (List.mem_of_getElem? (i := 81) rfl) rfl
theorem wl_L_57 : Cond.methodLink RL 57 yX6_quarrel ∈ TG := tb3 (List.mem_of_getElem? (i := 82) rfl) rfl
theorem wi_X6_quarrel : Cond.instanceMethod yX6_quarrel ∈ TG := tb3 (List.mem_of_getElem? (i := 83) rfl) rfl
theorem wse_X6_quarrel : Cond.selects RX6 yX6_quarrel yX6_quarrel ∈ TG := tb3 (List.mem_of_getElem? (i := 84) rfl) rfl
theorem wc_X6_quarrel : Cond.code yX6_quarrel cX6_quarrel 1 (some .int) ∈ TG := tb3 (List.mem_of_getElem? (i := 85) rfl) rfl
theorem wl_X6_124 : Cond.methodLink RX6 124 yX6_reckons ∈ TG := tb3 (List.mem_of_getElem? (i := 86) rfl) rfl
theorem wi_X6_reckons : Cond.instanceMethod yX6_reckons ∈ TG := tb3 (List.mem_of_getElem? (i := 88) rfl) rfl
theorem wc_X6_reckons : Cond.code yX6_reckons cX6_reckons 1 (some .boolean) ∈ TG := tb3 (List.mem_of_getElem? (i := 89) rfl) rfl
theorem wl_X6_103 : Cond.methodLink RX6 103 yX6_found ∈ TG := tb3 (List.mem_of_getElem? (i := 90) rfl) rfl
theorem wi_X6_found : Cond.instanceMethod yX6_found ∈ TG := tb3 (List.mem_of_getElem? (i := 92) rfl) rfl
theorem wc_X6_found : Cond.code yX6_found cX6_found 4 (some .boolean) ∈ TG := tb3 (List.mem_of_getElem? (i := 93) rfl) rfl
theorem wl_X6_110 : Cond.methodLink RX6 110 yX6_stands ∈ TG := tb3 (List.mem_of_getElem? (i := 94) rfl) rfl
theorem wi_X6_stands : Cond.instanceMethod yX6_stands ∈ TG := tb3 (List.mem_of_getElem? (i := 96) rfl) rfl
theorem wc_X6_stands : Cond.code yX6_stands cX6_stands 5 (some .boolean) ∈ TG := tb3 (List.mem_of_getElem? (i := 97) rfl) rfl
theorem wv_X6_80 : Cond.constant RX6 80 100000 ∈ TG := tb3 (List.mem_of_getElem? (i := 98) rfl) rfl
theorem wl_X6_81 : Cond.methodLink RX6 81 yX6_node ∈ TG := tb3 (List.mem_of_getElem? (i := 99) rfl) rfl
theorem ws_X6_node : Cond.static yX6_node ∈ TG := tb3 (List.mem_of_getElem? (i := 100) rfl) rfl
theorem wc_X6_node : Cond.code yX6_node cX6_node 2 (some .int) ∈ TG := tb3 (List.mem_of_getElem? (i := 101) rfl) rfl
theorem wl_X6_76 : Cond.methodLink RX6 76 yX6_bounds ∈ TG := tb3 (List.mem_of_getElem? (i := 102) rfl) rfl
theorem wi_X6_bounds : Cond.instanceMethod yX6_bounds ∈ TG := tb3 (List.mem_of_getElem? (i := 104) rfl) rfl
theorem wc_X6_bounds : Cond.code yX6_bounds cX6_bounds 4 none ∈ TG := tb3 (List.mem_of_getElem? (i := 105) rfl) rfl
theorem wl_X6_85 : Cond.methodLink RX6 85 yX6_within ∈ TG := tb3 (List.mem_of_getElem? (i := 106) rfl) rfl
theorem wi_X6_within : Cond.instanceMethod yX6_within ∈ TG := tb3 (List.mem_of_getElem? (i := 108) rfl) rfl
theorem wc_X6_within : Cond.code yX6_within cX6_within 5 none ∈ TG := tb3 (List.mem_of_getElem? (i := 109) rfl) rfl
theorem wv_X6_89 : Cond.constant RX6 89 50000 ∈ TG := tb3 (List.mem_of_getElem? (i := 110) rfl) rfl
theorem wl_X6_113 : Cond.methodLink RX6 113 yX6_pairs ∈ TG := tb3 (List.mem_of_getElem? (i := 111) rfl) rfl
theorem wi_X6_pairs : Cond.instanceMethod yX6_pairs ∈ TG := tb3 (List.mem_of_getElem? (i := 113) rfl) rfl
theorem wc_X6_pairs : Cond.code yX6_pairs cX6_pairs 5 none ∈ TG := tb3 (List.mem_of_getElem? (i := 114) rfl) rfl
theorem wl_X6_100 : Cond.methodLink RX6 100 yX6_agrees ∈ TG := tb3 (List.mem_of_getElem? (i := 115) rfl) rfl
theorem wi_X6_agrees : Cond.instanceMethod yX6_agrees ∈ TG := tb3 (List.mem_of_getElem? (i := 117) rfl) rfl
theorem wc_X6_agrees : Cond.code yX6_agrees cX6_agrees 3 (some .boolean) ∈ TG := tb3 (List.mem_of_getElem? (i := 118) rfl) rfl
theorem wl_X6_97 : Cond.methodLink RX6 97 yX6_sees ∈ TG := tb3 (List.mem_of_getElem? (i := 119) rfl) rfl
theorem wi_X6_sees : Cond.instanceMethod yX6_sees ∈ TG := tb3 (List.mem_of_getElem? (i := 121) rfl) rfl
theorem wc_X6_sees : Cond.code yX6_sees cX6_sees 4 (some .boolean) ∈ TG := tb3 (List.mem_of_getElem? (i := 122) rfl) rfl
theorem wl_X6_93 : Cond.methodLink RX6 93 yX6_addsWithin ∈ TG := tb3 (List.mem_of_getElem? (i := 123) rfl) rfl
theorem wi_X6_addsWithin : Cond.instanceMethod yX6_addsWithin ∈ TG := tb3 (List.mem_of_getElem? (i := 125) rfl) rfl
theorem wc_X6_addsWithin : Cond.code yX6_addsWithin cX6_addsWithin 5 (some .boolean) ∈ TG := tb3 (List.mem_of_getElem? (i := 126) rfl) rfl
theorem wl_X6_90 : Cond.methodLink RX6 90 yX6_adds ∈ TG := tb3 (List.mem_of_getElem? (i := 127) rfl) rfl
theorem wi_X6_adds : Cond.instanceMethod yX6_adds ∈ TG := tb3 (List.mem_of_getElem? (i := 129) rfl) rfl
theorem wc_X6_adds : Cond.code yX6_adds cX6_adds 7 (some .boolean) ∈ TG := tb3 (List.mem_of_getElem? (i := 130) rfl) rfl
theorem wl_X6_117 : Cond.methodLink RX6 117 yX6_bits ∈ TG := tb3 (List.mem_of_getElem? (i := 131) rfl) rfl
theorem ws_X6_bits : Cond.static yX6_bits ∈ TG := tb3 (List.mem_of_getElem? (i := 132) rfl) rfl
theorem wc_X6_bits : Cond.code yX6_bits cX6_bits 3 (some .int) ∈ TG := tb3 (List.mem_of_getElem? (i := 133) rfl) rfl
theorem wl_L_61 : Cond.methodLink RL 61 yX6_span ∈ TG := tb3 (List.mem_of_getElem? (i := 134) rfl) rfl
theorem wi_X6_span : Cond.instanceMethod yX6_span ∈ TG := tb3 (List.mem_of_getElem? (i := 135) rfl) rfl
theorem wse_X6_span : Cond.selects RX6 yX6_span yX6_span ∈ TG := tb3 (List.mem_of_getElem? (i := 136) rfl) rfl
theorem wc_X6_span : Cond.code yX6_span cX6_span 4 (some .int) ∈ TG := tb3 (List.mem_of_getElem? (i := 137) rfl) rfl
theorem wl_X6_127 : Cond.methodLink RX6 127 yX6_low ∈ TG := tb3 (List.mem_of_getElem? (i := 138) rfl) rfl
theorem wi_X6_low : Cond.instanceMethod yX6_low ∈ TG := tb3 (List.mem_of_getElem? (i := 140) rfl) rfl
theorem wc_X6_low : Cond.code yX6_low cX6_low 2 (some .int) ∈ TG := tb3 (List.mem_of_getElem? (i := 141) rfl) rfl
theorem wl_X6_130 : Cond.methodLink RX6 130 yX6_high ∈ TG := tb3 (List.mem_of_getElem? (i := 142) rfl) rfl
theorem wi_X6_high : Cond.instanceMethod yX6_high ∈ TG := tb3 (List.mem_of_getElem? (i := 144) rfl) rfl
theorem wc_X6_high : Cond.code yX6_high cX6_high 2 (some .int) ∈ TG := tb3 (List.mem_of_getElem? (i := 145) rfl) rfl
theorem wl_L_65 : Cond.methodLink RL 65 yX6_open ∈ TG := tb3 (List.mem_of_getElem? (i := 146) rfl) rfl
theorem wi_X6_open : Cond.instanceMethod yX6_open ∈ TG := tb3 (List.mem_of_getElem? (i := 147) rfl) rfl
theorem wse_X6_open : Cond.selects RX6 yX6_open yX6_open ∈ TG := tb3 (List.mem_of_getElem? (i := 148) rfl) rfl
theorem wc_X6_open : Cond.code yX6_open cX6_open 1 (some .int) ∈ TG := tb3 (List.mem_of_getElem? (i := 149) rfl) rfl
theorem wl_X6_133 : Cond.methodLink RX6 133 yX6_opens ∈ TG := tb3 (List.mem_of_getElem? (i := 150) rfl) rfl
theorem wi_X6_opens : Cond.instanceMethod yX6_opens ∈ TG := tb3 (List.mem_of_getElem? (i := 152) rfl) rfl
theorem wc_X6_opens : Cond.code yX6_opens cX6_opens 4 (some .int) ∈ TG := tb3 (List.mem_of_getElem? (i := 153) rfl) rfl
theorem wl_L_70 : Cond.methodLink RL 70 yX6_layer ∈ TG := tb3 (List.mem_of_getElem? (i := 154) rfl) rfl
theorem wi_X6_layer : Cond.instanceMethod yX6_layer ∈ TG := tb3 (List.mem_of_getElem? (i := 155) rfl) rfl
theorem wse_X6_layer : Cond.selects RX6 yX6_layer yX6_layer ∈ TG := tb3 (List.mem_of_getElem? (i := 156) rfl) rfl
theorem wc_X6_layer : Cond.code yX6_layer cX6_layer 6 (some .int) ∈ TG := tb3 (List.mem_of_getElem? (i := 157) rfl) rfl
theorem wl_L_74 : Cond.methodLink RL 74 yX6_between ∈ TG := tb3 (List.mem_of_getElem? (i := 158) rfl) rfl
theorem wi_X6_between : Cond.instanceMethod yX6_between ∈ TG := tb3 (List.mem_of_getElem? (i := 159) rfl) rfl
theorem wse_X6_between : Cond.selects RX6 yX6_between yX6_between ∈ TG := tb3 (List.mem_of_getElem? (i := 160) rfl) rfl
theorem wc_X6_between : Cond.code yX6_between cX6_between 6 (some .int) ∈ TG := tb3 (List.mem_of_getElem? (i := 161) rfl) rfl
theorem wv_X6_137 : Cond.constant RX6 137 (-2147483648) ∈ TG := tb3 (List.mem_of_getElem? (i := 162) rfl) rfl
theorem wl_L_78 : Cond.methodLink RL 78 yX6_worn ∈ TG := tb3 (List.mem_of_getElem? (i := 163) rfl) rfl
theorem wi_X6_worn : Cond.instanceMethod yX6_worn ∈ TG := tb3 (List.mem_of_getElem? (i := 164) rfl) rfl
theorem wse_X6_worn : Cond.selects RX6 yX6_worn yX6_worn ∈ TG := tb3 (List.mem_of_getElem? (i := 165) rfl) rfl
theorem wc_X6_worn : Cond.code yX6_worn cX6_worn 4 (some .int) ∈ TG := tb3 (List.mem_of_getElem? (i := 166) rfl) rfl
theorem wl_L_82 : Cond.methodLink RL 82 yX6_tells ∈ TG := tb3 (List.mem_of_getElem? (i := 167) rfl) rfl
theorem wi_X6_tells : Cond.instanceMethod yX6_tells ∈ TG := tb3 (List.mem_of_getElem? (i := 168) rfl) rfl
theorem wse_X6_tells : Cond.selects RX6 yX6_tells yX6_tells ∈ TG := tb3 (List.mem_of_getElem? (i := 169) rfl) rfl
theorem wc_X6_tells : Cond.code yX6_tells cX6_tells 3 (some .int) ∈ TG := tb3 (List.mem_of_getElem? (i := 170) rfl) rfl
theorem wl_X6_141 : Cond.methodLink RX6 141 yX6_tellsAt ∈ TG := tb3 (List.mem_of_getElem? (i := 171) rfl) rfl
theorem wi_X6_tellsAt : Cond.instanceMethod yX6_tellsAt ∈ TG := tb3 (List.mem_of_getElem? (i := 173) rfl) rfl
theorem wc_X6_tellsAt : Cond.code yX6_tellsAt cX6_tellsAt 4 (some .int) ∈ TG := tb3 (List.mem_of_getElem? (i := 174) rfl) rfl
theorem wl_X6_138 : Cond.methodLink RX6 138 yX6_opensBy ∈ TG := tb3 (List.mem_of_getElem? (i := 175) rfl) rfl
theorem wi_X6_opensBy : Cond.instanceMethod yX6_opensBy ∈ TG := tb3 (List.mem_of_getElem? (i := 177) rfl) rfl
theorem wc_X6_opensBy : Cond.code yX6_opensBy cX6_opensBy 9 (some .int) ∈ TG := tb3 (List.mem_of_getElem? (i := 178) rfl) rfl
theorem wl_L_86 : Cond.methodLink RL 86 yX6_next ∈ TG := tb3 (List.mem_of_getElem? (i := 179) rfl) rfl
theorem wi_X6_next : Cond.instanceMethod yX6_next ∈ TG := tb3 (List.mem_of_getElem? (i := 180) rfl) rfl
theorem wse_X6_next : Cond.selects RX6 yX6_next yX6_next ∈ TG := tb3 (List.mem_of_getElem? (i := 181) rfl) rfl
theorem wc_X6_next : Cond.code yX6_next cX6_next 6 (some .int) ∈ TG := tb3 (List.mem_of_getElem? (i := 182) rfl) rfl
theorem wl_L_91 : Cond.methodLink RL 91 yX6_bend ∈ TG := tb3 (List.mem_of_getElem? (i := 183) rfl) rfl
theorem wi_X6_bend : Cond.instanceMethod yX6_bend ∈ TG := tb3 (List.mem_of_getElem? (i := 184) rfl) rfl
theorem wse_X6_bend : Cond.selects RX6 yX6_bend yX6_bend ∈ TG := tb3 (List.mem_of_getElem? (i := 185) rfl) rfl
theorem wc_X6_bend : Cond.code yX6_bend cX6_bend 6 (some .int) ∈ TG := tb3 (List.mem_of_getElem? (i := 186) rfl) rfl
theorem wl_X6_144 : Cond.methodLink RX6 144 yX6_depth ∈ TG := tb3 (List.mem_of_getElem? (i := 187) rfl) rfl
theorem wi_X6_depth : Cond.instanceMethod yX6_depth ∈ TG := tb3 (List.mem_of_getElem? (i := 189) rfl) rfl
theorem wc_X6_depth : Cond.code yX6_depth cX6_depth 4 (some .int) ∈ TG := tb3 (List.mem_of_getElem? (i := 190) rfl) rfl
theorem wl_L_95 : Cond.methodLink RL 95 yX6_told ∈ TG := tb3 (List.mem_of_getElem? (i := 191) rfl) rfl
theorem wi_X6_told : Cond.instanceMethod yX6_told ∈ TG := tb3 (List.mem_of_getElem? (i := 192) rfl) rfl
theorem wse_X6_told : Cond.selects RX6 yX6_told yX6_told ∈ TG := tb3 (List.mem_of_getElem? (i := 193) rfl) rfl
theorem wc_X6_told : Cond.code yX6_told cX6_told 3 (some .int) ∈ TG := tb3 (List.mem_of_getElem? (i := 194) rfl) rfl
theorem wl_L_99 : Cond.methodLink RL 99 yX6_count ∈ TG := tb3 (List.mem_of_getElem? (i := 195) rfl) rfl
theorem wi_X6_count : Cond.instanceMethod yX6_count ∈ TG := tb3 (List.mem_of_getElem? (i := 196) rfl) rfl
theorem wse_X6_count : Cond.selects RX6 yX6_count yX6_count ∈ TG := tb3 (List.mem_of_getElem? (i := 197) rfl) rfl
theorem wc_X6_count : Cond.code yX6_count cX6_count 4 (some .int) ∈ TG := tb3 (List.mem_of_getElem? (i := 198) rfl) rfl
theorem wse_X2_bindThick : Cond.selects RX2 yX2_bindThick yX2_bindThick ∈ TG := tbs1 (q := (⟨"HillLayers$Rock", "bindThick", "(LHillLayers$Gaps;II)Z"⟩, 7)) (List.mem_of_getElem? (i := 0) rfl)
theorem wse_X1_isPlace : Cond.selects RX1 yX1_isPlace yX1_isPlace ∈ TG := tbs1 (q := (⟨"HillLayers$Gaps", "isPlace", "(I)Z"⟩, 2)) (List.mem_of_getElem? (i := 1) rfl)
theorem wse_X1_narrow : Cond.selects RX1 yX1_narrow yX1_narrow ∈ TG := tbs1 (q := (⟨"HillLayers$Gaps", "narrow", "(III)V"⟩, 2)) (List.mem_of_getElem? (i := 2) rfl)
theorem wse_X2_bindStep : Cond.selects RX2 yX2_bindStep yX2_bindStep ∈ TG := tbs1 (q := (⟨"HillLayers$Rock", "bindStep", "(LHillLayers$Gaps;II)Z"⟩, 7)) (List.mem_of_getElem? (i := 3) rfl)
theorem wse_X0_findQuarrel : Cond.selects RX0 yX0_findQuarrel yX0_findQuarrel ∈ TG := tbs1 (q := (⟨"HillLayers$Bodies", "findQuarrel", "()V"⟩, 9)) (List.mem_of_getElem? (i := 4) rfl)
theorem wse_X5_end : Cond.selects RX5 yX5_end yX5_end ∈ TG := tbs1 (q := (⟨"HillLayers", "end", "(II)I"⟩, 4)) (List.mem_of_getElem? (i := 5) rfl)
theorem wse_X5_isPlaceCode : Cond.selects RX5 yX5_isPlaceCode yX5_isPlaceCode ∈ TG := tbs1 (q := (⟨"HillLayers", "isPlaceCode", "(I)Z"⟩, 4)) (List.mem_of_getElem? (i := 6) rfl)
theorem wse_X5_gain : Cond.selects RX5 yX5_gain yX5_gain ∈ TG := tbs1 (q := (⟨"HillLayers", "gain", "(I)I"⟩, 4)) (List.mem_of_getElem? (i := 7) rfl)
theorem wse_X6_isPlace : Cond.selects RX6 yX6_isPlace yX6_isPlace ∈ TG := tbs1 (q := (⟨"HillLayersModel", "isPlace", "(II)Z"⟩, 19)) (List.mem_of_getElem? (i := 8) rfl)
theorem wse_X6_isSight : Cond.selects RX6 yX6_isSight yX6_isSight ∈ TG := tbs1 (q := (⟨"HillLayersModel", "isSight", "(I)Z"⟩, 19)) (List.mem_of_getElem? (i := 9) rfl)
theorem wse_X6_reckons : Cond.selects RX6 yX6_reckons yX6_reckons ∈ TG := tbs1 (q := (⟨"HillLayersModel", "reckons", "()Z"⟩, 19)) (List.mem_of_getElem? (i := 10) rfl)
theorem wse_X6_found : Cond.selects RX6 yX6_found yX6_found ∈ TG := tbs1 (q := (⟨"HillLayersModel", "found", "()Z"⟩, 19)) (List.mem_of_getElem? (i := 11) rfl)
theorem wse_X6_stands : Cond.selects RX6 yX6_stands yX6_stands ∈ TG := tbs1 (q := (⟨"HillLayersModel", "stands", "()Z"⟩, 19)) (List.mem_of_getElem? (i := 12) rfl)
theorem wse_X6_bounds : Cond.selects RX6 yX6_bounds yX6_bounds ∈ TG := tbs1 (q := (⟨"HillLayersModel", "bounds", "(III)V"⟩, 19)) (List.mem_of_getElem? (i := 13) rfl)
theorem wse_X6_within : Cond.selects RX6 yX6_within yX6_within ∈ TG := tbs1 (q := (⟨"HillLayersModel", "within", "(IIII)V"⟩, 19)) (List.mem_of_getElem? (i := 14) rfl)
theorem wse_X6_pairs : Cond.selects RX6 yX6_pairs yX6_pairs ∈ TG := tbs1 (q := (⟨"HillLayersModel", "pairs", "(I)V"⟩, 19)) (List.mem_of_getElem? (i := 15) rfl)
theorem wse_X6_agrees : Cond.selects RX6 yX6_agrees yX6_agrees ∈ TG := tbs2 (q := (⟨"HillLayersModel", "agrees", "(I)Z"⟩, 19)) (List.mem_of_getElem? (i := 0) rfl)
theorem wse_X6_sees : Cond.selects RX6 yX6_sees yX6_sees ∈ TG := tbs2 (q := (⟨"HillLayersModel", "sees", "(I)Z"⟩, 19)) (List.mem_of_getElem? (i := 1) rfl)
theorem wse_X6_addsWithin : Cond.selects RX6 yX6_addsWithin yX6_addsWithin ∈ TG := tbs2 (q := (⟨"HillLayersModel", "addsWithin", "(IIII)Z"⟩, 19)) (List.mem_of_getElem? (i := 2) rfl)
theorem wse_X6_adds : Cond.selects RX6 yX6_adds yX6_adds ∈ TG := tbs2 (q := (⟨"HillLayersModel", "adds", "(III)Z"⟩, 19)) (List.mem_of_getElem? (i := 3) rfl)
theorem wse_X6_low : Cond.selects RX6 yX6_low yX6_low ∈ TG := tbs2 (q := (⟨"HillLayersModel", "low", "(I)I"⟩, 19)) (List.mem_of_getElem? (i := 4) rfl)
theorem wse_X6_high : Cond.selects RX6 yX6_high yX6_high ∈ TG := tbs2 (q := (⟨"HillLayersModel", "high", "(I)I"⟩, 19)) (List.mem_of_getElem? (i := 5) rfl)
theorem wse_X6_opens : Cond.selects RX6 yX6_opens yX6_opens ∈ TG := tbs2 (q := (⟨"HillLayersModel", "opens", "()I"⟩, 19)) (List.mem_of_getElem? (i := 6) rfl)
theorem wse_X6_tellsAt : Cond.selects RX6 yX6_tellsAt yX6_tellsAt ∈ TG := tbs2 (q := (⟨"HillLayersModel", "tellsAt", "(I)I"⟩, 19)) (List.mem_of_getElem? (i := 7) rfl)
theorem wse_X6_opensBy : Cond.selects RX6 yX6_opensBy yX6_opensBy ∈ TG := tbs2 (q := (⟨"HillLayersModel", "opensBy", "(II)I"⟩, 19)) (List.mem_of_getElem? (i := 8) rfl)
theorem wse_X6_depth : Cond.selects RX6 yX6_depth yX6_depth ∈ TG := tbs2 (q := (⟨"HillLayersModel", "depth", "(III)I"⟩, 19)) (List.mem_of_getElem? (i := 9) rfl)
theorem ly_X0_0 : u_lay RX0 TX0 0 ∈ TG := tb1 (List.mem_of_getElem? (i := 105) rfl) rfl
theorem ly_X0_1 : u_lay RX0 TX0 1 ∈ TG := tb1 (List.mem_of_getElem? (i := 107) rfl) rfl
theorem ly_X0_2 : u_lay RX0 TX0 2 ∈ TG := tb1 (List.mem_of_getElem? (i := 109) rfl) rfl
theorem ly_X0_3 : u_lay RX0 TX0 3 ∈ TG := tb1 (List.mem_of_getElem? (i := 111) rfl) rfl
theorem ly_X0_4 : u_lay RX0 TX0 4 ∈ TG := tb1 (List.mem_of_getElem? (i := 113) rfl) rfl
theorem ly_X0_5 : u_lay RX0 TX0 5 ∈ TG := tb1 (List.mem_of_getElem? (i := 115) rfl) rfl
theorem ly_X0_6 : u_lay RX0 TX0 6 ∈ TG := tb1 (List.mem_of_getElem? (i := 117) rfl) rfl
theorem ly_X0_7 : u_lay RX0 TX0 7 ∈ TG := tb1 (List.mem_of_getElem? (i := 119) rfl) rfl
theorem ly_X0_8 : u_lay RX0 TX0 8 ∈ TG := tb1 (List.mem_of_getElem? (i := 121) rfl) rfl
theorem in_X0 : ∀ w ∈ wsX00, w ∈ TG := by
  intro w h
  obtain ⟨k, hk, rfl⟩ := List.mem_map.mp h
  have hk := List.mem_range.mp hk
  match k, hk with
  | 0, _ => exact ly_X0_0
  | 1, _ => exact ly_X0_1
  | 2, _ => exact ly_X0_2
  | 3, _ => exact ly_X0_3
  | 4, _ => exact ly_X0_4
  | 5, _ => exact ly_X0_5
  | 6, _ => exact ly_X0_6
  | 7, _ => exact ly_X0_7
  | 8, _ => exact ly_X0_8
  | k + 9, hk => exact absurd hk (by omega)
theorem ly_X1_0 : u_lay RX1 TX1 0 ∈ TG := tb1 (List.mem_of_getElem? (i := 91) rfl) rfl
theorem ly_X1_1 : u_lay RX1 TX1 1 ∈ TG := tb1 (List.mem_of_getElem? (i := 93) rfl) rfl
theorem in_X1 : ∀ w ∈ wsX10, w ∈ TG := by
  intro w h
  obtain ⟨k, hk, rfl⟩ := List.mem_map.mp h
  have hk := List.mem_range.mp hk
  match k, hk with
  | 0, _ => exact ly_X1_0
  | 1, _ => exact ly_X1_1
  | k + 2, hk => exact absurd hk (by omega)
theorem ly_X2_0 : u_lay RX2 TX2 0 ∈ TG := tb1 (List.mem_of_getElem? (i := 39) rfl) rfl
theorem ly_X2_1 : u_lay RX2 TX2 1 ∈ TG := tb1 (List.mem_of_getElem? (i := 41) rfl) rfl
theorem ly_X2_2 : u_lay RX2 TX2 2 ∈ TG := tb1 (List.mem_of_getElem? (i := 43) rfl) rfl
theorem ly_X2_3 : u_lay RX2 TX2 3 ∈ TG := tb1 (List.mem_of_getElem? (i := 45) rfl) rfl
theorem ly_X2_4 : u_lay RX2 TX2 4 ∈ TG := tb1 (List.mem_of_getElem? (i := 47) rfl) rfl
theorem ly_X2_5 : u_lay RX2 TX2 5 ∈ TG := tb1 (List.mem_of_getElem? (i := 49) rfl) rfl
theorem ly_X2_6 : u_lay RX2 TX2 6 ∈ TG := tb1 (List.mem_of_getElem? (i := 51) rfl) rfl
theorem in_X2 : ∀ w ∈ wsX20, w ∈ TG := by
  intro w h
  obtain ⟨k, hk, rfl⟩ := List.mem_map.mp h
  have hk := List.mem_range.mp hk
  match k, hk with
  | 0, _ => exact ly_X2_0
  | 1, _ => exact ly_X2_1
  | 2, _ => exact ly_X2_2
  | 3, _ => exact ly_X2_3
  | 4, _ => exact ly_X2_4
  | 5, _ => exact ly_X2_5
  | 6, _ => exact ly_X2_6
  | k + 7, hk => exact absurd hk (by omega)
theorem ly_X3_0 : u_lay RX3 TX3 0 ∈ TG := tb1 (List.mem_of_getElem? (i := 220) rfl) rfl
theorem ly_X3_1 : u_lay RX3 TX3 1 ∈ TG := tb1 (List.mem_of_getElem? (i := 222) rfl) rfl
theorem ly_X3_2 : u_lay RX3 TX3 2 ∈ TG := tb1 (List.mem_of_getElem? (i := 224) rfl) rfl
theorem ly_X3_3 : u_lay RX3 TX3 3 ∈ TG := tb1 (List.mem_of_getElem? (i := 226) rfl) rfl
theorem ly_X3_4 : u_lay RX3 TX3 4 ∈ TG := tb1 (List.mem_of_getElem? (i := 228) rfl) rfl
theorem in_X3 : ∀ w ∈ wsX30, w ∈ TG := by
  intro w h
  obtain ⟨k, hk, rfl⟩ := List.mem_map.mp h
  have hk := List.mem_range.mp hk
  match k, hk with
  | 0, _ => exact ly_X3_0
  | 1, _ => exact ly_X3_1
  | 2, _ => exact ly_X3_2
  | 3, _ => exact ly_X3_3
  | 4, _ => exact ly_X3_4
  | k + 5, hk => exact absurd hk (by omega)
theorem ly_X4_0 : u_lay RX4 TX4 0 ∈ TG := tb1 (List.mem_of_getElem? (i := 66) rfl) rfl
theorem ly_X4_1 : u_lay RX4 TX4 1 ∈ TG := tb1 (List.mem_of_getElem? (i := 68) rfl) rfl
theorem in_X4 : ∀ w ∈ wsX40, w ∈ TG := by
  intro w h
  obtain ⟨k, hk, rfl⟩ := List.mem_map.mp h
  have hk := List.mem_range.mp hk
  match k, hk with
  | 0, _ => exact ly_X4_0
  | 1, _ => exact ly_X4_1
  | k + 2, hk => exact absurd hk (by omega)
theorem ly_X5_0 : u_lay RX5 TX5 0 ∈ TG := tb1 (List.mem_of_getElem? (i := 128) rfl) rfl
theorem ly_X5_1 : u_lay RX5 TX5 1 ∈ TG := tb1 (List.mem_of_getElem? (i := 130) rfl) rfl
theorem ly_X5_2 : u_lay RX5 TX5 2 ∈ TG := tb1 (List.mem_of_getElem? (i := 132) rfl) rfl
theorem ly_X5_3 : u_lay RX5 TX5 3 ∈ TG := tb1 (List.mem_of_getElem? (i := 134) rfl) rfl
theorem in_X5 : ∀ w ∈ wsX50, w ∈ TG := by
  intro w h
  obtain ⟨k, hk, rfl⟩ := List.mem_map.mp h
  have hk := List.mem_range.mp hk
  match k, hk with
  | 0, _ => exact ly_X5_0
  | 1, _ => exact ly_X5_1
  | 2, _ => exact ly_X5_2
  | 3, _ => exact ly_X5_3
  | k + 4, hk => exact absurd hk (by omega)
theorem ly_X6_0 : u_lay RX6 TX6 0 ∈ TG := tb3 (List.mem_of_getElem? (i := 4) rfl) rfl
theorem ly_X6_1 : u_lay RX6 TX6 1 ∈ TG := tb3 (List.mem_of_getElem? (i := 6) rfl) rfl
theorem ly_X6_2 : u_lay RX6 TX6 2 ∈ TG := tb3 (List.mem_of_getElem? (i := 8) rfl) rfl
theorem ly_X6_3 : u_lay RX6 TX6 3 ∈ TG := tb3 (List.mem_of_getElem? (i := 10) rfl) rfl
theorem ly_X6_4 : u_lay RX6 TX6 4 ∈ TG := tb3 (List.mem_of_getElem? (i := 12) rfl) rfl
theorem ly_X6_5 : u_lay RX6 TX6 5 ∈ TG := tb3 (List.mem_of_getElem? (i := 14) rfl) rfl
theorem ly_X6_6 : u_lay RX6 TX6 6 ∈ TG := tb3 (List.mem_of_getElem? (i := 16) rfl) rfl
theorem ly_X6_7 : u_lay RX6 TX6 7 ∈ TG := tb3 (List.mem_of_getElem? (i := 18) rfl) rfl
theorem ly_X6_8 : u_lay RX6 TX6 8 ∈ TG := tb3 (List.mem_of_getElem? (i := 20) rfl) rfl
theorem ly_X6_9 : u_lay RX6 TX6 9 ∈ TG := tb3 (List.mem_of_getElem? (i := 22) rfl) rfl
theorem ly_X6_10 : u_lay RX6 TX6 10 ∈ TG := tb3 (List.mem_of_getElem? (i := 24) rfl) rfl
theorem ly_X6_11 : u_lay RX6 TX6 11 ∈ TG := tb3 (List.mem_of_getElem? (i := 26) rfl) rfl
theorem ly_X6_12 : u_lay RX6 TX6 12 ∈ TG := tb3 (List.mem_of_getElem? (i := 28) rfl) rfl
theorem ly_X6_13 : u_lay RX6 TX6 13 ∈ TG := tb3 (List.mem_of_getElem? (i := 30) rfl) rfl
theorem ly_X6_14 : u_lay RX6 TX6 14 ∈ TG := tb3 (List.mem_of_getElem? (i := 32) rfl) rfl
theorem ly_X6_15 : u_lay RX6 TX6 15 ∈ TG := tb3 (List.mem_of_getElem? (i := 34) rfl) rfl
theorem ly_X6_16 : u_lay RX6 TX6 16 ∈ TG := tb3 (List.mem_of_getElem? (i := 36) rfl) rfl
theorem ly_X6_17 : u_lay RX6 TX6 17 ∈ TG := tb3 (List.mem_of_getElem? (i := 38) rfl) rfl
theorem ly_X6_18 : u_lay RX6 TX6 18 ∈ TG := tb3 (List.mem_of_getElem? (i := 40) rfl) rfl
theorem in_X6 : ∀ w ∈ wsX60, w ∈ TG := by
  intro w h
  obtain ⟨k, hk, rfl⟩ := List.mem_map.mp h
  have hk := List.mem_range.mp hk
  match k, hk with
  | 0, _ => exact ly_X6_0
  | 1, _ => exact ly_X6_1
  | 2, _ => exact ly_X6_2
  | 3, _ => exact ly_X6_3
  | 4, _ => exact ly_X6_4
  | 5, _ => exact ly_X6_5
  | 6, _ => exact ly_X6_6
  | 7, _ => exact ly_X6_7
  | 8, _ => exact ly_X6_8
  | 9, _ => exact ly_X6_9
  | 10, _ => exact ly_X6_10
  | 11, _ => exact ly_X6_11
  | 12, _ => exact ly_X6_12
  | 13, _ => exact ly_X6_13
  | 14, _ => exact ly_X6_14
  | 15, _ => exact ly_X6_15
  | 16, _ => exact ly_X6_16
  | 17, _ => exact ly_X6_17
  | 18, _ => exact ly_X6_18
  | k + 19, hk => exact absurd hk (by omega)
end
section
theorem dX0_init_0 : decode cX0_init 0 = .ok (.aload_n 0, 1) := by decide +kernel
theorem dX0_init_1 : decode cX0_init 1 = .ok (.invokespecial 3, 3) := by decide +kernel
theorem dX0_init_4 : decode cX0_init 4 = .ok (.aload_n 0, 1) := by decide +kernel
theorem dX0_init_5 : decode cX0_init 5 = .ok (.bipush 10, 2) := by decide +kernel
theorem dX0_init_7 : decode cX0_init 7 = .ok (.anewarray 9, 3) := by decide +kernel
theorem dX0_init_10 : decode cX0_init 10 = .ok (.putfield 11, 3) := by decide +kernel
theorem dX0_init_13 : decode cX0_init 13 = .ok (.aload_n 0, 1) := by decide +kernel
theorem dX0_init_14 : decode cX0_init 14 = .ok (.iconst 0, 1) := by decide +kernel
theorem dX0_init_15 : decode cX0_init 15 = .ok (.putfield 17, 3) := by decide +kernel
theorem dX0_init_18 : decode cX0_init 18 = .ok (.aload_n 0, 1) := by decide +kernel
theorem dX0_init_19 : decode cX0_init 19 = .ok (.iconst 0, 1) := by decide +kernel
theorem dX0_init_20 : decode cX0_init 20 = .ok (.putfield 21, 3) := by decide +kernel
theorem dX0_init_23 : decode cX0_init 23 = .ok (.aload_n 0, 1) := by decide +kernel
theorem dX0_init_24 : decode cX0_init 24 = .ok (.iconst 0, 1) := by decide +kernel
theorem dX0_init_25 : decode cX0_init 25 = .ok (.putfield 24, 3) := by decide +kernel
theorem dX0_init_28 : decode cX0_init 28 = .ok (.aload_n 0, 1) := by decide +kernel
theorem dX0_init_29 : decode cX0_init 29 = .ok (.iconst 0, 1) := by decide +kernel
theorem dX0_init_30 : decode cX0_init 30 = .ok (.putfield 27, 3) := by decide +kernel
theorem dX0_init_33 : decode cX0_init 33 = .ok (.aload_n 0, 1) := by decide +kernel
theorem dX0_init_34 : decode cX0_init 34 = .ok (.aload_n 1, 1) := by decide +kernel
theorem dX0_init_35 : decode cX0_init 35 = .ok (.putfield 31, 3) := by decide +kernel
theorem dX0_init_38 : decode cX0_init 38 = .ok (.aload_n 0, 1) := by decide +kernel
theorem dX0_init_39 : decode cX0_init 39 = .ok (.aload_n 2, 1) := by decide +kernel
theorem dX0_init_40 : decode cX0_init 40 = .ok (.putfield 35, 3) := by decide +kernel
theorem dX0_init_43 : decode cX0_init 43 = .ok (.iconst 0, 1) := by decide +kernel
theorem dX0_init_44 : decode cX0_init 44 = .ok (.istore_n 3, 1) := by decide +kernel
theorem dX0_init_45 : decode cX0_init 45 = .ok (.iload_n 3, 1) := by decide +kernel
theorem dX0_init_46 : decode cX0_init 46 = .ok (.aload_n 0, 1) := by decide +kernel
theorem dX0_init_47 : decode cX0_init 47 = .ok (.getfield 11, 3) := by decide +kernel
theorem dX0_init_50 : decode cX0_init 50 = .ok (.arraylength, 1) := by decide +kernel
theorem dX0_init_51 : decode cX0_init 51 = .ok (.if_icmp .ge 26, 3) := by decide +kernel
theorem dX0_init_54 : decode cX0_init 54 = .ok (.aload_n 0, 1) := by decide +kernel
theorem dX0_init_55 : decode cX0_init 55 = .ok (.getfield 11, 3) := by decide +kernel
theorem dX0_init_58 : decode cX0_init 58 = .ok (.iload_n 3, 1) := by decide +kernel
theorem dX0_init_59 : decode cX0_init 59 = .ok (.new 9, 3) := by decide +kernel
theorem dX0_init_62 : decode cX0_init 62 = .ok (.dup, 1) := by decide +kernel
theorem dX0_init_63 : decode cX0_init 63 = .ok (.aload_n 1, 1) := by decide +kernel
theorem dX0_init_64 : decode cX0_init 64 = .ok (.invokevirtual 39, 3) := by decide +kernel
theorem dX0_init_67 : decode cX0_init 67 = .ok (.invokespecial 45, 3) := by decide +kernel
theorem dX0_init_70 : decode cX0_init 70 = .ok (.aastore, 1) := by decide +kernel
theorem dX0_init_71 : decode cX0_init 71 = .ok (.iinc 3 1, 3) := by decide +kernel
theorem dX0_init_74 : decode cX0_init 74 = .ok (.goto (-29), 3) := by decide +kernel
theorem dX0_init_77 : decode cX0_init 77 = .ok (.aload_n 0, 1) := by decide +kernel
theorem dX0_init_78 : decode cX0_init 78 = .ok (.new 9, 3) := by decide +kernel
theorem dX0_init_81 : decode cX0_init 81 = .ok (.dup, 1) := by decide +kernel
theorem dX0_init_82 : decode cX0_init 82 = .ok (.aload_n 1, 1) := by decide +kernel
theorem dX0_init_83 : decode cX0_init 83 = .ok (.invokevirtual 39, 3) := by decide +kernel
theorem dX0_init_86 : decode cX0_init 86 = .ok (.invokespecial 45, 3) := by decide +kernel
theorem dX0_init_89 : decode cX0_init 89 = .ok (.putfield 48, 3) := by decide +kernel
theorem dX0_init_92 : decode cX0_init 92 = .ok (.aload_n 0, 1) := by decide +kernel
theorem dX0_init_93 : decode cX0_init 93 = .ok (.new 9, 3) := by decide +kernel
theorem dX0_init_96 : decode cX0_init 96 = .ok (.dup, 1) := by decide +kernel
theorem dX0_init_97 : decode cX0_init 97 = .ok (.aload_n 1, 1) := by decide +kernel
theorem dX0_init_98 : decode cX0_init 98 = .ok (.invokevirtual 39, 3) := by decide +kernel
theorem dX0_init_101 : decode cX0_init 101 = .ok (.invokespecial 45, 3) := by decide +kernel
theorem dX0_init_104 : decode cX0_init 104 = .ok (.putfield 52, 3) := by decide +kernel
theorem dX0_init_107 : decode cX0_init 107 = .ok (.return_, 1) := by decide +kernel
theorem dX0_forgetRock_0 : decode cX0_forgetRock 0 = .ok (.aload_n 0, 1) := by decide +kernel
theorem dX0_forgetRock_1 : decode cX0_forgetRock 1 = .ok (.iconst 0, 1) := by decide +kernel
theorem dX0_forgetRock_2 : decode cX0_forgetRock 2 = .ok (.putfield 17, 3) := by decide +kernel
theorem dX0_forgetRock_5 : decode cX0_forgetRock 5 = .ok (.aload_n 0, 1) := by decide +kernel
theorem dX0_forgetRock_6 : decode cX0_forgetRock 6 = .ok (.iconst 0, 1) := by decide +kernel
theorem dX0_forgetRock_7 : decode cX0_forgetRock 7 = .ok (.putfield 21, 3) := by decide +kernel
theorem dX0_forgetRock_10 : decode cX0_forgetRock 10 = .ok (.return_, 1) := by decide +kernel
theorem dX0_forgetQuarrel_0 : decode cX0_forgetQuarrel 0 = .ok (.aload_n 0, 1) := by decide +kernel
theorem dX0_forgetQuarrel_1 : decode cX0_forgetQuarrel 1 = .ok (.iconst 0, 1) := by decide +kernel
theorem dX0_forgetQuarrel_2 : decode cX0_forgetQuarrel 2 = .ok (.putfield 21, 3) := by decide +kernel
theorem dX0_forgetQuarrel_5 : decode cX0_forgetQuarrel 5 = .ok (.return_, 1) := by decide +kernel
theorem dX0_areSome_0 : decode cX0_areSome 0 = .ok (.aload_n 0, 1) := by decide +kernel
theorem dX0_areSome_1 : decode cX0_areSome 1 = .ok (.getfield 17, 3) := by decide +kernel
theorem dX0_areSome_4 : decode cX0_areSome 4 = .ok (.ifCond .ne 30, 3) := by decide +kernel
theorem dX0_areSome_7 : decode cX0_areSome 7 = .ok (.aload_n 0, 1) := by decide +kernel
theorem dX0_areSome_8 : decode cX0_areSome 8 = .ok (.getfield 48, 3) := by decide +kernel
theorem dX0_areSome_11 : decode cX0_areSome 11 = .ok (.invokevirtual 55, 3) := by decide +kernel
theorem dX0_areSome_14 : decode cX0_areSome 14 = .ok (.aload_n 0, 1) := by decide +kernel
theorem dX0_areSome_15 : decode cX0_areSome 15 = .ok (.aload_n 0, 1) := by decide +kernel
theorem dX0_areSome_16 : decode cX0_areSome 16 = .ok (.getfield 31, 3) := by decide +kernel
theorem dX0_areSome_19 : decode cX0_areSome 19 = .ok (.aload_n 0, 1) := by decide +kernel
theorem dX0_areSome_20 : decode cX0_areSome 20 = .ok (.getfield 48, 3) := by decide +kernel
theorem dX0_areSome_23 : decode cX0_areSome 23 = .ok (.invokevirtual 58, 3) := by decide +kernel
theorem dX0_areSome_26 : decode cX0_areSome 26 = .ok (.putfield 24, 3) := by decide +kernel
theorem dX0_areSome_29 : decode cX0_areSome 29 = .ok (.aload_n 0, 1) := by decide +kernel
theorem dX0_areSome_30 : decode cX0_areSome 30 = .ok (.iconst 1, 1) := by decide +kernel
theorem dX0_areSome_31 : decode cX0_areSome 31 = .ok (.putfield 17, 3) := by decide +kernel
theorem dX0_areSome_34 : decode cX0_areSome 34 = .ok (.aload_n 0, 1) := by decide +kernel
theorem dX0_areSome_35 : decode cX0_areSome 35 = .ok (.getfield 24, 3) := by decide +kernel
theorem dX0_areSome_38 : decode cX0_areSome 38 = .ok (.ifCond .eq 19, 3) := by decide +kernel
theorem dX0_areSome_41 : decode cX0_areSome 41 = .ok (.aload_n 0, 1) := by decide +kernel
theorem dX0_areSome_42 : decode cX0_areSome 42 = .ok (.getfield 21, 3) := by decide +kernel
theorem dX0_areSome_45 : decode cX0_areSome 45 = .ok (.ifCond .ne 12, 3) := by decide +kernel
theorem dX0_areSome_48 : decode cX0_areSome 48 = .ok (.aload_n 0, 1) := by decide +kernel
theorem dX0_areSome_49 : decode cX0_areSome 49 = .ok (.invokevirtual 62, 3) := by decide +kernel
theorem dX0_areSome_52 : decode cX0_areSome 52 = .ok (.aload_n 0, 1) := by decide +kernel
theorem dX0_areSome_53 : decode cX0_areSome 53 = .ok (.iconst 1, 1) := by decide +kernel
theorem dX0_areSome_54 : decode cX0_areSome 54 = .ok (.putfield 21, 3) := by decide +kernel
theorem dX0_areSome_57 : decode cX0_areSome 57 = .ok (.aload_n 0, 1) := by decide +kernel
theorem dX0_areSome_58 : decode cX0_areSome 58 = .ok (.getfield 24, 3) := by decide +kernel
theorem dX0_areSome_61 : decode cX0_areSome 61 = .ok (.ireturn, 1) := by decide +kernel
theorem dX0_leftOut_0 : decode cX0_leftOut 0 = .ok (.aload_n 0, 1) := by decide +kernel
theorem dX0_leftOut_1 : decode cX0_leftOut 1 = .ok (.getfield 27, 3) := by decide +kernel
theorem dX0_leftOut_4 : decode cX0_leftOut 4 = .ok (.ireturn, 1) := by decide +kernel
theorem dX0_agreed_0 : decode cX0_agreed 0 = .ok (.aload_n 0, 1) := by decide +kernel
theorem dX0_agreed_1 : decode cX0_agreed 1 = .ok (.getfield 52, 3) := by decide +kernel
theorem dX0_agreed_4 : decode cX0_agreed 4 = .ok (.areturn, 1) := by decide +kernel
theorem dX0_findQuarrel_0 : decode cX0_findQuarrel 0 = .ok (.aload_n 0, 1) := by decide +kernel
theorem dX0_findQuarrel_1 : decode cX0_findQuarrel 1 = .ok (.aload_n 0, 1) := by decide +kernel
theorem dX0_findQuarrel_2 : decode cX0_findQuarrel 2 = .ok (.getfield 35, 3) := by decide +kernel
theorem dX0_findQuarrel_5 : decode cX0_findQuarrel 5 = .ok (.invokevirtual 65, 3) := by decide +kernel
theorem dX0_findQuarrel_8 : decode cX0_findQuarrel 8 = .ok (.putfield 27, 3) := by decide +kernel
theorem dX0_findQuarrel_11 : decode cX0_findQuarrel 11 = .ok (.aload_n 0, 1) := by decide +kernel
theorem dX0_findQuarrel_12 : decode cX0_findQuarrel 12 = .ok (.getfield 52, 3) := by decide +kernel
theorem dX0_findQuarrel_15 : decode cX0_findQuarrel 15 = .ok (.aload_n 0, 1) := by decide +kernel
theorem dX0_findQuarrel_16 : decode cX0_findQuarrel 16 = .ok (.getfield 48, 3) := by decide +kernel
theorem dX0_findQuarrel_19 : decode cX0_findQuarrel 19 = .ok (.invokevirtual 70, 3) := by decide +kernel
theorem dX0_findQuarrel_22 : decode cX0_findQuarrel 22 = .ok (.aload_n 0, 1) := by decide +kernel
theorem dX0_findQuarrel_23 : decode cX0_findQuarrel 23 = .ok (.aload_n 0, 1) := by decide +kernel
theorem dX0_findQuarrel_24 : decode cX0_findQuarrel 24 = .ok (.getfield 48, 3) := by decide +kernel
theorem dX0_findQuarrel_27 : decode cX0_findQuarrel 27 = .ok (.aload_n 0, 1) := by decide +kernel
theorem dX0_findQuarrel_28 : decode cX0_findQuarrel 28 = .ok (.getfield 35, 3) := by decide +kernel
theorem dX0_findQuarrel_31 : decode cX0_findQuarrel 31 = .ok (.invokevirtual 74, 3) := by decide +kernel
theorem dX0_findQuarrel_34 : decode cX0_findQuarrel 34 = .ok (.aload_n 0, 1) := by decide +kernel
theorem dX0_findQuarrel_35 : decode cX0_findQuarrel 35 = .ok (.getfield 11, 3) := by decide +kernel
theorem dX0_findQuarrel_38 : decode cX0_findQuarrel 38 = .ok (.arraylength, 1) := by decide +kernel
theorem dX0_findQuarrel_39 : decode cX0_findQuarrel 39 = .ok (.invokestatic 77, 3) := by decide +kernel
theorem dX0_findQuarrel_42 : decode cX0_findQuarrel 42 = .ok (.iconst 0, 1) := by decide +kernel
theorem dX0_findQuarrel_43 : decode cX0_findQuarrel 43 = .ok (.invokestatic 83, 3) := by decide +kernel
theorem dX0_findQuarrel_46 : decode cX0_findQuarrel 46 = .ok (.return_, 1) := by decide +kernel
theorem dX0_decide_0 : decode cX0_decide 0 = .ok (.iload_n 3, 1) := by decide +kernel
theorem dX0_decide_1 : decode cX0_decide 1 = .ok (.invokestatic 87, 3) := by decide +kernel
theorem dX0_decide_4 : decode cX0_decide 4 = .ok (.aload_n 0, 1) := by decide +kernel
theorem dX0_decide_5 : decode cX0_decide 5 = .ok (.getfield 27, 3) := by decide +kernel
theorem dX0_decide_8 : decode cX0_decide 8 = .ok (.invokestatic 87, 3) := by decide +kernel
theorem dX0_decide_11 : decode cX0_decide 11 = .ok (.if_icmp .lt 4, 3) := by decide +kernel
theorem dX0_decide_14 : decode cX0_decide 14 = .ok (.return_, 1) := by decide +kernel
theorem dX0_decide_15 : decode cX0_decide 15 = .ok (.iload_n 2, 1) := by decide +kernel
theorem dX0_decide_16 : decode cX0_decide 16 = .ok (.aload_n 0, 1) := by decide +kernel
theorem dX0_decide_17 : decode cX0_decide 17 = .ok (.getfield 11, 3) := by decide +kernel
theorem dX0_decide_20 : decode cX0_decide 20 = .ok (.arraylength, 1) := by decide +kernel
theorem dX0_decide_21 : decode cX0_decide 21 = .ok (.if_icmp .le 4, 3) := by decide +kernel
theorem dX0_decide_24 : decode cX0_decide 24 = .ok (.return_, 1) := by decide +kernel
theorem dX0_decide_25 : decode cX0_decide 25 = .ok (.iload_n 2, 1) := by decide +kernel
theorem dX0_decide_26 : decode cX0_decide 26 = .ok (.ifCond .gt 17, 3) := by decide +kernel
theorem dX0_decide_29 : decode cX0_decide 29 = .ok (.aload_n 0, 1) := by decide +kernel
theorem dX0_decide_30 : decode cX0_decide 30 = .ok (.iload_n 3, 1) := by decide +kernel
theorem dX0_decide_31 : decode cX0_decide 31 = .ok (.putfield 27, 3) := by decide +kernel
theorem dX0_decide_34 : decode cX0_decide 34 = .ok (.aload_n 0, 1) := by decide +kernel
theorem dX0_decide_35 : decode cX0_decide 35 = .ok (.getfield 52, 3) := by decide +kernel
theorem dX0_decide_38 : decode cX0_decide 38 = .ok (.aload_n 1, 1) := by decide +kernel
theorem dX0_decide_39 : decode cX0_decide 39 = .ok (.invokevirtual 70, 3) := by decide +kernel
theorem dX0_decide_42 : decode cX0_decide 42 = .ok (.return_, 1) := by decide +kernel
theorem dX0_decide_43 : decode cX0_decide 43 = .ok (.iload_n 2, 1) := by decide +kernel
theorem dX0_decide_44 : decode cX0_decide 44 = .ok (.iconst 1, 1) := by decide +kernel
theorem dX0_decide_45 : decode cX0_decide 45 = .ok (.isub, 1) := by decide +kernel
theorem dX0_decide_46 : decode cX0_decide 46 = .ok (.istore 4, 2) := by decide +kernel
theorem dX0_decide_48 : decode cX0_decide 48 = .ok (.aload_n 0, 1) := by decide +kernel
theorem dX0_decide_49 : decode cX0_decide 49 = .ok (.getfield 35, 3) := by decide +kernel
theorem dX0_decide_52 : decode cX0_decide 52 = .ok (.iload 4, 2) := by decide +kernel
theorem dX0_decide_54 : decode cX0_decide 54 = .ok (.invokevirtual 93, 3) := by decide +kernel
theorem dX0_decide_57 : decode cX0_decide 57 = .ok (.astore 5, 2) := by decide +kernel
theorem dX0_decide_59 : decode cX0_decide 59 = .ok (.aload_n 0, 1) := by decide +kernel
theorem dX0_decide_60 : decode cX0_decide 60 = .ok (.getfield 11, 3) := by decide +kernel
theorem dX0_decide_63 : decode cX0_decide 63 = .ok (.iload 4, 2) := by decide +kernel
theorem dX0_decide_65 : decode cX0_decide 65 = .ok (.aaload, 1) := by decide +kernel
theorem dX0_decide_66 : decode cX0_decide 66 = .ok (.astore 6, 2) := by decide +kernel
theorem dX0_decide_68 : decode cX0_decide 68 = .ok (.aload 6, 2) := by decide +kernel
theorem dX0_decide_70 : decode cX0_decide 70 = .ok (.aload_n 1, 1) := by decide +kernel
theorem dX0_decide_71 : decode cX0_decide 71 = .ok (.invokevirtual 70, 3) := by decide +kernel
theorem dX0_decide_74 : decode cX0_decide 74 = .ok (.aload 5, 2) := by decide +kernel
theorem dX0_decide_76 : decode cX0_decide 76 = .ok (.ifnull 17, 3) := by decide +kernel
theorem dX0_decide_79 : decode cX0_decide 79 = .ok (.aload 5, 2) := by decide +kernel
theorem dX0_decide_81 : decode cX0_decide 81 = .ok (.aload 6, 2) := by decide +kernel
theorem dX0_decide_83 : decode cX0_decide 83 = .ok (.aload_n 0, 1) := by decide +kernel
theorem dX0_decide_84 : decode cX0_decide 84 = .ok (.getfield 31, 3) := by decide +kernel
theorem dX0_decide_87 : decode cX0_decide 87 = .ok (.invokevirtual 97, 3) := by decide +kernel
theorem dX0_decide_90 : decode cX0_decide 90 = .ok (.ifCond .eq 12, 3) := by decide +kernel
theorem dX0_decide_93 : decode cX0_decide 93 = .ok (.aload_n 0, 1) := by decide +kernel
theorem dX0_decide_94 : decode cX0_decide 94 = .ok (.aload 6, 2) := by decide +kernel
theorem dX0_decide_96 : decode cX0_decide 96 = .ok (.iload 4, 2) := by decide +kernel
theorem dX0_decide_98 : decode cX0_decide 98 = .ok (.iload_n 3, 1) := by decide +kernel
theorem dX0_decide_99 : decode cX0_decide 99 = .ok (.invokestatic 83, 3) := by decide +kernel
theorem dX0_decide_102 : decode cX0_decide 102 = .ok (.aload 5, 2) := by decide +kernel
theorem dX0_decide_104 : decode cX0_decide 104 = .ok (.ifnull 16, 3) := by decide +kernel
theorem dX0_decide_107 : decode cX0_decide 107 = .ok (.aload_n 0, 1) := by decide +kernel
theorem dX0_decide_108 : decode cX0_decide 108 = .ok (.aload_n 1, 1) := by decide +kernel
theorem dX0_decide_109 : decode cX0_decide 109 = .ok (.iload 4, 2) := by decide +kernel
theorem dX0_decide_111 : decode cX0_decide 111 = .ok (.iload_n 3, 1) := by decide +kernel
theorem dX0_decide_112 : decode cX0_decide 112 = .ok (.iconst 1, 1) := by decide +kernel
theorem dX0_decide_113 : decode cX0_decide 113 = .ok (.iload 4, 2) := by decide +kernel
theorem dX0_decide_115 : decode cX0_decide 115 = .ok (.ishl, 1) := by decide +kernel
theorem dX0_decide_116 : decode cX0_decide 116 = .ok (.ior, 1) := by decide +kernel
theorem dX0_decide_117 : decode cX0_decide 117 = .ok (.invokestatic 83, 3) := by decide +kernel
theorem dX0_decide_120 : decode cX0_decide 120 = .ok (.return_, 1) := by decide +kernel
theorem dX1_init_0 : decode cX1_init 0 = .ok (.aload_n 0, 1) := by decide +kernel
theorem dX1_init_1 : decode cX1_init 1 = .ok (.invokespecial 3, 3) := by decide +kernel
theorem dX1_init_4 : decode cX1_init 4 = .ok (.aload_n 0, 1) := by decide +kernel
theorem dX1_init_5 : decode cX1_init 5 = .ok (.iload_n 1, 1) := by decide +kernel
theorem dX1_init_6 : decode cX1_init 6 = .ok (.iconst 0, 1) := by decide +kernel
theorem dX1_init_7 : decode cX1_init 7 = .ok (.invokestatic 9, 3) := by decide +kernel
theorem dX1_init_10 : decode cX1_init 10 = .ok (.iconst 1, 1) := by decide +kernel
theorem dX1_init_11 : decode cX1_init 11 = .ok (.iadd, 1) := by decide +kernel
theorem dX1_init_12 : decode cX1_init 12 = .ok (.putfield 15, 3) := by decide +kernel
theorem dX1_init_15 : decode cX1_init 15 = .ok (.aload_n 0, 1) := by decide +kernel
theorem dX1_init_16 : decode cX1_init 16 = .ok (.aload_n 0, 1) := by decide +kernel
theorem dX1_init_17 : decode cX1_init 17 = .ok (.getfield 15, 3) := by decide +kernel
theorem dX1_init_20 : decode cX1_init 20 = .ok (.aload_n 0, 1) := by decide +kernel
theorem dX1_init_21 : decode cX1_init 21 = .ok (.getfield 15, 3) := by decide +kernel
theorem dX1_init_24 : decode cX1_init 24 = .ok (.imul, 1) := by decide +kernel
theorem dX1_init_25 : decode cX1_init 25 = .ok (.newarray .int, 2) := by decide +kernel
theorem dX1_init_27 : decode cX1_init 27 = .ok (.putfield 21, 3) := by decide +kernel
theorem dX1_init_30 : decode cX1_init 30 = .ok (.return_, 1) := by decide +kernel
theorem dX1_clear_0 : decode cX1_clear 0 = .ok (.iconst 0, 1) := by decide +kernel
theorem dX1_clear_1 : decode cX1_clear 1 = .ok (.istore_n 1, 1) := by decide +kernel
theorem dX1_clear_2 : decode cX1_clear 2 = .ok (.iload_n 1, 1) := by decide +kernel
theorem dX1_clear_3 : decode cX1_clear 3 = .ok (.aload_n 0, 1) := by decide +kernel
theorem dX1_clear_4 : decode cX1_clear 4 = .ok (.getfield 15, 3) := by decide +kernel
theorem dX1_clear_7 : decode cX1_clear 7 = .ok (.if_icmp .ge 63, 3) := by decide +kernel
theorem dX1_clear_10 : decode cX1_clear 10 = .ok (.iconst 0, 1) := by decide +kernel
theorem dX1_clear_11 : decode cX1_clear 11 = .ok (.istore_n 2, 1) := by decide +kernel
theorem dX1_clear_12 : decode cX1_clear 12 = .ok (.iload_n 2, 1) := by decide +kernel
theorem dX1_clear_13 : decode cX1_clear 13 = .ok (.aload_n 0, 1) := by decide +kernel
theorem dX1_clear_14 : decode cX1_clear 14 = .ok (.getfield 15, 3) := by decide +kernel
theorem dX1_clear_17 : decode cX1_clear 17 = .ok (.if_icmp .ge 47, 3) := by decide +kernel
theorem dX1_clear_20 : decode cX1_clear 20 = .ok (.iload_n 1, 1) := by decide +kernel
theorem dX1_clear_21 : decode cX1_clear 21 = .ok (.iload_n 2, 1) := by decide +kernel
theorem dX1_clear_22 : decode cX1_clear 22 = .ok (.if_icmp .eq 7, 3) := by decide +kernel
theorem dX1_clear_25 : decode cX1_clear 25 = .ok (.iload_n 2, 1) := by decide +kernel
theorem dX1_clear_26 : decode cX1_clear 26 = .ok (.ifCond .ne 7, 3) := by decide +kernel
theorem dX1_clear_29 : decode cX1_clear 29 = .ok (.iconst 1, 1) := by decide +kernel
theorem dX1_clear_30 : decode cX1_clear 30 = .ok (.goto 4, 3) := by decide +kernel
theorem dX1_clear_33 : decode cX1_clear 33 = .ok (.iconst 0, 1) := by decide +kernel
theorem dX1_clear_34 : decode cX1_clear 34 = .ok (.istore_n 3, 1) := by decide +kernel
theorem dX1_clear_35 : decode cX1_clear 35 = .ok (.aload_n 0, 1) := by decide +kernel
theorem dX1_clear_36 : decode cX1_clear 36 = .ok (.getfield 21, 3) := by decide +kernel
theorem dX1_clear_39 : decode cX1_clear 39 = .ok (.iload_n 1, 1) := by decide +kernel
theorem dX1_clear_40 : decode cX1_clear 40 = .ok (.aload_n 0, 1) := by decide +kernel
theorem dX1_clear_41 : decode cX1_clear 41 = .ok (.getfield 15, 3) := by decide +kernel
theorem dX1_clear_44 : decode cX1_clear 44 = .ok (.imul, 1) := by decide +kernel
theorem dX1_clear_45 : decode cX1_clear 45 = .ok (.iload_n 2, 1) := by decide +kernel
theorem dX1_clear_46 : decode cX1_clear 46 = .ok (.iadd, 1) := by decide +kernel
theorem dX1_clear_47 : decode cX1_clear 47 = .ok (.iload_n 3, 1) := by decide +kernel
theorem dX1_clear_48 : decode cX1_clear 48 = .ok (.ifCond .eq 7, 3) := by decide +kernel
theorem dX1_clear_51 : decode cX1_clear 51 = .ok (.iconst 0, 1) := by decide +kernel
theorem dX1_clear_52 : decode cX1_clear 52 = .ok (.goto 5, 3) := by decide +kernel
theorem dX1_clear_55 : decode cX1_clear 55 = .ok (.bipush 60, 2) := by decide +kernel
theorem dX1_clear_57 : decode cX1_clear 57 = .ok (.iastore, 1) := by decide +kernel
theorem dX1_clear_58 : decode cX1_clear 58 = .ok (.iinc 2 1, 3) := by decide +kernel
theorem dX1_clear_61 : decode cX1_clear 61 = .ok (.goto (-49), 3) := by decide +kernel
theorem dX1_clear_64 : decode cX1_clear 64 = .ok (.iinc 1 1, 3) := by decide +kernel
theorem dX1_clear_67 : decode cX1_clear 67 = .ok (.goto (-65), 3) := by decide +kernel
theorem dX1_clear_70 : decode cX1_clear 70 = .ok (.return_, 1) := by decide +kernel
theorem dX1_copyFrom_0 : decode cX1_copyFrom 0 = .ok (.aload_n 1, 1) := by decide +kernel
theorem dX1_copyFrom_1 : decode cX1_copyFrom 1 = .ok (.ifnull 32, 3) := by decide +kernel
theorem dX1_copyFrom_4 : decode cX1_copyFrom 4 = .ok (.aload_n 1, 1) := by decide +kernel
theorem dX1_copyFrom_5 : decode cX1_copyFrom 5 = .ok (.getfield 15, 3) := by decide +kernel
theorem dX1_copyFrom_8 : decode cX1_copyFrom 8 = .ok (.aload_n 0, 1) := by decide +kernel
theorem dX1_copyFrom_9 : decode cX1_copyFrom 9 = .ok (.getfield 15, 3) := by decide +kernel
theorem dX1_copyFrom_12 : decode cX1_copyFrom 12 = .ok (.if_icmp .ne 21, 3) := by decide +kernel
theorem dX1_copyFrom_15 : decode cX1_copyFrom 15 = .ok (.aload_n 1, 1) := by decide +kernel
theorem dX1_copyFrom_16 : decode cX1_copyFrom 16 = .ok (.getfield 21, 3) := by decide +kernel
theorem dX1_copyFrom_19 : decode cX1_copyFrom 19 = .ok (.iconst 0, 1) := by decide +kernel
theorem dX1_copyFrom_20 : decode cX1_copyFrom 20 = .ok (.aload_n 0, 1) := by decide +kernel
theorem dX1_copyFrom_21 : decode cX1_copyFrom 21 = .ok (.getfield 21, 3) := by decide +kernel
theorem dX1_copyFrom_24 : decode cX1_copyFrom 24 = .ok (.iconst 0, 1) := by decide +kernel
theorem dX1_copyFrom_25 : decode cX1_copyFrom 25 = .ok (.aload_n 0, 1) := by decide +kernel
theorem dX1_copyFrom_26 : decode cX1_copyFrom 26 = .ok (.getfield 21, 3) := by decide +kernel
theorem dX1_copyFrom_29 : decode cX1_copyFrom 29 = .ok (.arraylength, 1) := by decide +kernel
theorem dX1_copyFrom_30 : decode cX1_copyFrom 30 = .ok (.invokestatic 25, 3) := by decide +kernel
theorem dX1_copyFrom_33 : decode cX1_copyFrom 33 = .ok (.return_, 1) := by decide +kernel
theorem dX1_most_0 : decode cX1_most 0 = .ok (.aload_n 0, 1) := by decide +kernel
theorem dX1_most_1 : decode cX1_most 1 = .ok (.iload_n 1, 1) := by decide +kernel
theorem dX1_most_2 : decode cX1_most 2 = .ok (.invokevirtual 31, 3) := by decide +kernel
theorem dX1_most_5 : decode cX1_most 5 = .ok (.ifCond .eq 27, 3) := by decide +kernel
theorem dX1_most_8 : decode cX1_most 8 = .ok (.aload_n 0, 1) := by decide +kernel
theorem dX1_most_9 : decode cX1_most 9 = .ok (.iload_n 2, 1) := by decide +kernel
theorem dX1_most_10 : decode cX1_most 10 = .ok (.invokevirtual 31, 3) := by decide +kernel
theorem dX1_most_13 : decode cX1_most 13 = .ok (.ifCond .eq 19, 3) := by decide +kernel
theorem dX1_most_16 : decode cX1_most 16 = .ok (.aload_n 0, 1) := by decide +kernel
theorem dX1_most_17 : decode cX1_most 17 = .ok (.getfield 21, 3) := by decide +kernel
theorem dX1_most_20 : decode cX1_most 20 = .ok (.iload_n 1, 1) := by decide +kernel
theorem dX1_most_21 : decode cX1_most 21 = .ok (.aload_n 0, 1) := by decide +kernel
theorem dX1_most_22 : decode cX1_most 22 = .ok (.getfield 15, 3) := by decide +kernel
theorem dX1_most_25 : decode cX1_most 25 = .ok (.imul, 1) := by decide +kernel
theorem dX1_most_26 : decode cX1_most 26 = .ok (.iload_n 2, 1) := by decide +kernel
theorem dX1_most_27 : decode cX1_most 27 = .ok (.iadd, 1) := by decide +kernel
theorem dX1_most_28 : decode cX1_most 28 = .ok (.iaload, 1) := by decide +kernel
theorem dX1_most_29 : decode cX1_most 29 = .ok (.goto 4, 3) := by decide +kernel
theorem dX1_most_32 : decode cX1_most 32 = .ok (.iconst 0, 1) := by decide +kernel
theorem dX1_most_33 : decode cX1_most 33 = .ok (.ireturn, 1) := by decide +kernel
theorem dX1_least_0 : decode cX1_least 0 = .ok (.aload_n 0, 1) := by decide +kernel
theorem dX1_least_1 : decode cX1_least 1 = .ok (.iload_n 1, 1) := by decide +kernel
theorem dX1_least_2 : decode cX1_least 2 = .ok (.iconst 0, 1) := by decide +kernel
theorem dX1_least_3 : decode cX1_least 3 = .ok (.invokevirtual 35, 3) := by decide +kernel
theorem dX1_least_6 : decode cX1_least 6 = .ok (.ineg, 1) := by decide +kernel
theorem dX1_least_7 : decode cX1_least 7 = .ok (.ireturn, 1) := by decide +kernel
theorem dX1_greatest_0 : decode cX1_greatest 0 = .ok (.aload_n 0, 1) := by decide +kernel
theorem dX1_greatest_1 : decode cX1_greatest 1 = .ok (.iconst 0, 1) := by decide +kernel
theorem dX1_greatest_2 : decode cX1_greatest 2 = .ok (.iload_n 1, 1) := by decide +kernel
theorem dX1_greatest_3 : decode cX1_greatest 3 = .ok (.invokevirtual 35, 3) := by decide +kernel
theorem dX1_greatest_6 : decode cX1_greatest 6 = .ok (.ireturn, 1) := by decide +kernel
theorem dX1_hold_0 : decode cX1_hold 0 = .ok (.aload_n 0, 1) := by decide +kernel
theorem dX1_hold_1 : decode cX1_hold 1 = .ok (.iload_n 1, 1) := by decide +kernel
theorem dX1_hold_2 : decode cX1_hold 2 = .ok (.invokevirtual 31, 3) := by decide +kernel
theorem dX1_hold_5 : decode cX1_hold 5 = .ok (.ifCond .eq 17, 3) := by decide +kernel
theorem dX1_hold_8 : decode cX1_hold 8 = .ok (.aload_n 0, 1) := by decide +kernel
theorem dX1_hold_9 : decode cX1_hold 9 = .ok (.iload_n 2, 1) := by decide +kernel
theorem dX1_hold_10 : decode cX1_hold 10 = .ok (.invokevirtual 31, 3) := by decide +kernel
theorem dX1_hold_13 : decode cX1_hold 13 = .ok (.ifCond .eq 9, 3) := by decide +kernel
theorem dX1_hold_16 : decode cX1_hold 16 = .ok (.iload_n 3, 1) := by decide +kernel
theorem dX1_hold_17 : decode cX1_hold 17 = .ok (.iload 4, 2) := by decide +kernel
theorem dX1_hold_19 : decode cX1_hold 19 = .ok (.if_icmp .le 5, 3) := by decide +kernel
theorem dX1_hold_22 : decode cX1_hold 22 = .ok (.iconst 0, 1) := by decide +kernel
theorem dX1_hold_23 : decode cX1_hold 23 = .ok (.ireturn, 1) := by decide +kernel
theorem dX1_hold_24 : decode cX1_hold 24 = .ok (.iload 4, 2) := by decide +kernel
theorem dX1_hold_26 : decode cX1_hold 26 = .ok (.aload_n 0, 1) := by decide +kernel
theorem dX1_hold_27 : decode cX1_hold 27 = .ok (.getfield 21, 3) := by decide +kernel
theorem dX1_hold_30 : decode cX1_hold 30 = .ok (.iload_n 2, 1) := by decide +kernel
theorem dX1_hold_31 : decode cX1_hold 31 = .ok (.aload_n 0, 1) := by decide +kernel
theorem dX1_hold_32 : decode cX1_hold 32 = .ok (.getfield 15, 3) := by decide +kernel
theorem dX1_hold_35 : decode cX1_hold 35 = .ok (.imul, 1) := by decide +kernel
theorem dX1_hold_36 : decode cX1_hold 36 = .ok (.iload_n 1, 1) := by decide +kernel
theorem dX1_hold_37 : decode cX1_hold 37 = .ok (.iadd, 1) := by decide +kernel
theorem dX1_hold_38 : decode cX1_hold 38 = .ok (.iaload, 1) := by decide +kernel
theorem dX1_hold_39 : decode cX1_hold 39 = .ok (.ineg, 1) := by decide +kernel
theorem dX1_hold_40 : decode cX1_hold 40 = .ok (.if_icmp .lt 20, 3) := by decide +kernel
theorem dX1_hold_43 : decode cX1_hold 43 = .ok (.iload_n 3, 1) := by decide +kernel
theorem dX1_hold_44 : decode cX1_hold 44 = .ok (.aload_n 0, 1) := by decide +kernel
theorem dX1_hold_45 : decode cX1_hold 45 = .ok (.getfield 21, 3) := by decide +kernel
theorem dX1_hold_48 : decode cX1_hold 48 = .ok (.iload_n 1, 1) := by decide +kernel
theorem dX1_hold_49 : decode cX1_hold 49 = .ok (.aload_n 0, 1) := by decide +kernel
theorem dX1_hold_50 : decode cX1_hold 50 = .ok (.getfield 15, 3) := by decide +kernel
theorem dX1_hold_53 : decode cX1_hold 53 = .ok (.imul, 1) := by decide +kernel
theorem dX1_hold_54 : decode cX1_hold 54 = .ok (.iload_n 2, 1) := by decide +kernel
theorem dX1_hold_55 : decode cX1_hold 55 = .ok (.iadd, 1) := by decide +kernel
theorem dX1_hold_56 : decode cX1_hold 56 = .ok (.iaload, 1) := by decide +kernel
theorem dX1_hold_57 : decode cX1_hold 57 = .ok (.if_icmp .le 5, 3) := by decide +kernel
theorem dX1_hold_60 : decode cX1_hold 60 = .ok (.iconst 0, 1) := by decide +kernel
theorem dX1_hold_61 : decode cX1_hold 61 = .ok (.ireturn, 1) := by decide +kernel
theorem dX1_hold_62 : decode cX1_hold 62 = .ok (.aload_n 0, 1) := by decide +kernel
theorem dX1_hold_63 : decode cX1_hold 63 = .ok (.iload_n 1, 1) := by decide +kernel
theorem dX1_hold_64 : decode cX1_hold 64 = .ok (.iload_n 2, 1) := by decide +kernel
theorem dX1_hold_65 : decode cX1_hold 65 = .ok (.iload 4, 2) := by decide +kernel
theorem dX1_hold_67 : decode cX1_hold 67 = .ok (.invokevirtual 38, 3) := by decide +kernel
theorem dX1_hold_70 : decode cX1_hold 70 = .ok (.aload_n 0, 1) := by decide +kernel
theorem dX1_hold_71 : decode cX1_hold 71 = .ok (.iload_n 2, 1) := by decide +kernel
theorem dX1_hold_72 : decode cX1_hold 72 = .ok (.iload_n 1, 1) := by decide +kernel
theorem dX1_hold_73 : decode cX1_hold 73 = .ok (.iload_n 3, 1) := by decide +kernel
theorem dX1_hold_74 : decode cX1_hold 74 = .ok (.ineg, 1) := by decide +kernel
theorem dX1_hold_75 : decode cX1_hold 75 = .ok (.invokevirtual 38, 3) := by decide +kernel
theorem dX1_hold_78 : decode cX1_hold 78 = .ok (.iconst 1, 1) := by decide +kernel
theorem dX1_hold_79 : decode cX1_hold 79 = .ok (.ireturn, 1) := by decide +kernel
theorem dX1_narrow_0 : decode cX1_narrow 0 = .ok (.iload_n 3, 1) := by decide +kernel
theorem dX1_narrow_1 : decode cX1_narrow 1 = .ok (.aload_n 0, 1) := by decide +kernel
theorem dX1_narrow_2 : decode cX1_narrow 2 = .ok (.getfield 21, 3) := by decide +kernel
theorem dX1_narrow_5 : decode cX1_narrow 5 = .ok (.iload_n 1, 1) := by decide +kernel
theorem dX1_narrow_6 : decode cX1_narrow 6 = .ok (.aload_n 0, 1) := by decide +kernel
theorem dX1_narrow_7 : decode cX1_narrow 7 = .ok (.getfield 15, 3) := by decide +kernel
theorem dX1_narrow_10 : decode cX1_narrow 10 = .ok (.imul, 1) := by decide +kernel
theorem dX1_narrow_11 : decode cX1_narrow 11 = .ok (.iload_n 2, 1) := by decide +kernel
theorem dX1_narrow_12 : decode cX1_narrow 12 = .ok (.iadd, 1) := by decide +kernel
theorem dX1_narrow_13 : decode cX1_narrow 13 = .ok (.iaload, 1) := by decide +kernel
theorem dX1_narrow_14 : decode cX1_narrow 14 = .ok (.if_icmp .lt 4, 3) := by decide +kernel
theorem dX1_narrow_17 : decode cX1_narrow 17 = .ok (.return_, 1) := by decide +kernel
theorem dX1_narrow_18 : decode cX1_narrow 18 = .ok (.iconst 0, 1) := by decide +kernel
theorem dX1_narrow_19 : decode cX1_narrow 19 = .ok (.istore 4, 2) := by decide +kernel
theorem dX1_narrow_21 : decode cX1_narrow 21 = .ok (.iload 4, 2) := by decide +kernel
theorem dX1_narrow_23 : decode cX1_narrow 23 = .ok (.aload_n 0, 1) := by decide +kernel
theorem dX1_narrow_24 : decode cX1_narrow 24 = .ok (.getfield 15, 3) := by decide +kernel
theorem dX1_narrow_27 : decode cX1_narrow 27 = .ok (.if_icmp .ge 121, 3) := by decide +kernel
theorem dX1_narrow_30 : decode cX1_narrow 30 = .ok (.aload_n 0, 1) := by decide +kernel
theorem dX1_narrow_31 : decode cX1_narrow 31 = .ok (.getfield 21, 3) := by decide +kernel
theorem dX1_narrow_34 : decode cX1_narrow 34 = .ok (.iload 4, 2) := by decide +kernel
theorem dX1_narrow_36 : decode cX1_narrow 36 = .ok (.aload_n 0, 1) := by decide +kernel
theorem dX1_narrow_37 : decode cX1_narrow 37 = .ok (.getfield 15, 3) := by decide +kernel
theorem dX1_narrow_40 : decode cX1_narrow 40 = .ok (.imul, 1) := by decide +kernel
theorem dX1_narrow_41 : decode cX1_narrow 41 = .ok (.iload_n 1, 1) := by decide +kernel
theorem dX1_narrow_42 : decode cX1_narrow 42 = .ok (.iadd, 1) := by decide +kernel
theorem dX1_narrow_43 : decode cX1_narrow 43 = .ok (.iaload, 1) := by decide +kernel
theorem dX1_narrow_44 : decode cX1_narrow 44 = .ok (.iload_n 3, 1) := by decide +kernel
theorem dX1_narrow_45 : decode cX1_narrow 45 = .ok (.iadd, 1) := by decide +kernel
theorem dX1_narrow_46 : decode cX1_narrow 46 = .ok (.istore 5, 2) := by decide +kernel
theorem dX1_narrow_48 : decode cX1_narrow 48 = .ok (.iload 5, 2) := by decide +kernel
theorem dX1_narrow_50 : decode cX1_narrow 50 = .ok (.aload_n 0, 1) := by decide +kernel
theorem dX1_narrow_51 : decode cX1_narrow 51 = .ok (.getfield 21, 3) := by decide +kernel
theorem dX1_narrow_54 : decode cX1_narrow 54 = .ok (.iload 4, 2) := by decide +kernel
theorem dX1_narrow_56 : decode cX1_narrow 56 = .ok (.aload_n 0, 1) := by decide +kernel
theorem dX1_narrow_57 : decode cX1_narrow 57 = .ok (.getfield 15, 3) := by decide +kernel
theorem dX1_narrow_60 : decode cX1_narrow 60 = .ok (.imul, 1) := by decide +kernel
theorem dX1_narrow_61 : decode cX1_narrow 61 = .ok (.iload_n 2, 1) := by decide +kernel
theorem dX1_narrow_62 : decode cX1_narrow 62 = .ok (.iadd, 1) := by decide +kernel
theorem dX1_narrow_63 : decode cX1_narrow 63 = .ok (.iaload, 1) := by decide +kernel
theorem dX1_narrow_64 : decode cX1_narrow 64 = .ok (.if_icmp .lt 6, 3) := by decide +kernel
theorem dX1_narrow_67 : decode cX1_narrow 67 = .ok (.goto 75, 3) := by decide +kernel
theorem dX1_narrow_70 : decode cX1_narrow 70 = .ok (.iconst 0, 1) := by decide +kernel
theorem dX1_narrow_71 : decode cX1_narrow 71 = .ok (.istore 6, 2) := by decide +kernel
theorem dX1_narrow_73 : decode cX1_narrow 73 = .ok (.iload 6, 2) := by decide +kernel
theorem dX1_narrow_75 : decode cX1_narrow 75 = .ok (.aload_n 0, 1) := by decide +kernel
theorem dX1_narrow_76 : decode cX1_narrow 76 = .ok (.getfield 15, 3) := by decide +kernel
theorem dX1_narrow_79 : decode cX1_narrow 79 = .ok (.if_icmp .ge 63, 3) := by decide +kernel
theorem dX1_narrow_82 : decode cX1_narrow 82 = .ok (.iload 5, 2) := by decide +kernel
theorem dX1_narrow_84 : decode cX1_narrow 84 = .ok (.aload_n 0, 1) := by decide +kernel
theorem dX1_narrow_85 : decode cX1_narrow 85 = .ok (.getfield 21, 3) := by decide +kernel
theorem dX1_narrow_88 : decode cX1_narrow 88 = .ok (.iload_n 2, 1) := by decide +kernel
theorem dX1_narrow_89 : decode cX1_narrow 89 = .ok (.aload_n 0, 1) := by decide +kernel
theorem dX1_narrow_90 : decode cX1_narrow 90 = .ok (.getfield 15, 3) := by decide +kernel
theorem dX1_narrow_93 : decode cX1_narrow 93 = .ok (.imul, 1) := by decide +kernel
theorem dX1_narrow_94 : decode cX1_narrow 94 = .ok (.iload 6, 2) := by decide +kernel
theorem dX1_narrow_96 : decode cX1_narrow 96 = .ok (.iadd, 1) := by decide +kernel
theorem dX1_narrow_97 : decode cX1_narrow 97 = .ok (.iaload, 1) := by decide +kernel
theorem dX1_narrow_98 : decode cX1_narrow 98 = .ok (.iadd, 1) := by decide +kernel
theorem dX1_narrow_99 : decode cX1_narrow 99 = .ok (.istore 7, 2) := by decide +kernel
theorem dX1_narrow_101 : decode cX1_narrow 101 = .ok (.aload_n 0, 1) := by decide +kernel
theorem dX1_narrow_102 : decode cX1_narrow 102 = .ok (.getfield 21, 3) := by decide +kernel
theorem dX1_narrow_105 : decode cX1_narrow 105 = .ok (.iload 4, 2) := by decide +kernel
theorem dX1_narrow_107 : decode cX1_narrow 107 = .ok (.aload_n 0, 1) := by decide +kernel
theorem dX1_narrow_108 : decode cX1_narrow 108 = .ok (.getfield 15, 3) := by decide +kernel
theorem dX1_narrow_111 : decode cX1_narrow 111 = .ok (.imul, 1) := by decide +kernel
theorem dX1_narrow_112 : decode cX1_narrow 112 = .ok (.iload 6, 2) := by decide +kernel
theorem dX1_narrow_114 : decode cX1_narrow 114 = .ok (.iadd, 1) := by decide +kernel
theorem dX1_narrow_115 : decode cX1_narrow 115 = .ok (.aload_n 0, 1) := by decide +kernel
theorem dX1_narrow_116 : decode cX1_narrow 116 = .ok (.getfield 21, 3) := by decide +kernel
theorem dX1_narrow_119 : decode cX1_narrow 119 = .ok (.iload 4, 2) := by decide +kernel
theorem dX1_narrow_121 : decode cX1_narrow 121 = .ok (.aload_n 0, 1) := by decide +kernel
theorem dX1_narrow_122 : decode cX1_narrow 122 = .ok (.getfield 15, 3) := by decide +kernel
theorem dX1_narrow_125 : decode cX1_narrow 125 = .ok (.imul, 1) := by decide +kernel
theorem dX1_narrow_126 : decode cX1_narrow 126 = .ok (.iload 6, 2) := by decide +kernel
theorem dX1_narrow_128 : decode cX1_narrow 128 = .ok (.iadd, 1) := by decide +kernel
theorem dX1_narrow_129 : decode cX1_narrow 129 = .ok (.iaload, 1) := by decide +kernel
theorem dX1_narrow_130 : decode cX1_narrow 130 = .ok (.iload 7, 2) := by decide +kernel
theorem dX1_narrow_132 : decode cX1_narrow 132 = .ok (.invokestatic 42, 3) := by decide +kernel
theorem dX1_narrow_135 : decode cX1_narrow 135 = .ok (.iastore, 1) := by decide +kernel
theorem dX1_narrow_136 : decode cX1_narrow 136 = .ok (.iinc 6 1, 3) := by decide +kernel
theorem dX1_narrow_139 : decode cX1_narrow 139 = .ok (.goto (-66), 3) := by decide +kernel
theorem dX1_narrow_142 : decode cX1_narrow 142 = .ok (.iinc 4 1, 3) := by decide +kernel
theorem dX1_narrow_145 : decode cX1_narrow 145 = .ok (.goto (-124), 3) := by decide +kernel
theorem dX1_narrow_148 : decode cX1_narrow 148 = .ok (.return_, 1) := by decide +kernel
theorem dX1_openSum_0 : decode cX1_openSum 0 = .ok (.iconst 0, 1) := by decide +kernel
theorem dX1_openSum_1 : decode cX1_openSum 1 = .ok (.istore_n 1, 1) := by decide +kernel
theorem dX1_openSum_2 : decode cX1_openSum 2 = .ok (.iconst 1, 1) := by decide +kernel
theorem dX1_openSum_3 : decode cX1_openSum 3 = .ok (.istore_n 2, 1) := by decide +kernel
theorem dX1_openSum_4 : decode cX1_openSum 4 = .ok (.iload_n 2, 1) := by decide +kernel
theorem dX1_openSum_5 : decode cX1_openSum 5 = .ok (.aload_n 0, 1) := by decide +kernel
theorem dX1_openSum_6 : decode cX1_openSum 6 = .ok (.getfield 15, 3) := by decide +kernel
theorem dX1_openSum_9 : decode cX1_openSum 9 = .ok (.if_icmp .ge 23, 3) := by decide +kernel
theorem dX1_openSum_12 : decode cX1_openSum 12 = .ok (.iload_n 1, 1) := by decide +kernel
theorem dX1_openSum_13 : decode cX1_openSum 13 = .ok (.aload_n 0, 1) := by decide +kernel
theorem dX1_openSum_14 : decode cX1_openSum 14 = .ok (.iload_n 2, 1) := by decide +kernel
theorem dX1_openSum_15 : decode cX1_openSum 15 = .ok (.invokevirtual 45, 3) := by decide +kernel
theorem dX1_openSum_18 : decode cX1_openSum 18 = .ok (.aload_n 0, 1) := by decide +kernel
theorem dX1_openSum_19 : decode cX1_openSum 19 = .ok (.iload_n 2, 1) := by decide +kernel
theorem dX1_openSum_20 : decode cX1_openSum 20 = .ok (.invokevirtual 49, 3) := by decide +kernel
theorem dX1_openSum_23 : decode cX1_openSum 23 = .ok (.isub, 1) := by decide +kernel
theorem dX1_openSum_24 : decode cX1_openSum 24 = .ok (.iadd, 1) := by decide +kernel
theorem dX1_openSum_25 : decode cX1_openSum 25 = .ok (.istore_n 1, 1) := by decide +kernel
theorem dX1_openSum_26 : decode cX1_openSum 26 = .ok (.iinc 2 1, 3) := by decide +kernel
theorem dX1_openSum_29 : decode cX1_openSum 29 = .ok (.goto (-25), 3) := by decide +kernel
theorem dX1_openSum_32 : decode cX1_openSum 32 = .ok (.iload_n 1, 1) := by decide +kernel
theorem dX1_openSum_33 : decode cX1_openSum 33 = .ok (.ireturn, 1) := by decide +kernel
theorem dX1_openSumAfterBore_0 : decode cX1_openSumAfterBore 0 = .ok (.aload_n 0, 1) := by decide +kernel
theorem dX1_openSumAfterBore_1 : decode cX1_openSumAfterBore 1 = .ok (.iload_n 1, 1) := by decide +kernel
theorem dX1_openSumAfterBore_2 : decode cX1_openSumAfterBore 2 = .ok (.invokevirtual 31, 3) := by decide +kernel
theorem dX1_openSumAfterBore_5 : decode cX1_openSumAfterBore 5 = .ok (.ifCond .ne 5, 3) := by decide +kernel
theorem dX1_openSumAfterBore_8 : decode cX1_openSumAfterBore 8 = .ok (.iconst 0, 1) := by decide +kernel
theorem dX1_openSumAfterBore_9 : decode cX1_openSumAfterBore 9 = .ok (.ireturn, 1) := by decide +kernel
theorem dX1_openSumAfterBore_10 : decode cX1_openSumAfterBore 10 = .ok (.iconst 0, 1) := by decide +kernel
theorem dX1_openSumAfterBore_11 : decode cX1_openSumAfterBore 11 = .ok (.istore_n 3, 1) := by decide +kernel
theorem dX1_openSumAfterBore_12 : decode cX1_openSumAfterBore 12 = .ok (.iconst 1, 1) := by decide +kernel
theorem dX1_openSumAfterBore_13 : decode cX1_openSumAfterBore 13 = .ok (.istore 4, 2) := by decide +kernel
theorem dX1_openSumAfterBore_15 : decode cX1_openSumAfterBore 15 = .ok (.iload 4, 2) := by decide +kernel
theorem dX1_openSumAfterBore_17 : decode cX1_openSumAfterBore 17 = .ok (.aload_n 0, 1) := by decide +kernel
theorem dX1_openSumAfterBore_18 : decode cX1_openSumAfterBore 18 = .ok (.getfield 15, 3) := by decide +kernel
theorem dX1_openSumAfterBore_21 : decode cX1_openSumAfterBore 21 = .ok (.if_icmp .ge 79, 3) := by decide +kernel
theorem dX1_openSumAfterBore_24 : decode cX1_openSumAfterBore 24 = .ok (.aload_n 0, 1) := by decide +kernel
theorem dX1_openSumAfterBore_25 : decode cX1_openSumAfterBore 25 = .ok (.getfield 21, 3) := by decide +kernel
theorem dX1_openSumAfterBore_28 : decode cX1_openSumAfterBore 28 = .ok (.iload 4, 2) := by decide +kernel
theorem dX1_openSumAfterBore_30 : decode cX1_openSumAfterBore 30 = .ok (.iaload, 1) := by decide +kernel
theorem dX1_openSumAfterBore_31 : decode cX1_openSumAfterBore 31 = .ok (.iload_n 2, 1) := by decide +kernel
theorem dX1_openSumAfterBore_32 : decode cX1_openSumAfterBore 32 = .ok (.aload_n 0, 1) := by decide +kernel
theorem dX1_openSumAfterBore_33 : decode cX1_openSumAfterBore 33 = .ok (.getfield 21, 3) := by decide +kernel
theorem dX1_openSumAfterBore_36 : decode cX1_openSumAfterBore 36 = .ok (.iload_n 1, 1) := by decide +kernel
theorem dX1_openSumAfterBore_37 : decode cX1_openSumAfterBore 37 = .ok (.aload_n 0, 1) := by decide +kernel
theorem dX1_openSumAfterBore_38 : decode cX1_openSumAfterBore 38 = .ok (.getfield 15, 3) := by decide +kernel
theorem dX1_openSumAfterBore_41 : decode cX1_openSumAfterBore 41 = .ok (.imul, 1) := by decide +kernel
theorem dX1_openSumAfterBore_42 : decode cX1_openSumAfterBore 42 = .ok (.iload 4, 2) := by decide +kernel
theorem dX1_openSumAfterBore_44 : decode cX1_openSumAfterBore 44 = .ok (.iadd, 1) := by decide +kernel
theorem dX1_openSumAfterBore_45 : decode cX1_openSumAfterBore 45 = .ok (.iaload, 1) := by decide +kernel
theorem dX1_openSumAfterBore_46 : decode cX1_openSumAfterBore 46 = .ok (.iadd, 1) := by decide +kernel
theorem dX1_openSumAfterBore_47 : decode cX1_openSumAfterBore 47 = .ok (.invokestatic 42, 3) := by decide +kernel
theorem dX1_openSumAfterBore_50 : decode cX1_openSumAfterBore 50 = .ok (.istore 5, 2) := by decide +kernel
theorem dX1_openSumAfterBore_52 : decode cX1_openSumAfterBore 52 = .ok (.aload_n 0, 1) := by decide +kernel
theorem dX1_openSumAfterBore_53 : decode cX1_openSumAfterBore 53 = .ok (.getfield 21, 3) := by decide +kernel
theorem dX1_openSumAfterBore_56 : decode cX1_openSumAfterBore 56 = .ok (.iload 4, 2) := by decide +kernel
theorem dX1_openSumAfterBore_58 : decode cX1_openSumAfterBore 58 = .ok (.aload_n 0, 1) := by decide +kernel
theorem dX1_openSumAfterBore_59 : decode cX1_openSumAfterBore 59 = .ok (.getfield 15, 3) := by decide +kernel
theorem dX1_openSumAfterBore_62 : decode cX1_openSumAfterBore 62 = .ok (.imul, 1) := by decide +kernel
theorem dX1_openSumAfterBore_63 : decode cX1_openSumAfterBore 63 = .ok (.iaload, 1) := by decide +kernel
theorem dX1_openSumAfterBore_64 : decode cX1_openSumAfterBore 64 = .ok (.ineg, 1) := by decide +kernel
theorem dX1_openSumAfterBore_65 : decode cX1_openSumAfterBore 65 = .ok (.iload_n 2, 1) := by decide +kernel
theorem dX1_openSumAfterBore_66 : decode cX1_openSumAfterBore 66 = .ok (.aload_n 0, 1) := by decide +kernel
theorem dX1_openSumAfterBore_67 : decode cX1_openSumAfterBore 67 = .ok (.getfield 21, 3) := by decide +kernel
theorem dX1_openSumAfterBore_70 : decode cX1_openSumAfterBore 70 = .ok (.iload 4, 2) := by decide +kernel
theorem dX1_openSumAfterBore_72 : decode cX1_openSumAfterBore 72 = .ok (.aload_n 0, 1) := by decide +kernel
theorem dX1_openSumAfterBore_73 : decode cX1_openSumAfterBore 73 = .ok (.getfield 15, 3) := by decide +kernel
theorem dX1_openSumAfterBore_76 : decode cX1_openSumAfterBore 76 = .ok (.imul, 1) := by decide +kernel
theorem dX1_openSumAfterBore_77 : decode cX1_openSumAfterBore 77 = .ok (.iload_n 1, 1) := by decide +kernel
theorem dX1_openSumAfterBore_78 : decode cX1_openSumAfterBore 78 = .ok (.iadd, 1) := by decide +kernel
theorem dX1_openSumAfterBore_79 : decode cX1_openSumAfterBore 79 = .ok (.iaload, 1) := by decide +kernel
theorem dX1_openSumAfterBore_80 : decode cX1_openSumAfterBore 80 = .ok (.isub, 1) := by decide +kernel
theorem dX1_openSumAfterBore_81 : decode cX1_openSumAfterBore 81 = .ok (.invokestatic 9, 3) := by decide +kernel
theorem dX1_openSumAfterBore_84 : decode cX1_openSumAfterBore 84 = .ok (.istore 6, 2) := by decide +kernel
theorem dX1_openSumAfterBore_86 : decode cX1_openSumAfterBore 86 = .ok (.iload_n 3, 1) := by decide +kernel
theorem dX1_openSumAfterBore_87 : decode cX1_openSumAfterBore 87 = .ok (.iload 5, 2) := by decide +kernel
theorem dX1_openSumAfterBore_89 : decode cX1_openSumAfterBore 89 = .ok (.iload 6, 2) := by decide +kernel
theorem dX1_openSumAfterBore_91 : decode cX1_openSumAfterBore 91 = .ok (.isub, 1) := by decide +kernel
theorem dX1_openSumAfterBore_92 : decode cX1_openSumAfterBore 92 = .ok (.iadd, 1) := by decide +kernel
theorem dX1_openSumAfterBore_93 : decode cX1_openSumAfterBore 93 = .ok (.istore_n 3, 1) := by decide +kernel
theorem dX1_openSumAfterBore_94 : decode cX1_openSumAfterBore 94 = .ok (.iinc 4 1, 3) := by decide +kernel
theorem dX1_openSumAfterBore_97 : decode cX1_openSumAfterBore 97 = .ok (.goto (-82), 3) := by decide +kernel
theorem dX1_openSumAfterBore_100 : decode cX1_openSumAfterBore 100 = .ok (.iload_n 3, 1) := by decide +kernel
theorem dX1_openSumAfterBore_101 : decode cX1_openSumAfterBore 101 = .ok (.ireturn, 1) := by decide +kernel
theorem dX1_isPlace_0 : decode cX1_isPlace 0 = .ok (.iload_n 1, 1) := by decide +kernel
theorem dX1_isPlace_1 : decode cX1_isPlace 1 = .ok (.ifCond .lt 15, 3) := by decide +kernel
theorem dX1_isPlace_4 : decode cX1_isPlace 4 = .ok (.iload_n 1, 1) := by decide +kernel
theorem dX1_isPlace_5 : decode cX1_isPlace 5 = .ok (.aload_n 0, 1) := by decide +kernel
theorem dX1_isPlace_6 : decode cX1_isPlace 6 = .ok (.getfield 15, 3) := by decide +kernel
theorem dX1_isPlace_9 : decode cX1_isPlace 9 = .ok (.if_icmp .ge 7, 3) := by decide +kernel
theorem dX1_isPlace_12 : decode cX1_isPlace 12 = .ok (.iconst 1, 1) := by decide +kernel
theorem dX1_isPlace_13 : decode cX1_isPlace 13 = .ok (.goto 4, 3) := by decide +kernel
theorem dX1_isPlace_16 : decode cX1_isPlace 16 = .ok (.iconst 0, 1) := by decide +kernel
theorem dX1_isPlace_17 : decode cX1_isPlace 17 = .ok (.ireturn, 1) := by decide +kernel
theorem dX2_init_0 : decode cX2_init 0 = .ok (.aload_n 0, 1) := by decide +kernel
theorem dX2_init_1 : decode cX2_init 1 = .ok (.invokespecial 3, 3) := by decide +kernel
theorem dX2_init_4 : decode cX2_init 4 = .ok (.aload_n 0, 1) := by decide +kernel
theorem dX2_init_5 : decode cX2_init 5 = .ok (.iload_n 1, 1) := by decide +kernel
theorem dX2_init_6 : decode cX2_init 6 = .ok (.iconst 1, 1) := by decide +kernel
theorem dX2_init_7 : decode cX2_init 7 = .ok (.invokestatic 9, 3) := by decide +kernel
theorem dX2_init_10 : decode cX2_init 10 = .ok (.putfield 15, 3) := by decide +kernel
theorem dX2_init_13 : decode cX2_init 13 = .ok (.aload_n 0, 1) := by decide +kernel
theorem dX2_init_14 : decode cX2_init 14 = .ok (.iload_n 2, 1) := by decide +kernel
theorem dX2_init_15 : decode cX2_init 15 = .ok (.iconst 1, 1) := by decide +kernel
theorem dX2_init_16 : decode cX2_init 16 = .ok (.invokestatic 9, 3) := by decide +kernel
theorem dX2_init_19 : decode cX2_init 19 = .ok (.putfield 21, 3) := by decide +kernel
theorem dX2_init_22 : decode cX2_init 22 = .ok (.aload_n 0, 1) := by decide +kernel
theorem dX2_init_23 : decode cX2_init 23 = .ok (.aload_n 0, 1) := by decide +kernel
theorem dX2_init_24 : decode cX2_init 24 = .ok (.getfield 21, 3) := by decide +kernel
theorem dX2_init_27 : decode cX2_init 27 = .ok (.newarray .int, 2) := by decide +kernel
theorem dX2_init_29 : decode cX2_init 29 = .ok (.putfield 24, 3) := by decide +kernel
theorem dX2_init_32 : decode cX2_init 32 = .ok (.aload_n 0, 1) := by decide +kernel
theorem dX2_init_33 : decode cX2_init 33 = .ok (.aload_n 0, 1) := by decide +kernel
theorem dX2_init_34 : decode cX2_init 34 = .ok (.getfield 21, 3) := by decide +kernel
theorem dX2_init_37 : decode cX2_init 37 = .ok (.newarray .int, 2) := by decide +kernel
theorem dX2_init_39 : decode cX2_init 39 = .ok (.putfield 28, 3) := by decide +kernel
theorem dX2_init_42 : decode cX2_init 42 = .ok (.aload_n 0, 1) := by decide +kernel
theorem dX2_init_43 : decode cX2_init 43 = .ok (.aload_n 0, 1) := by decide +kernel
theorem dX2_init_44 : decode cX2_init 44 = .ok (.getfield 21, 3) := by decide +kernel
theorem dX2_init_47 : decode cX2_init 47 = .ok (.newarray .int, 2) := by decide +kernel
theorem dX2_init_49 : decode cX2_init 49 = .ok (.putfield 31, 3) := by decide +kernel
theorem dX2_init_52 : decode cX2_init 52 = .ok (.iconst 0, 1) := by decide +kernel
theorem dX2_init_53 : decode cX2_init 53 = .ok (.istore_n 3, 1) := by decide +kernel
theorem dX2_init_54 : decode cX2_init 54 = .ok (.iload_n 3, 1) := by decide +kernel
theorem dX2_init_55 : decode cX2_init 55 = .ok (.aload_n 0, 1) := by decide +kernel
end
section
theorem dX2_init_56 : decode cX2_init 56 = .ok (.getfield 21, 3) := by decide +kernel
theorem dX2_init_59 : decode cX2_init 59 = .ok (.if_icmp .ge 31, 3) := by decide +kernel
theorem dX2_init_62 : decode cX2_init 62 = .ok (.aload_n 0, 1) := by decide +kernel
theorem dX2_init_63 : decode cX2_init 63 = .ok (.getfield 24, 3) := by decide +kernel
theorem dX2_init_66 : decode cX2_init 66 = .ok (.iload_n 3, 1) := by decide +kernel
theorem dX2_init_67 : decode cX2_init 67 = .ok (.iconst 1, 1) := by decide +kernel
theorem dX2_init_68 : decode cX2_init 68 = .ok (.iastore, 1) := by decide +kernel
theorem dX2_init_69 : decode cX2_init 69 = .ok (.aload_n 0, 1) := by decide +kernel
theorem dX2_init_70 : decode cX2_init 70 = .ok (.getfield 28, 3) := by decide +kernel
theorem dX2_init_73 : decode cX2_init 73 = .ok (.iload_n 3, 1) := by decide +kernel
theorem dX2_init_74 : decode cX2_init 74 = .ok (.bipush 60, 2) := by decide +kernel
theorem dX2_init_76 : decode cX2_init 76 = .ok (.iastore, 1) := by decide +kernel
theorem dX2_init_77 : decode cX2_init 77 = .ok (.aload_n 0, 1) := by decide +kernel
theorem dX2_init_78 : decode cX2_init 78 = .ok (.getfield 31, 3) := by decide +kernel
theorem dX2_init_81 : decode cX2_init 81 = .ok (.iload_n 3, 1) := by decide +kernel
theorem dX2_init_82 : decode cX2_init 82 = .ok (.iconst 5, 1) := by decide +kernel
theorem dX2_init_83 : decode cX2_init 83 = .ok (.iastore, 1) := by decide +kernel
theorem dX2_init_84 : decode cX2_init 84 = .ok (.iinc 3 1, 3) := by decide +kernel
theorem dX2_init_87 : decode cX2_init 87 = .ok (.goto (-33), 3) := by decide +kernel
theorem dX2_init_90 : decode cX2_init 90 = .ok (.aload_n 0, 1) := by decide +kernel
theorem dX2_init_91 : decode cX2_init 91 = .ok (.aload_n 0, 1) := by decide +kernel
theorem dX2_init_92 : decode cX2_init 92 = .ok (.getfield 15, 3) := by decide +kernel
theorem dX2_init_95 : decode cX2_init 95 = .ok (.newarray .int, 2) := by decide +kernel
theorem dX2_init_97 : decode cX2_init 97 = .ok (.putfield 34, 3) := by decide +kernel
theorem dX2_init_100 : decode cX2_init 100 = .ok (.aload_n 0, 1) := by decide +kernel
theorem dX2_init_101 : decode cX2_init 101 = .ok (.aload_n 0, 1) := by decide +kernel
theorem dX2_init_102 : decode cX2_init 102 = .ok (.getfield 15, 3) := by decide +kernel
theorem dX2_init_105 : decode cX2_init 105 = .ok (.newarray .boolean, 2) := by decide +kernel
theorem dX2_init_107 : decode cX2_init 107 = .ok (.putfield 37, 3) := by decide +kernel
theorem dX2_init_110 : decode cX2_init 110 = .ok (.return_, 1) := by decide +kernel
theorem dX2_columns_0 : decode cX2_columns 0 = .ok (.aload_n 0, 1) := by decide +kernel
theorem dX2_columns_1 : decode cX2_columns 1 = .ok (.getfield 15, 3) := by decide +kernel
theorem dX2_columns_4 : decode cX2_columns 4 = .ok (.ireturn, 1) := by decide +kernel
theorem dX2_surfaces_0 : decode cX2_surfaces 0 = .ok (.aload_n 0, 1) := by decide +kernel
theorem dX2_surfaces_1 : decode cX2_surfaces 1 = .ok (.getfield 21, 3) := by decide +kernel
theorem dX2_surfaces_4 : decode cX2_surfaces 4 = .ok (.ireturn, 1) := by decide +kernel
theorem dX2_places_0 : decode cX2_places 0 = .ok (.aload_n 0, 1) := by decide +kernel
theorem dX2_places_1 : decode cX2_places 1 = .ok (.getfield 15, 3) := by decide +kernel
theorem dX2_places_4 : decode cX2_places 4 = .ok (.aload_n 0, 1) := by decide +kernel
theorem dX2_places_5 : decode cX2_places 5 = .ok (.getfield 21, 3) := by decide +kernel
theorem dX2_places_8 : decode cX2_places 8 = .ok (.imul, 1) := by decide +kernel
theorem dX2_places_9 : decode cX2_places 9 = .ok (.ireturn, 1) := by decide +kernel
theorem dX2_hasSurface_0 : decode cX2_hasSurface 0 = .ok (.iload_n 1, 1) := by decide +kernel
theorem dX2_hasSurface_1 : decode cX2_hasSurface 1 = .ok (.ifCond .lt 15, 3) := by decide +kernel
theorem dX2_hasSurface_4 : decode cX2_hasSurface 4 = .ok (.iload_n 1, 1) := by decide +kernel
theorem dX2_hasSurface_5 : decode cX2_hasSurface 5 = .ok (.aload_n 0, 1) := by decide +kernel
theorem dX2_hasSurface_6 : decode cX2_hasSurface 6 = .ok (.getfield 21, 3) := by decide +kernel
theorem dX2_hasSurface_9 : decode cX2_hasSurface 9 = .ok (.if_icmp .ge 7, 3) := by decide +kernel
theorem dX2_hasSurface_12 : decode cX2_hasSurface 12 = .ok (.iconst 1, 1) := by decide +kernel
theorem dX2_hasSurface_13 : decode cX2_hasSurface 13 = .ok (.goto 4, 3) := by decide +kernel
theorem dX2_hasSurface_16 : decode cX2_hasSurface 16 = .ok (.iconst 0, 1) := by decide +kernel
theorem dX2_hasSurface_17 : decode cX2_hasSurface 17 = .ok (.ireturn, 1) := by decide +kernel
theorem dX2_hasColumn_0 : decode cX2_hasColumn 0 = .ok (.iload_n 1, 1) := by decide +kernel
theorem dX2_hasColumn_1 : decode cX2_hasColumn 1 = .ok (.ifCond .lt 15, 3) := by decide +kernel
theorem dX2_hasColumn_4 : decode cX2_hasColumn 4 = .ok (.iload_n 1, 1) := by decide +kernel
theorem dX2_hasColumn_5 : decode cX2_hasColumn 5 = .ok (.aload_n 0, 1) := by decide +kernel
theorem dX2_hasColumn_6 : decode cX2_hasColumn 6 = .ok (.getfield 15, 3) := by decide +kernel
theorem dX2_hasColumn_9 : decode cX2_hasColumn 9 = .ok (.if_icmp .ge 7, 3) := by decide +kernel
theorem dX2_hasColumn_12 : decode cX2_hasColumn 12 = .ok (.iconst 1, 1) := by decide +kernel
theorem dX2_hasColumn_13 : decode cX2_hasColumn 13 = .ok (.goto 4, 3) := by decide +kernel
theorem dX2_hasColumn_16 : decode cX2_hasColumn 16 = .ok (.iconst 0, 1) := by decide +kernel
theorem dX2_hasColumn_17 : decode cX2_hasColumn 17 = .ok (.ireturn, 1) := by decide +kernel
theorem dX2_hasNextColumn_0 : decode cX2_hasNextColumn 0 = .ok (.iload_n 1, 1) := by decide +kernel
theorem dX2_hasNextColumn_1 : decode cX2_hasNextColumn 1 = .ok (.ifCond .lt 17, 3) := by decide +kernel
theorem dX2_hasNextColumn_4 : decode cX2_hasNextColumn 4 = .ok (.iload_n 1, 1) := by decide +kernel
theorem dX2_hasNextColumn_5 : decode cX2_hasNextColumn 5 = .ok (.aload_n 0, 1) := by decide +kernel
theorem dX2_hasNextColumn_6 : decode cX2_hasNextColumn 6 = .ok (.getfield 15, 3) := by decide +kernel
theorem dX2_hasNextColumn_9 : decode cX2_hasNextColumn 9 = .ok (.iconst 1, 1) := by decide +kernel
theorem dX2_hasNextColumn_10 : decode cX2_hasNextColumn 10 = .ok (.isub, 1) := by decide +kernel
theorem dX2_hasNextColumn_11 : decode cX2_hasNextColumn 11 = .ok (.if_icmp .ge 7, 3) := by decide +kernel
theorem dX2_hasNextColumn_14 : decode cX2_hasNextColumn 14 = .ok (.iconst 1, 1) := by decide +kernel
theorem dX2_hasNextColumn_15 : decode cX2_hasNextColumn 15 = .ok (.goto 4, 3) := by decide +kernel
theorem dX2_hasNextColumn_18 : decode cX2_hasNextColumn 18 = .ok (.iconst 0, 1) := by decide +kernel
theorem dX2_hasNextColumn_19 : decode cX2_hasNextColumn 19 = .ok (.ireturn, 1) := by decide +kernel
theorem dX2_hasPlace_0 : decode cX2_hasPlace 0 = .ok (.aload_n 0, 1) := by decide +kernel
theorem dX2_hasPlace_1 : decode cX2_hasPlace 1 = .ok (.iload_n 1, 1) := by decide +kernel
theorem dX2_hasPlace_2 : decode cX2_hasPlace 2 = .ok (.invokevirtual 41, 3) := by decide +kernel
theorem dX2_hasPlace_5 : decode cX2_hasPlace 5 = .ok (.ifCond .eq 15, 3) := by decide +kernel
theorem dX2_hasPlace_8 : decode cX2_hasPlace 8 = .ok (.aload_n 0, 1) := by decide +kernel
theorem dX2_hasPlace_9 : decode cX2_hasPlace 9 = .ok (.iload_n 2, 1) := by decide +kernel
theorem dX2_hasPlace_10 : decode cX2_hasPlace 10 = .ok (.invokevirtual 45, 3) := by decide +kernel
theorem dX2_hasPlace_13 : decode cX2_hasPlace 13 = .ok (.ifCond .eq 7, 3) := by decide +kernel
theorem dX2_hasPlace_16 : decode cX2_hasPlace 16 = .ok (.iconst 1, 1) := by decide +kernel
theorem dX2_hasPlace_17 : decode cX2_hasPlace 17 = .ok (.goto 4, 3) := by decide +kernel
theorem dX2_hasPlace_20 : decode cX2_hasPlace 20 = .ok (.iconst 0, 1) := by decide +kernel
theorem dX2_hasPlace_21 : decode cX2_hasPlace 21 = .ok (.ireturn, 1) := by decide +kernel
theorem dX2_placeOf_0 : decode cX2_placeOf 0 = .ok (.iconst 1, 1) := by decide +kernel
theorem dX2_placeOf_1 : decode cX2_placeOf 1 = .ok (.iload_n 1, 1) := by decide +kernel
theorem dX2_placeOf_2 : decode cX2_placeOf 2 = .ok (.aload_n 0, 1) := by decide +kernel
theorem dX2_placeOf_3 : decode cX2_placeOf 3 = .ok (.getfield 15, 3) := by decide +kernel
theorem dX2_placeOf_6 : decode cX2_placeOf 6 = .ok (.imul, 1) := by decide +kernel
theorem dX2_placeOf_7 : decode cX2_placeOf 7 = .ok (.iadd, 1) := by decide +kernel
theorem dX2_placeOf_8 : decode cX2_placeOf 8 = .ok (.iload_n 2, 1) := by decide +kernel
theorem dX2_placeOf_9 : decode cX2_placeOf 9 = .ok (.iadd, 1) := by decide +kernel
theorem dX2_placeOf_10 : decode cX2_placeOf 10 = .ok (.ireturn, 1) := by decide +kernel
theorem dX2_setThick_0 : decode cX2_setThick 0 = .ok (.aload_n 0, 1) := by decide +kernel
theorem dX2_setThick_1 : decode cX2_setThick 1 = .ok (.iload_n 1, 1) := by decide +kernel
theorem dX2_setThick_2 : decode cX2_setThick 2 = .ok (.invokevirtual 41, 3) := by decide +kernel
theorem dX2_setThick_5 : decode cX2_setThick 5 = .ok (.ifCond .eq 17, 3) := by decide +kernel
theorem dX2_setThick_8 : decode cX2_setThick 8 = .ok (.aload_n 0, 1) := by decide +kernel
theorem dX2_setThick_9 : decode cX2_setThick 9 = .ok (.getfield 24, 3) := by decide +kernel
theorem dX2_setThick_12 : decode cX2_setThick 12 = .ok (.iload_n 1, 1) := by decide +kernel
theorem dX2_setThick_13 : decode cX2_setThick 13 = .ok (.iload_n 2, 1) := by decide +kernel
theorem dX2_setThick_14 : decode cX2_setThick 14 = .ok (.iastore, 1) := by decide +kernel
theorem dX2_setThick_15 : decode cX2_setThick 15 = .ok (.aload_n 0, 1) := by decide +kernel
theorem dX2_setThick_16 : decode cX2_setThick 16 = .ok (.getfield 28, 3) := by decide +kernel
theorem dX2_setThick_19 : decode cX2_setThick 19 = .ok (.iload_n 1, 1) := by decide +kernel
theorem dX2_setThick_20 : decode cX2_setThick 20 = .ok (.iload_n 3, 1) := by decide +kernel
theorem dX2_setThick_21 : decode cX2_setThick 21 = .ok (.iastore, 1) := by decide +kernel
theorem dX2_setThick_22 : decode cX2_setThick 22 = .ok (.return_, 1) := by decide +kernel
theorem dX2_setSteep_0 : decode cX2_setSteep 0 = .ok (.aload_n 0, 1) := by decide +kernel
theorem dX2_setSteep_1 : decode cX2_setSteep 1 = .ok (.iload_n 1, 1) := by decide +kernel
theorem dX2_setSteep_2 : decode cX2_setSteep 2 = .ok (.invokevirtual 41, 3) := by decide +kernel
theorem dX2_setSteep_5 : decode cX2_setSteep 5 = .ok (.ifCond .eq 10, 3) := by decide +kernel
theorem dX2_setSteep_8 : decode cX2_setSteep 8 = .ok (.aload_n 0, 1) := by decide +kernel
theorem dX2_setSteep_9 : decode cX2_setSteep 9 = .ok (.getfield 31, 3) := by decide +kernel
theorem dX2_setSteep_12 : decode cX2_setSteep 12 = .ok (.iload_n 1, 1) := by decide +kernel
theorem dX2_setSteep_13 : decode cX2_setSteep 13 = .ok (.iload_n 2, 1) := by decide +kernel
theorem dX2_setSteep_14 : decode cX2_setSteep 14 = .ok (.iastore, 1) := by decide +kernel
theorem dX2_setSteep_15 : decode cX2_setSteep 15 = .ok (.return_, 1) := by decide +kernel
theorem dX2_breakAt_0 : decode cX2_breakAt 0 = .ok (.aload_n 0, 1) := by decide +kernel
theorem dX2_breakAt_1 : decode cX2_breakAt 1 = .ok (.iload_n 1, 1) := by decide +kernel
theorem dX2_breakAt_2 : decode cX2_breakAt 2 = .ok (.invokevirtual 50, 3) := by decide +kernel
theorem dX2_breakAt_5 : decode cX2_breakAt 5 = .ok (.ifCond .eq 17, 3) := by decide +kernel
theorem dX2_breakAt_8 : decode cX2_breakAt 8 = .ok (.aload_n 0, 1) := by decide +kernel
theorem dX2_breakAt_9 : decode cX2_breakAt 9 = .ok (.getfield 34, 3) := by decide +kernel
theorem dX2_breakAt_12 : decode cX2_breakAt 12 = .ok (.iload_n 1, 1) := by decide +kernel
theorem dX2_breakAt_13 : decode cX2_breakAt 13 = .ok (.iload_n 2, 1) := by decide +kernel
theorem dX2_breakAt_14 : decode cX2_breakAt 14 = .ok (.iastore, 1) := by decide +kernel
theorem dX2_breakAt_15 : decode cX2_breakAt 15 = .ok (.aload_n 0, 1) := by decide +kernel
theorem dX2_breakAt_16 : decode cX2_breakAt 16 = .ok (.getfield 37, 3) := by decide +kernel
theorem dX2_breakAt_19 : decode cX2_breakAt 19 = .ok (.iload_n 1, 1) := by decide +kernel
theorem dX2_breakAt_20 : decode cX2_breakAt 20 = .ok (.iconst 1, 1) := by decide +kernel
theorem dX2_breakAt_21 : decode cX2_breakAt 21 = .ok (.bastore, 1) := by decide +kernel
theorem dX2_breakAt_22 : decode cX2_breakAt 22 = .ok (.return_, 1) := by decide +kernel
theorem dX2_mendAt_0 : decode cX2_mendAt 0 = .ok (.aload_n 0, 1) := by decide +kernel
theorem dX2_mendAt_1 : decode cX2_mendAt 1 = .ok (.iload_n 1, 1) := by decide +kernel
theorem dX2_mendAt_2 : decode cX2_mendAt 2 = .ok (.invokevirtual 50, 3) := by decide +kernel
theorem dX2_mendAt_5 : decode cX2_mendAt 5 = .ok (.ifCond .eq 17, 3) := by decide +kernel
theorem dX2_mendAt_8 : decode cX2_mendAt 8 = .ok (.aload_n 0, 1) := by decide +kernel
theorem dX2_mendAt_9 : decode cX2_mendAt 9 = .ok (.getfield 34, 3) := by decide +kernel
theorem dX2_mendAt_12 : decode cX2_mendAt 12 = .ok (.iload_n 1, 1) := by decide +kernel
theorem dX2_mendAt_13 : decode cX2_mendAt 13 = .ok (.iconst 0, 1) := by decide +kernel
theorem dX2_mendAt_14 : decode cX2_mendAt 14 = .ok (.iastore, 1) := by decide +kernel
theorem dX2_mendAt_15 : decode cX2_mendAt 15 = .ok (.aload_n 0, 1) := by decide +kernel
theorem dX2_mendAt_16 : decode cX2_mendAt 16 = .ok (.getfield 37, 3) := by decide +kernel
theorem dX2_mendAt_19 : decode cX2_mendAt 19 = .ok (.iload_n 1, 1) := by decide +kernel
theorem dX2_mendAt_20 : decode cX2_mendAt 20 = .ok (.iconst 0, 1) := by decide +kernel
theorem dX2_mendAt_21 : decode cX2_mendAt 21 = .ok (.bastore, 1) := by decide +kernel
theorem dX2_mendAt_22 : decode cX2_mendAt 22 = .ok (.return_, 1) := by decide +kernel
theorem dX2_isBroken_0 : decode cX2_isBroken 0 = .ok (.aload_n 0, 1) := by decide +kernel
theorem dX2_isBroken_1 : decode cX2_isBroken 1 = .ok (.iload_n 1, 1) := by decide +kernel
theorem dX2_isBroken_2 : decode cX2_isBroken 2 = .ok (.invokevirtual 50, 3) := by decide +kernel
theorem dX2_isBroken_5 : decode cX2_isBroken 5 = .ok (.ifCond .eq 16, 3) := by decide +kernel
theorem dX2_isBroken_8 : decode cX2_isBroken 8 = .ok (.aload_n 0, 1) := by decide +kernel
theorem dX2_isBroken_9 : decode cX2_isBroken 9 = .ok (.getfield 37, 3) := by decide +kernel
theorem dX2_isBroken_12 : decode cX2_isBroken 12 = .ok (.iload_n 1, 1) := by decide +kernel
theorem dX2_isBroken_13 : decode cX2_isBroken 13 = .ok (.baload, 1) := by decide +kernel
theorem dX2_isBroken_14 : decode cX2_isBroken 14 = .ok (.ifCond .eq 7, 3) := by decide +kernel
theorem dX2_isBroken_17 : decode cX2_isBroken 17 = .ok (.iconst 1, 1) := by decide +kernel
theorem dX2_isBroken_18 : decode cX2_isBroken 18 = .ok (.goto 4, 3) := by decide +kernel
theorem dX2_isBroken_21 : decode cX2_isBroken 21 = .ok (.iconst 0, 1) := by decide +kernel
theorem dX2_isBroken_22 : decode cX2_isBroken 22 = .ok (.ireturn, 1) := by decide +kernel
theorem dX2_faults_0 : decode cX2_faults 0 = .ok (.iconst 0, 1) := by decide +kernel
theorem dX2_faults_1 : decode cX2_faults 1 = .ok (.istore_n 1, 1) := by decide +kernel
theorem dX2_faults_2 : decode cX2_faults 2 = .ok (.iconst 0, 1) := by decide +kernel
theorem dX2_faults_3 : decode cX2_faults 3 = .ok (.istore_n 2, 1) := by decide +kernel
theorem dX2_faults_4 : decode cX2_faults 4 = .ok (.iload_n 2, 1) := by decide +kernel
theorem dX2_faults_5 : decode cX2_faults 5 = .ok (.aload_n 0, 1) := by decide +kernel
theorem dX2_faults_6 : decode cX2_faults 6 = .ok (.getfield 15, 3) := by decide +kernel
theorem dX2_faults_9 : decode cX2_faults 9 = .ok (.if_icmp .ge 20, 3) := by decide +kernel
theorem dX2_faults_12 : decode cX2_faults 12 = .ok (.aload_n 0, 1) := by decide +kernel
theorem dX2_faults_13 : decode cX2_faults 13 = .ok (.iload_n 2, 1) := by decide +kernel
theorem dX2_faults_14 : decode cX2_faults 14 = .ok (.invokevirtual 53, 3) := by decide +kernel
theorem dX2_faults_17 : decode cX2_faults 17 = .ok (.ifCond .eq 6, 3) := by decide +kernel
theorem dX2_faults_20 : decode cX2_faults 20 = .ok (.iinc 1 1, 3) := by decide +kernel
theorem dX2_faults_23 : decode cX2_faults 23 = .ok (.iinc 2 1, 3) := by decide +kernel
theorem dX2_faults_26 : decode cX2_faults 26 = .ok (.goto (-22), 3) := by decide +kernel
theorem dX2_faults_29 : decode cX2_faults 29 = .ok (.iload_n 1, 1) := by decide +kernel
theorem dX2_faults_30 : decode cX2_faults 30 = .ok (.ireturn, 1) := by decide +kernel
theorem dX2_bind_0 : decode cX2_bind 0 = .ok (.iconst 0, 1) := by decide +kernel
theorem dX2_bind_1 : decode cX2_bind 1 = .ok (.istore_n 2, 1) := by decide +kernel
theorem dX2_bind_2 : decode cX2_bind 2 = .ok (.iload_n 2, 1) := by decide +kernel
theorem dX2_bind_3 : decode cX2_bind 3 = .ok (.aload_n 0, 1) := by decide +kernel
theorem dX2_bind_4 : decode cX2_bind 4 = .ok (.getfield 21, 3) := by decide +kernel
theorem dX2_bind_7 : decode cX2_bind 7 = .ok (.if_icmp .ge 47, 3) := by decide +kernel
theorem dX2_bind_10 : decode cX2_bind 10 = .ok (.iconst 0, 1) := by decide +kernel
theorem dX2_bind_11 : decode cX2_bind 11 = .ok (.istore_n 3, 1) := by decide +kernel
theorem dX2_bind_12 : decode cX2_bind 12 = .ok (.iload_n 3, 1) := by decide +kernel
theorem dX2_bind_13 : decode cX2_bind 13 = .ok (.aload_n 0, 1) := by decide +kernel
theorem dX2_bind_14 : decode cX2_bind 14 = .ok (.getfield 15, 3) := by decide +kernel
theorem dX2_bind_17 : decode cX2_bind 17 = .ok (.if_icmp .ge 31, 3) := by decide +kernel
theorem dX2_bind_20 : decode cX2_bind 20 = .ok (.aload_n 0, 1) := by decide +kernel
theorem dX2_bind_21 : decode cX2_bind 21 = .ok (.aload_n 1, 1) := by decide +kernel
theorem dX2_bind_22 : decode cX2_bind 22 = .ok (.iload_n 2, 1) := by decide +kernel
theorem dX2_bind_23 : decode cX2_bind 23 = .ok (.iload_n 3, 1) := by decide +kernel
theorem dX2_bind_24 : decode cX2_bind 24 = .ok (.invokevirtual 56, 3) := by decide +kernel
theorem dX2_bind_27 : decode cX2_bind 27 = .ok (.ifCond .eq 13, 3) := by decide +kernel
theorem dX2_bind_30 : decode cX2_bind 30 = .ok (.aload_n 0, 1) := by decide +kernel
theorem dX2_bind_31 : decode cX2_bind 31 = .ok (.aload_n 1, 1) := by decide +kernel
theorem dX2_bind_32 : decode cX2_bind 32 = .ok (.iload_n 2, 1) := by decide +kernel
theorem dX2_bind_33 : decode cX2_bind 33 = .ok (.iload_n 3, 1) := by decide +kernel
theorem dX2_bind_34 : decode cX2_bind 34 = .ok (.invokevirtual 60, 3) := by decide +kernel
theorem dX2_bind_37 : decode cX2_bind 37 = .ok (.ifCond .ne 5, 3) := by decide +kernel
theorem dX2_bind_40 : decode cX2_bind 40 = .ok (.iconst 0, 1) := by decide +kernel
theorem dX2_bind_41 : decode cX2_bind 41 = .ok (.ireturn, 1) := by decide +kernel
theorem dX2_bind_42 : decode cX2_bind 42 = .ok (.iinc 3 1, 3) := by decide +kernel
theorem dX2_bind_45 : decode cX2_bind 45 = .ok (.goto (-33), 3) := by decide +kernel
theorem dX2_bind_48 : decode cX2_bind 48 = .ok (.iinc 2 1, 3) := by decide +kernel
theorem dX2_bind_51 : decode cX2_bind 51 = .ok (.goto (-49), 3) := by decide +kernel
theorem dX2_bind_54 : decode cX2_bind 54 = .ok (.iconst 1, 1) := by decide +kernel
theorem dX2_bind_55 : decode cX2_bind 55 = .ok (.ireturn, 1) := by decide +kernel
theorem dX2_bindThick_0 : decode cX2_bindThick 0 = .ok (.aload_n 0, 1) := by decide +kernel
theorem dX2_bindThick_1 : decode cX2_bindThick 1 = .ok (.iload_n 2, 1) := by decide +kernel
theorem dX2_bindThick_2 : decode cX2_bindThick 2 = .ok (.iload_n 3, 1) := by decide +kernel
theorem dX2_bindThick_3 : decode cX2_bindThick 3 = .ok (.invokevirtual 63, 3) := by decide +kernel
theorem dX2_bindThick_6 : decode cX2_bindThick 6 = .ok (.ifCond .eq 13, 3) := by decide +kernel
theorem dX2_bindThick_9 : decode cX2_bindThick 9 = .ok (.aload_n 0, 1) := by decide +kernel
theorem dX2_bindThick_10 : decode cX2_bindThick 10 = .ok (.iload_n 2, 1) := by decide +kernel
theorem dX2_bindThick_11 : decode cX2_bindThick 11 = .ok (.iconst 1, 1) := by decide +kernel
theorem dX2_bindThick_12 : decode cX2_bindThick 12 = .ok (.iadd, 1) := by decide +kernel
theorem dX2_bindThick_13 : decode cX2_bindThick 13 = .ok (.invokevirtual 41, 3) := by decide +kernel
theorem dX2_bindThick_16 : decode cX2_bindThick 16 = .ok (.ifCond .ne 5, 3) := by decide +kernel
theorem dX2_bindThick_19 : decode cX2_bindThick 19 = .ok (.iconst 1, 1) := by decide +kernel
theorem dX2_bindThick_20 : decode cX2_bindThick 20 = .ok (.ireturn, 1) := by decide +kernel
theorem dX2_bindThick_21 : decode cX2_bindThick 21 = .ok (.aload_n 0, 1) := by decide +kernel
theorem dX2_bindThick_22 : decode cX2_bindThick 22 = .ok (.iload_n 2, 1) := by decide +kernel
theorem dX2_bindThick_23 : decode cX2_bindThick 23 = .ok (.iload_n 3, 1) := by decide +kernel
theorem dX2_bindThick_24 : decode cX2_bindThick 24 = .ok (.invokevirtual 67, 3) := by decide +kernel
theorem dX2_bindThick_27 : decode cX2_bindThick 27 = .ok (.istore 4, 2) := by decide +kernel
theorem dX2_bindThick_29 : decode cX2_bindThick 29 = .ok (.aload_n 0, 1) := by decide +kernel
theorem dX2_bindThick_30 : decode cX2_bindThick 30 = .ok (.iload_n 2, 1) := by decide +kernel
theorem dX2_bindThick_31 : decode cX2_bindThick 31 = .ok (.iconst 1, 1) := by decide +kernel
theorem dX2_bindThick_32 : decode cX2_bindThick 32 = .ok (.iadd, 1) := by decide +kernel
theorem dX2_bindThick_33 : decode cX2_bindThick 33 = .ok (.iload_n 3, 1) := by decide +kernel
theorem dX2_bindThick_34 : decode cX2_bindThick 34 = .ok (.invokevirtual 67, 3) := by decide +kernel
theorem dX2_bindThick_37 : decode cX2_bindThick 37 = .ok (.istore 5, 2) := by decide +kernel
theorem dX2_bindThick_39 : decode cX2_bindThick 39 = .ok (.aload_n 1, 1) := by decide +kernel
theorem dX2_bindThick_40 : decode cX2_bindThick 40 = .ok (.iload 4, 2) := by decide +kernel
theorem dX2_bindThick_42 : decode cX2_bindThick 42 = .ok (.iload 5, 2) := by decide +kernel
theorem dX2_bindThick_44 : decode cX2_bindThick 44 = .ok (.aload_n 0, 1) := by decide +kernel
theorem dX2_bindThick_45 : decode cX2_bindThick 45 = .ok (.getfield 24, 3) := by decide +kernel
theorem dX2_bindThick_48 : decode cX2_bindThick 48 = .ok (.iload_n 2, 1) := by decide +kernel
theorem dX2_bindThick_49 : decode cX2_bindThick 49 = .ok (.iaload, 1) := by decide +kernel
theorem dX2_bindThick_50 : decode cX2_bindThick 50 = .ok (.aload_n 0, 1) := by decide +kernel
theorem dX2_bindThick_51 : decode cX2_bindThick 51 = .ok (.getfield 28, 3) := by decide +kernel
theorem dX2_bindThick_54 : decode cX2_bindThick 54 = .ok (.iload_n 2, 1) := by decide +kernel
theorem dX2_bindThick_55 : decode cX2_bindThick 55 = .ok (.iaload, 1) := by decide +kernel
theorem dX2_bindThick_56 : decode cX2_bindThick 56 = .ok (.invokevirtual 70, 3) := by decide +kernel
theorem dX2_bindThick_59 : decode cX2_bindThick 59 = .ok (.ireturn, 1) := by decide +kernel
theorem dX2_bindStep_0 : decode cX2_bindStep 0 = .ok (.aload_n 0, 1) := by decide +kernel
theorem dX2_bindStep_1 : decode cX2_bindStep 1 = .ok (.iload_n 2, 1) := by decide +kernel
theorem dX2_bindStep_2 : decode cX2_bindStep 2 = .ok (.invokevirtual 41, 3) := by decide +kernel
theorem dX2_bindStep_5 : decode cX2_bindStep 5 = .ok (.ifCond .eq 11, 3) := by decide +kernel
theorem dX2_bindStep_8 : decode cX2_bindStep 8 = .ok (.aload_n 0, 1) := by decide +kernel
theorem dX2_bindStep_9 : decode cX2_bindStep 9 = .ok (.iload_n 3, 1) := by decide +kernel
theorem dX2_bindStep_10 : decode cX2_bindStep 10 = .ok (.invokevirtual 50, 3) := by decide +kernel
theorem dX2_bindStep_13 : decode cX2_bindStep 13 = .ok (.ifCond .ne 5, 3) := by decide +kernel
theorem dX2_bindStep_16 : decode cX2_bindStep 16 = .ok (.iconst 1, 1) := by decide +kernel
theorem dX2_bindStep_17 : decode cX2_bindStep 17 = .ok (.ireturn, 1) := by decide +kernel
theorem dX2_bindStep_18 : decode cX2_bindStep 18 = .ok (.aload_n 0, 1) := by decide +kernel
theorem dX2_bindStep_19 : decode cX2_bindStep 19 = .ok (.iload_n 2, 1) := by decide +kernel
theorem dX2_bindStep_20 : decode cX2_bindStep 20 = .ok (.iload_n 3, 1) := by decide +kernel
theorem dX2_bindStep_21 : decode cX2_bindStep 21 = .ok (.invokevirtual 67, 3) := by decide +kernel
theorem dX2_bindStep_24 : decode cX2_bindStep 24 = .ok (.istore 4, 2) := by decide +kernel
theorem dX2_bindStep_26 : decode cX2_bindStep 26 = .ok (.aload_n 0, 1) := by decide +kernel
theorem dX2_bindStep_27 : decode cX2_bindStep 27 = .ok (.iload_n 2, 1) := by decide +kernel
theorem dX2_bindStep_28 : decode cX2_bindStep 28 = .ok (.iload_n 3, 1) := by decide +kernel
theorem dX2_bindStep_29 : decode cX2_bindStep 29 = .ok (.iconst 1, 1) := by decide +kernel
theorem dX2_bindStep_30 : decode cX2_bindStep 30 = .ok (.iadd, 1) := by decide +kernel
theorem dX2_bindStep_31 : decode cX2_bindStep 31 = .ok (.invokevirtual 67, 3) := by decide +kernel
theorem dX2_bindStep_34 : decode cX2_bindStep 34 = .ok (.istore 5, 2) := by decide +kernel
theorem dX2_bindStep_36 : decode cX2_bindStep 36 = .ok (.aload_n 0, 1) := by decide +kernel
theorem dX2_bindStep_37 : decode cX2_bindStep 37 = .ok (.getfield 34, 3) := by decide +kernel
theorem dX2_bindStep_40 : decode cX2_bindStep 40 = .ok (.iload_n 3, 1) := by decide +kernel
theorem dX2_bindStep_41 : decode cX2_bindStep 41 = .ok (.iaload, 1) := by decide +kernel
theorem dX2_bindStep_42 : decode cX2_bindStep 42 = .ok (.istore 6, 2) := by decide +kernel
theorem dX2_bindStep_44 : decode cX2_bindStep 44 = .ok (.aload_n 0, 1) := by decide +kernel
theorem dX2_bindStep_45 : decode cX2_bindStep 45 = .ok (.getfield 31, 3) := by decide +kernel
theorem dX2_bindStep_48 : decode cX2_bindStep 48 = .ok (.iload_n 2, 1) := by decide +kernel
theorem dX2_bindStep_49 : decode cX2_bindStep 49 = .ok (.iaload, 1) := by decide +kernel
theorem dX2_bindStep_50 : decode cX2_bindStep 50 = .ok (.istore 7, 2) := by decide +kernel
theorem dX2_bindStep_52 : decode cX2_bindStep 52 = .ok (.aload_n 1, 1) := by decide +kernel
theorem dX2_bindStep_53 : decode cX2_bindStep 53 = .ok (.iload 4, 2) := by decide +kernel
theorem dX2_bindStep_55 : decode cX2_bindStep 55 = .ok (.iload 5, 2) := by decide +kernel
theorem dX2_bindStep_57 : decode cX2_bindStep 57 = .ok (.iload 6, 2) := by decide +kernel
theorem dX2_bindStep_59 : decode cX2_bindStep 59 = .ok (.iload 7, 2) := by decide +kernel
theorem dX2_bindStep_61 : decode cX2_bindStep 61 = .ok (.isub, 1) := by decide +kernel
theorem dX2_bindStep_62 : decode cX2_bindStep 62 = .ok (.iload 6, 2) := by decide +kernel
theorem dX2_bindStep_64 : decode cX2_bindStep 64 = .ok (.iload 7, 2) := by decide +kernel
theorem dX2_bindStep_66 : decode cX2_bindStep 66 = .ok (.iadd, 1) := by decide +kernel
theorem dX2_bindStep_67 : decode cX2_bindStep 67 = .ok (.invokevirtual 70, 3) := by decide +kernel
theorem dX2_bindStep_70 : decode cX2_bindStep 70 = .ok (.ireturn, 1) := by decide +kernel
theorem dX3_init_0 : decode cX3_init 0 = .ok (.aload_n 0, 1) := by decide +kernel
theorem dX3_init_1 : decode cX3_init 1 = .ok (.invokespecial 3, 3) := by decide +kernel
theorem dX3_init_4 : decode cX3_init 4 = .ok (.aload_n 0, 1) := by decide +kernel
theorem dX3_init_5 : decode cX3_init 5 = .ok (.iload_n 1, 1) := by decide +kernel
theorem dX3_init_6 : decode cX3_init 6 = .ok (.putfield 9, 3) := by decide +kernel
theorem dX3_init_9 : decode cX3_init 9 = .ok (.aload_n 0, 1) := by decide +kernel
theorem dX3_init_10 : decode cX3_init 10 = .ok (.iload_n 2, 1) := by decide +kernel
theorem dX3_init_11 : decode cX3_init 11 = .ok (.putfield 15, 3) := by decide +kernel
theorem dX3_init_14 : decode cX3_init 14 = .ok (.aload_n 0, 1) := by decide +kernel
theorem dX3_init_15 : decode cX3_init 15 = .ok (.iload_n 3, 1) := by decide +kernel
theorem dX3_init_16 : decode cX3_init 16 = .ok (.putfield 18, 3) := by decide +kernel
theorem dX3_init_19 : decode cX3_init 19 = .ok (.aload_n 0, 1) := by decide +kernel
theorem dX3_init_20 : decode cX3_init 20 = .ok (.iload 4, 2) := by decide +kernel
theorem dX3_init_22 : decode cX3_init 22 = .ok (.putfield 21, 3) := by decide +kernel
theorem dX3_init_25 : decode cX3_init 25 = .ok (.aload_n 0, 1) := by decide +kernel
theorem dX3_init_26 : decode cX3_init 26 = .ok (.iload 5, 2) := by decide +kernel
theorem dX3_init_28 : decode cX3_init 28 = .ok (.putfield 24, 3) := by decide +kernel
theorem dX3_init_31 : decode cX3_init 31 = .ok (.return_, 1) := by decide +kernel
theorem dX3_surface_0 : decode cX3_surface 0 = .ok (.aload_n 0, 1) := by decide +kernel
theorem dX3_surface_1 : decode cX3_surface 1 = .ok (.getfield 9, 3) := by decide +kernel
theorem dX3_surface_4 : decode cX3_surface 4 = .ok (.ireturn, 1) := by decide +kernel
theorem dX3_column_0 : decode cX3_column 0 = .ok (.aload_n 0, 1) := by decide +kernel
theorem dX3_column_1 : decode cX3_column 1 = .ok (.getfield 15, 3) := by decide +kernel
theorem dX3_column_4 : decode cX3_column 4 = .ok (.ireturn, 1) := by decide +kernel
theorem dX3_kind_0 : decode cX3_kind 0 = .ok (.aload_n 0, 1) := by decide +kernel
theorem dX3_kind_1 : decode cX3_kind 1 = .ok (.getfield 18, 3) := by decide +kernel
theorem dX3_kind_4 : decode cX3_kind 4 = .ok (.ireturn, 1) := by decide +kernel
theorem dX3_z_0 : decode cX3_z 0 = .ok (.aload_n 0, 1) := by decide +kernel
theorem dX3_z_1 : decode cX3_z 1 = .ok (.getfield 21, 3) := by decide +kernel
theorem dX3_z_4 : decode cX3_z 4 = .ok (.ireturn, 1) := by decide +kernel
theorem dX3_miss_0 : decode cX3_miss 0 = .ok (.aload_n 0, 1) := by decide +kernel
theorem dX3_miss_1 : decode cX3_miss 1 = .ok (.getfield 24, 3) := by decide +kernel
theorem dX3_miss_4 : decode cX3_miss 4 = .ok (.ireturn, 1) := by decide +kernel
theorem dX3_bind_0 : decode cX3_bind 0 = .ok (.aload_n 2, 1) := by decide +kernel
theorem dX3_bind_1 : decode cX3_bind 1 = .ok (.aload_n 0, 1) := by decide +kernel
theorem dX3_bind_2 : decode cX3_bind 2 = .ok (.getfield 9, 3) := by decide +kernel
theorem dX3_bind_5 : decode cX3_bind 5 = .ok (.aload_n 0, 1) := by decide +kernel
theorem dX3_bind_6 : decode cX3_bind 6 = .ok (.getfield 15, 3) := by decide +kernel
theorem dX3_bind_9 : decode cX3_bind 9 = .ok (.invokevirtual 27, 3) := by decide +kernel
theorem dX3_bind_12 : decode cX3_bind 12 = .ok (.istore_n 3, 1) := by decide +kernel
theorem dX3_bind_13 : decode cX3_bind 13 = .ok (.aload_n 0, 1) := by decide +kernel
theorem dX3_bind_14 : decode cX3_bind 14 = .ok (.getfield 18, 3) := by decide +kernel
theorem dX3_bind_17 : decode cX3_bind 17 = .ok (.tableswitch 77 0 2 #[27, 52, 65], 27) := by decide +kernel
theorem dX3_bind_44 : decode cX3_bind 44 = .ok (.aload_n 1, 1) := by decide +kernel
theorem dX3_bind_45 : decode cX3_bind 45 = .ok (.iconst 0, 1) := by decide +kernel
theorem dX3_bind_46 : decode cX3_bind 46 = .ok (.iload_n 3, 1) := by decide +kernel
theorem dX3_bind_47 : decode cX3_bind 47 = .ok (.aload_n 0, 1) := by decide +kernel
theorem dX3_bind_48 : decode cX3_bind 48 = .ok (.getfield 21, 3) := by decide +kernel
theorem dX3_bind_51 : decode cX3_bind 51 = .ok (.aload_n 0, 1) := by decide +kernel
theorem dX3_bind_52 : decode cX3_bind 52 = .ok (.getfield 24, 3) := by decide +kernel
theorem dX3_bind_55 : decode cX3_bind 55 = .ok (.isub, 1) := by decide +kernel
theorem dX3_bind_56 : decode cX3_bind 56 = .ok (.aload_n 0, 1) := by decide +kernel
theorem dX3_bind_57 : decode cX3_bind 57 = .ok (.getfield 21, 3) := by decide +kernel
theorem dX3_bind_60 : decode cX3_bind 60 = .ok (.aload_n 0, 1) := by decide +kernel
theorem dX3_bind_61 : decode cX3_bind 61 = .ok (.getfield 24, 3) := by decide +kernel
theorem dX3_bind_64 : decode cX3_bind 64 = .ok (.iadd, 1) := by decide +kernel
theorem dX3_bind_65 : decode cX3_bind 65 = .ok (.invokevirtual 35, 3) := by decide +kernel
theorem dX3_bind_68 : decode cX3_bind 68 = .ok (.ireturn, 1) := by decide +kernel
theorem dX3_bind_69 : decode cX3_bind 69 = .ok (.aload_n 1, 1) := by decide +kernel
theorem dX3_bind_70 : decode cX3_bind 70 = .ok (.iconst 0, 1) := by decide +kernel
theorem dX3_bind_71 : decode cX3_bind 71 = .ok (.iload_n 3, 1) := by decide +kernel
theorem dX3_bind_72 : decode cX3_bind 72 = .ok (.aload_n 0, 1) := by decide +kernel
theorem dX3_bind_73 : decode cX3_bind 73 = .ok (.getfield 21, 3) := by decide +kernel
theorem dX3_bind_76 : decode cX3_bind 76 = .ok (.bipush 60, 2) := by decide +kernel
theorem dX3_bind_78 : decode cX3_bind 78 = .ok (.invokevirtual 35, 3) := by decide +kernel
theorem dX3_bind_81 : decode cX3_bind 81 = .ok (.ireturn, 1) := by decide +kernel
theorem dX3_bind_82 : decode cX3_bind 82 = .ok (.aload_n 1, 1) := by decide +kernel
theorem dX3_bind_83 : decode cX3_bind 83 = .ok (.iconst 0, 1) := by decide +kernel
theorem dX3_bind_84 : decode cX3_bind 84 = .ok (.iload_n 3, 1) := by decide +kernel
theorem dX3_bind_85 : decode cX3_bind 85 = .ok (.iconst 0, 1) := by decide +kernel
theorem dX3_bind_86 : decode cX3_bind 86 = .ok (.aload_n 0, 1) := by decide +kernel
theorem dX3_bind_87 : decode cX3_bind 87 = .ok (.getfield 21, 3) := by decide +kernel
theorem dX3_bind_90 : decode cX3_bind 90 = .ok (.invokevirtual 35, 3) := by decide +kernel
theorem dX3_bind_93 : decode cX3_bind 93 = .ok (.ireturn, 1) := by decide +kernel
theorem dX3_bind_94 : decode cX3_bind 94 = .ok (.aload_n 1, 1) := by decide +kernel
theorem dX3_bind_95 : decode cX3_bind 95 = .ok (.iload_n 3, 1) := by decide +kernel
theorem dX3_bind_96 : decode cX3_bind 96 = .ok (.aload_n 2, 1) := by decide +kernel
theorem dX3_bind_97 : decode cX3_bind 97 = .ok (.aload_n 0, 1) := by decide +kernel
theorem dX3_bind_98 : decode cX3_bind 98 = .ok (.getfield 9, 3) := by decide +kernel
theorem dX3_bind_101 : decode cX3_bind 101 = .ok (.aload_n 0, 1) := by decide +kernel
theorem dX3_bind_102 : decode cX3_bind 102 = .ok (.getfield 15, 3) := by decide +kernel
theorem dX3_bind_105 : decode cX3_bind 105 = .ok (.iconst 1, 1) := by decide +kernel
theorem dX3_bind_106 : decode cX3_bind 106 = .ok (.iadd, 1) := by decide +kernel
theorem dX3_bind_107 : decode cX3_bind 107 = .ok (.invokevirtual 27, 3) := by decide +kernel
theorem dX3_bind_110 : decode cX3_bind 110 = .ok (.aload_n 0, 1) := by decide +kernel
theorem dX3_bind_111 : decode cX3_bind 111 = .ok (.getfield 21, 3) := by decide +kernel
theorem dX3_bind_114 : decode cX3_bind 114 = .ok (.aload_n 0, 1) := by decide +kernel
theorem dX3_bind_115 : decode cX3_bind 115 = .ok (.getfield 24, 3) := by decide +kernel
theorem dX3_bind_118 : decode cX3_bind 118 = .ok (.isub, 1) := by decide +kernel
theorem dX3_bind_119 : decode cX3_bind 119 = .ok (.aload_n 0, 1) := by decide +kernel
theorem dX3_bind_120 : decode cX3_bind 120 = .ok (.getfield 21, 3) := by decide +kernel
theorem dX3_bind_123 : decode cX3_bind 123 = .ok (.aload_n 0, 1) := by decide +kernel
theorem dX3_bind_124 : decode cX3_bind 124 = .ok (.getfield 24, 3) := by decide +kernel
theorem dX3_bind_127 : decode cX3_bind 127 = .ok (.iadd, 1) := by decide +kernel
theorem dX3_bind_128 : decode cX3_bind 128 = .ok (.invokevirtual 35, 3) := by decide +kernel
theorem dX3_bind_131 : decode cX3_bind 131 = .ok (.ireturn, 1) := by decide +kernel
theorem dX4_init_0 : decode cX4_init 0 = .ok (.aload_n 0, 1) := by decide +kernel
theorem dX4_init_1 : decode cX4_init 1 = .ok (.invokespecial 3, 3) := by decide +kernel
theorem dX4_init_4 : decode cX4_init 4 = .ok (.aload_n 0, 1) := by decide +kernel
theorem dX4_init_5 : decode cX4_init 5 = .ok (.bipush 10, 2) := by decide +kernel
theorem dX4_init_7 : decode cX4_init 7 = .ok (.anewarray 9, 3) := by decide +kernel
theorem dX4_init_10 : decode cX4_init 10 = .ok (.putfield 11, 3) := by decide +kernel
theorem dX4_init_13 : decode cX4_init 13 = .ok (.aload_n 0, 1) := by decide +kernel
theorem dX4_init_14 : decode cX4_init 14 = .ok (.iconst 0, 1) := by decide +kernel
theorem dX4_init_15 : decode cX4_init 15 = .ok (.putfield 17, 3) := by decide +kernel
theorem dX4_init_18 : decode cX4_init 18 = .ok (.return_, 1) := by decide +kernel
theorem dX4_add_0 : decode cX4_add 0 = .ok (.aload_n 0, 1) := by decide +kernel
theorem dX4_add_1 : decode cX4_add 1 = .ok (.getfield 17, 3) := by decide +kernel
theorem dX4_add_4 : decode cX4_add 4 = .ok (.aload_n 0, 1) := by decide +kernel
theorem dX4_add_5 : decode cX4_add 5 = .ok (.getfield 11, 3) := by decide +kernel
theorem dX4_add_8 : decode cX4_add 8 = .ok (.arraylength, 1) := by decide +kernel
theorem dX4_add_9 : decode cX4_add 9 = .ok (.if_icmp .lt 5, 3) := by decide +kernel
theorem dX4_add_12 : decode cX4_add 12 = .ok (.iconst (-1), 1) := by decide +kernel
theorem dX4_add_13 : decode cX4_add 13 = .ok (.ireturn, 1) := by decide +kernel
theorem dX4_add_14 : decode cX4_add 14 = .ok (.aload_n 0, 1) := by decide +kernel
theorem dX4_add_15 : decode cX4_add 15 = .ok (.getfield 11, 3) := by decide +kernel
theorem dX4_add_18 : decode cX4_add 18 = .ok (.aload_n 0, 1) := by decide +kernel
theorem dX4_add_19 : decode cX4_add 19 = .ok (.getfield 17, 3) := by decide +kernel
theorem dX4_add_22 : decode cX4_add 22 = .ok (.aload_n 1, 1) := by decide +kernel
theorem dX4_add_23 : decode cX4_add 23 = .ok (.aastore, 1) := by decide +kernel
theorem dX4_add_24 : decode cX4_add 24 = .ok (.aload_n 0, 1) := by decide +kernel
theorem dX4_add_25 : decode cX4_add 25 = .ok (.dup, 1) := by decide +kernel
theorem dX4_add_26 : decode cX4_add 26 = .ok (.getfield 17, 3) := by decide +kernel
theorem dX4_add_29 : decode cX4_add 29 = .ok (.iconst 1, 1) := by decide +kernel
theorem dX4_add_30 : decode cX4_add 30 = .ok (.iadd, 1) := by decide +kernel
theorem dX4_add_31 : decode cX4_add 31 = .ok (.putfield 17, 3) := by decide +kernel
theorem dX4_add_34 : decode cX4_add 34 = .ok (.aload_n 0, 1) := by decide +kernel
theorem dX4_add_35 : decode cX4_add 35 = .ok (.getfield 17, 3) := by decide +kernel
theorem dX4_add_38 : decode cX4_add 38 = .ok (.iconst 1, 1) := by decide +kernel
theorem dX4_add_39 : decode cX4_add 39 = .ok (.isub, 1) := by decide +kernel
theorem dX4_add_40 : decode cX4_add 40 = .ok (.ireturn, 1) := by decide +kernel
theorem dX4_remove_0 : decode cX4_remove 0 = .ok (.aload_n 0, 1) := by decide +kernel
theorem dX4_remove_1 : decode cX4_remove 1 = .ok (.iload_n 1, 1) := by decide +kernel
theorem dX4_remove_2 : decode cX4_remove 2 = .ok (.invokevirtual 21, 3) := by decide +kernel
theorem dX4_remove_5 : decode cX4_remove 5 = .ok (.ifnonnull 5, 3) := by decide +kernel
theorem dX4_remove_8 : decode cX4_remove 8 = .ok (.iconst 0, 1) := by decide +kernel
theorem dX4_remove_9 : decode cX4_remove 9 = .ok (.ireturn, 1) := by decide +kernel
theorem dX4_remove_10 : decode cX4_remove 10 = .ok (.aload_n 0, 1) := by decide +kernel
theorem dX4_remove_11 : decode cX4_remove 11 = .ok (.getfield 11, 3) := by decide +kernel
theorem dX4_remove_14 : decode cX4_remove 14 = .ok (.iload_n 1, 1) := by decide +kernel
theorem dX4_remove_15 : decode cX4_remove 15 = .ok (.aconst_null, 1) := by decide +kernel
theorem dX4_remove_16 : decode cX4_remove 16 = .ok (.aastore, 1) := by decide +kernel
theorem dX4_remove_17 : decode cX4_remove 17 = .ok (.iconst 1, 1) := by decide +kernel
theorem dX4_remove_18 : decode cX4_remove 18 = .ok (.ireturn, 1) := by decide +kernel
theorem dX4_at_0 : decode cX4_at 0 = .ok (.iload_n 1, 1) := by decide +kernel
theorem dX4_at_1 : decode cX4_at 1 = .ok (.ifCond .lt 20, 3) := by decide +kernel
theorem dX4_at_4 : decode cX4_at 4 = .ok (.iload_n 1, 1) := by decide +kernel
theorem dX4_at_5 : decode cX4_at 5 = .ok (.aload_n 0, 1) := by decide +kernel
theorem dX4_at_6 : decode cX4_at 6 = .ok (.getfield 17, 3) := by decide +kernel
theorem dX4_at_9 : decode cX4_at 9 = .ok (.if_icmp .ge 12, 3) := by decide +kernel
theorem dX4_at_12 : decode cX4_at 12 = .ok (.aload_n 0, 1) := by decide +kernel
theorem dX4_at_13 : decode cX4_at 13 = .ok (.getfield 11, 3) := by decide +kernel
theorem dX4_at_16 : decode cX4_at 16 = .ok (.iload_n 1, 1) := by decide +kernel
theorem dX4_at_17 : decode cX4_at 17 = .ok (.aaload, 1) := by decide +kernel
theorem dX4_at_18 : decode cX4_at 18 = .ok (.goto 4, 3) := by decide +kernel
theorem dX4_at_21 : decode cX4_at 21 = .ok (.aconst_null, 1) := by decide +kernel
theorem dX4_at_22 : decode cX4_at 22 = .ok (.areturn, 1) := by decide +kernel
theorem dX4_came_0 : decode cX4_came 0 = .ok (.aload_n 0, 1) := by decide +kernel
theorem dX4_came_1 : decode cX4_came 1 = .ok (.getfield 17, 3) := by decide +kernel
theorem dX4_came_4 : decode cX4_came 4 = .ok (.ireturn, 1) := by decide +kernel
theorem dX4_heap_0 : decode cX4_heap 0 = .ok (.iconst 0, 1) := by decide +kernel
theorem dX4_heap_1 : decode cX4_heap 1 = .ok (.istore_n 1, 1) := by decide +kernel
theorem dX4_heap_2 : decode cX4_heap 2 = .ok (.iconst 0, 1) := by decide +kernel
theorem dX4_heap_3 : decode cX4_heap 3 = .ok (.istore_n 2, 1) := by decide +kernel
theorem dX4_heap_4 : decode cX4_heap 4 = .ok (.iload_n 2, 1) := by decide +kernel
theorem dX4_heap_5 : decode cX4_heap 5 = .ok (.aload_n 0, 1) := by decide +kernel
theorem dX4_heap_6 : decode cX4_heap 6 = .ok (.getfield 17, 3) := by decide +kernel
theorem dX4_heap_9 : decode cX4_heap 9 = .ok (.if_icmp .ge 23, 3) := by decide +kernel
theorem dX4_heap_12 : decode cX4_heap 12 = .ok (.aload_n 0, 1) := by decide +kernel
theorem dX4_heap_13 : decode cX4_heap 13 = .ok (.iload_n 2, 1) := by decide +kernel
theorem dX4_heap_14 : decode cX4_heap 14 = .ok (.invokevirtual 21, 3) := by decide +kernel
theorem dX4_heap_17 : decode cX4_heap 17 = .ok (.ifnull 9, 3) := by decide +kernel
theorem dX4_heap_20 : decode cX4_heap 20 = .ok (.iload_n 1, 1) := by decide +kernel
theorem dX4_heap_21 : decode cX4_heap 21 = .ok (.iconst 1, 1) := by decide +kernel
theorem dX4_heap_22 : decode cX4_heap 22 = .ok (.iload_n 2, 1) := by decide +kernel
theorem dX4_heap_23 : decode cX4_heap 23 = .ok (.ishl, 1) := by decide +kernel
theorem dX4_heap_24 : decode cX4_heap 24 = .ok (.ior, 1) := by decide +kernel
theorem dX4_heap_25 : decode cX4_heap 25 = .ok (.istore_n 1, 1) := by decide +kernel
theorem dX4_heap_26 : decode cX4_heap 26 = .ok (.iinc 2 1, 3) := by decide +kernel
theorem dX4_heap_29 : decode cX4_heap 29 = .ok (.goto (-25), 3) := by decide +kernel
theorem dX4_heap_32 : decode cX4_heap 32 = .ok (.iload_n 1, 1) := by decide +kernel
theorem dX4_heap_33 : decode cX4_heap 33 = .ok (.ireturn, 1) := by decide +kernel
theorem dX5_init_0 : decode cX5_init 0 = .ok (.aload_n 0, 1) := by decide +kernel
theorem dX5_init_1 : decode cX5_init 1 = .ok (.invokespecial 1, 3) := by decide +kernel
theorem dX5_init_4 : decode cX5_init 4 = .ok (.iconst 2, 1) := by decide +kernel
theorem dX5_init_5 : decode cX5_init 5 = .ok (.iload_n 1, 1) := by decide +kernel
theorem dX5_init_6 : decode cX5_init 6 = .ok (.bipush 8, 2) := by decide +kernel
theorem dX5_init_8 : decode cX5_init 8 = .ok (.invokestatic 7, 3) := by decide +kernel
theorem dX5_init_11 : decode cX5_init 11 = .ok (.invokestatic 13, 3) := by decide +kernel
theorem dX5_init_14 : decode cX5_init 14 = .ok (.istore_n 3, 1) := by decide +kernel
theorem dX5_init_15 : decode cX5_init 15 = .ok (.iconst 1, 1) := by decide +kernel
theorem dX5_init_16 : decode cX5_init 16 = .ok (.iload_n 2, 1) := by decide +kernel
theorem dX5_init_17 : decode cX5_init 17 = .ok (.iconst 4, 1) := by decide +kernel
theorem dX5_init_18 : decode cX5_init 18 = .ok (.invokestatic 7, 3) := by decide +kernel
theorem dX5_init_21 : decode cX5_init 21 = .ok (.invokestatic 13, 3) := by decide +kernel
theorem dX5_init_24 : decode cX5_init 24 = .ok (.istore 4, 2) := by decide +kernel
theorem dX5_init_26 : decode cX5_init 26 = .ok (.aload_n 0, 1) := by decide +kernel
theorem dX5_init_27 : decode cX5_init 27 = .ok (.new 16, 3) := by decide +kernel
theorem dX5_init_30 : decode cX5_init 30 = .ok (.dup, 1) := by decide +kernel
theorem dX5_init_31 : decode cX5_init 31 = .ok (.iload_n 3, 1) := by decide +kernel
theorem dX5_init_32 : decode cX5_init 32 = .ok (.iload 4, 2) := by decide +kernel
theorem dX5_init_34 : decode cX5_init 34 = .ok (.invokespecial 18, 3) := by decide +kernel
theorem dX5_init_37 : decode cX5_init 37 = .ok (.putfield 21, 3) := by decide +kernel
theorem dX5_init_40 : decode cX5_init 40 = .ok (.aload_n 0, 1) := by decide +kernel
theorem dX5_init_41 : decode cX5_init 41 = .ok (.new 27, 3) := by decide +kernel
theorem dX5_init_44 : decode cX5_init 44 = .ok (.dup, 1) := by decide +kernel
theorem dX5_init_45 : decode cX5_init 45 = .ok (.invokespecial 29, 3) := by decide +kernel
theorem dX5_init_48 : decode cX5_init 48 = .ok (.putfield 30, 3) := by decide +kernel
theorem dX5_init_51 : decode cX5_init 51 = .ok (.aload_n 0, 1) := by decide +kernel
theorem dX5_init_52 : decode cX5_init 52 = .ok (.new 34, 3) := by decide +kernel
theorem dX5_init_55 : decode cX5_init 55 = .ok (.dup, 1) := by decide +kernel
theorem dX5_init_56 : decode cX5_init 56 = .ok (.aload_n 0, 1) := by decide +kernel
theorem dX5_init_57 : decode cX5_init 57 = .ok (.getfield 21, 3) := by decide +kernel
theorem dX5_init_60 : decode cX5_init 60 = .ok (.aload_n 0, 1) := by decide +kernel
theorem dX5_init_61 : decode cX5_init 61 = .ok (.getfield 30, 3) := by decide +kernel
theorem dX5_init_64 : decode cX5_init 64 = .ok (.invokespecial 36, 3) := by decide +kernel
theorem dX5_init_67 : decode cX5_init 67 = .ok (.putfield 39, 3) := by decide +kernel
theorem dX5_init_70 : decode cX5_init 70 = .ok (.aload_n 0, 1) := by decide +kernel
theorem dX5_init_71 : decode cX5_init 71 = .ok (.iload_n 3, 1) := by decide +kernel
theorem dX5_init_72 : decode cX5_init 72 = .ok (.newarray .int, 2) := by decide +kernel
theorem dX5_init_74 : decode cX5_init 74 = .ok (.putfield 43, 3) := by decide +kernel
theorem dX5_init_77 : decode cX5_init 77 = .ok (.return_, 1) := by decide +kernel
theorem dX5_thick_0 : decode cX5_thick 0 = .ok (.aload_n 0, 1) := by decide +kernel
theorem dX5_thick_1 : decode cX5_thick 1 = .ok (.getfield 21, 3) := by decide +kernel
theorem dX5_thick_4 : decode cX5_thick 4 = .ok (.iload_n 1, 1) := by decide +kernel
theorem dX5_thick_5 : decode cX5_thick 5 = .ok (.invokevirtual 47, 3) := by decide +kernel
theorem dX5_thick_8 : decode cX5_thick 8 = .ok (.ifCond .eq 16, 3) := by decide +kernel
theorem dX5_thick_11 : decode cX5_thick 11 = .ok (.aload_n 0, 1) := by decide +kernel
theorem dX5_thick_12 : decode cX5_thick 12 = .ok (.getfield 21, 3) := by decide +kernel
theorem dX5_thick_15 : decode cX5_thick 15 = .ok (.iload_n 1, 1) := by decide +kernel
theorem dX5_thick_16 : decode cX5_thick 16 = .ok (.iconst 1, 1) := by decide +kernel
theorem dX5_thick_17 : decode cX5_thick 17 = .ok (.iadd, 1) := by decide +kernel
theorem dX5_thick_18 : decode cX5_thick 18 = .ok (.invokevirtual 47, 3) := by decide +kernel
theorem dX5_thick_21 : decode cX5_thick 21 = .ok (.ifCond .ne 5, 3) := by decide +kernel
theorem dX5_thick_24 : decode cX5_thick 24 = .ok (.iconst 0, 1) := by decide +kernel
theorem dX5_thick_25 : decode cX5_thick 25 = .ok (.ireturn, 1) := by decide +kernel
theorem dX5_thick_26 : decode cX5_thick 26 = .ok (.iload_n 2, 1) := by decide +kernel
theorem dX5_thick_27 : decode cX5_thick 27 = .ok (.invokestatic 51, 3) := by decide +kernel
theorem dX5_thick_30 : decode cX5_thick 30 = .ok (.ifCond .eq 15, 3) := by decide +kernel
theorem dX5_thick_33 : decode cX5_thick 33 = .ok (.iload_n 3, 1) := by decide +kernel
theorem dX5_thick_34 : decode cX5_thick 34 = .ok (.invokestatic 51, 3) := by decide +kernel
theorem dX5_thick_37 : decode cX5_thick 37 = .ok (.ifCond .eq 8, 3) := by decide +kernel
theorem dX5_thick_40 : decode cX5_thick 40 = .ok (.iload_n 2, 1) := by decide +kernel
theorem dX5_thick_41 : decode cX5_thick 41 = .ok (.iload_n 3, 1) := by decide +kernel
theorem dX5_thick_42 : decode cX5_thick 42 = .ok (.if_icmp .le 5, 3) := by decide +kernel
theorem dX5_thick_45 : decode cX5_thick 45 = .ok (.iconst 0, 1) := by decide +kernel
theorem dX5_thick_46 : decode cX5_thick 46 = .ok (.ireturn, 1) := by decide +kernel
theorem dX5_thick_47 : decode cX5_thick 47 = .ok (.aload_n 0, 1) := by decide +kernel
theorem dX5_thick_48 : decode cX5_thick 48 = .ok (.getfield 21, 3) := by decide +kernel
theorem dX5_thick_51 : decode cX5_thick 51 = .ok (.iload_n 1, 1) := by decide +kernel
theorem dX5_thick_52 : decode cX5_thick 52 = .ok (.iload_n 2, 1) := by decide +kernel
theorem dX5_thick_53 : decode cX5_thick 53 = .ok (.iload_n 3, 1) := by decide +kernel
theorem dX5_thick_54 : decode cX5_thick 54 = .ok (.invokevirtual 54, 3) := by decide +kernel
theorem dX5_thick_57 : decode cX5_thick 57 = .ok (.aload_n 0, 1) := by decide +kernel
theorem dX5_thick_58 : decode cX5_thick 58 = .ok (.getfield 39, 3) := by decide +kernel
theorem dX5_thick_61 : decode cX5_thick 61 = .ok (.invokevirtual 58, 3) := by decide +kernel
theorem dX5_thick_64 : decode cX5_thick 64 = .ok (.iconst 1, 1) := by decide +kernel
theorem dX5_thick_65 : decode cX5_thick 65 = .ok (.ireturn, 1) := by decide +kernel
theorem dX5_steep_0 : decode cX5_steep 0 = .ok (.aload_n 0, 1) := by decide +kernel
theorem dX5_steep_1 : decode cX5_steep 1 = .ok (.getfield 21, 3) := by decide +kernel
theorem dX5_steep_4 : decode cX5_steep 4 = .ok (.iload_n 1, 1) := by decide +kernel
theorem dX5_steep_5 : decode cX5_steep 5 = .ok (.invokevirtual 47, 3) := by decide +kernel
theorem dX5_steep_8 : decode cX5_steep 8 = .ok (.ifCond .eq 10, 3) := by decide +kernel
theorem dX5_steep_11 : decode cX5_steep 11 = .ok (.iload_n 2, 1) := by decide +kernel
theorem dX5_steep_12 : decode cX5_steep 12 = .ok (.invokestatic 51, 3) := by decide +kernel
theorem dX5_steep_15 : decode cX5_steep 15 = .ok (.ifCond .ne 5, 3) := by decide +kernel
theorem dX5_steep_18 : decode cX5_steep 18 = .ok (.iconst 0, 1) := by decide +kernel
end
section
theorem dX5_steep_19 : decode cX5_steep 19 = .ok (.ireturn, 1) := by decide +kernel
theorem dX5_steep_20 : decode cX5_steep 20 = .ok (.aload_n 0, 1) := by decide +kernel
theorem dX5_steep_21 : decode cX5_steep 21 = .ok (.getfield 21, 3) := by decide +kernel
theorem dX5_steep_24 : decode cX5_steep 24 = .ok (.iload_n 1, 1) := by decide +kernel
theorem dX5_steep_25 : decode cX5_steep 25 = .ok (.iload_n 2, 1) := by decide +kernel
theorem dX5_steep_26 : decode cX5_steep 26 = .ok (.invokevirtual 61, 3) := by decide +kernel
theorem dX5_steep_29 : decode cX5_steep 29 = .ok (.aload_n 0, 1) := by decide +kernel
theorem dX5_steep_30 : decode cX5_steep 30 = .ok (.getfield 39, 3) := by decide +kernel
theorem dX5_steep_33 : decode cX5_steep 33 = .ok (.invokevirtual 58, 3) := by decide +kernel
theorem dX5_steep_36 : decode cX5_steep 36 = .ok (.iconst 1, 1) := by decide +kernel
theorem dX5_steep_37 : decode cX5_steep 37 = .ok (.ireturn, 1) := by decide +kernel
theorem dX5_fault_0 : decode cX5_fault 0 = .ok (.aload_n 0, 1) := by decide +kernel
theorem dX5_fault_1 : decode cX5_fault 1 = .ok (.getfield 21, 3) := by decide +kernel
theorem dX5_fault_4 : decode cX5_fault 4 = .ok (.iload_n 1, 1) := by decide +kernel
theorem dX5_fault_5 : decode cX5_fault 5 = .ok (.invokevirtual 64, 3) := by decide +kernel
theorem dX5_fault_8 : decode cX5_fault 8 = .ok (.ifCond .eq 12, 3) := by decide +kernel
theorem dX5_fault_11 : decode cX5_fault 11 = .ok (.iload_n 2, 1) := by decide +kernel
theorem dX5_fault_12 : decode cX5_fault 12 = .ok (.bipush 30, 2) := by decide +kernel
theorem dX5_fault_14 : decode cX5_fault 14 = .ok (.invokestatic 67, 3) := by decide +kernel
theorem dX5_fault_17 : decode cX5_fault 17 = .ok (.ifCond .ne 5, 3) := by decide +kernel
theorem dX5_fault_20 : decode cX5_fault 20 = .ok (.iconst 0, 1) := by decide +kernel
theorem dX5_fault_21 : decode cX5_fault 21 = .ok (.ireturn, 1) := by decide +kernel
theorem dX5_fault_22 : decode cX5_fault 22 = .ok (.aload_n 0, 1) := by decide +kernel
theorem dX5_fault_23 : decode cX5_fault 23 = .ok (.getfield 21, 3) := by decide +kernel
theorem dX5_fault_26 : decode cX5_fault 26 = .ok (.iload_n 1, 1) := by decide +kernel
theorem dX5_fault_27 : decode cX5_fault 27 = .ok (.iload_n 2, 1) := by decide +kernel
theorem dX5_fault_28 : decode cX5_fault 28 = .ok (.invokevirtual 71, 3) := by decide +kernel
theorem dX5_fault_31 : decode cX5_fault 31 = .ok (.aload_n 0, 1) := by decide +kernel
theorem dX5_fault_32 : decode cX5_fault 32 = .ok (.getfield 39, 3) := by decide +kernel
theorem dX5_fault_35 : decode cX5_fault 35 = .ok (.invokevirtual 58, 3) := by decide +kernel
theorem dX5_fault_38 : decode cX5_fault 38 = .ok (.iconst 1, 1) := by decide +kernel
theorem dX5_fault_39 : decode cX5_fault 39 = .ok (.ireturn, 1) := by decide +kernel
theorem dX5_heal_0 : decode cX5_heal 0 = .ok (.aload_n 0, 1) := by decide +kernel
theorem dX5_heal_1 : decode cX5_heal 1 = .ok (.getfield 21, 3) := by decide +kernel
theorem dX5_heal_4 : decode cX5_heal 4 = .ok (.iload_n 1, 1) := by decide +kernel
theorem dX5_heal_5 : decode cX5_heal 5 = .ok (.invokevirtual 74, 3) := by decide +kernel
theorem dX5_heal_8 : decode cX5_heal 8 = .ok (.ifCond .ne 5, 3) := by decide +kernel
theorem dX5_heal_11 : decode cX5_heal 11 = .ok (.iconst 0, 1) := by decide +kernel
theorem dX5_heal_12 : decode cX5_heal 12 = .ok (.ireturn, 1) := by decide +kernel
theorem dX5_heal_13 : decode cX5_heal 13 = .ok (.aload_n 0, 1) := by decide +kernel
theorem dX5_heal_14 : decode cX5_heal 14 = .ok (.getfield 21, 3) := by decide +kernel
theorem dX5_heal_17 : decode cX5_heal 17 = .ok (.iload_n 1, 1) := by decide +kernel
theorem dX5_heal_18 : decode cX5_heal 18 = .ok (.invokevirtual 77, 3) := by decide +kernel
theorem dX5_heal_21 : decode cX5_heal 21 = .ok (.aload_n 0, 1) := by decide +kernel
theorem dX5_heal_22 : decode cX5_heal 22 = .ok (.getfield 39, 3) := by decide +kernel
theorem dX5_heal_25 : decode cX5_heal 25 = .ok (.invokevirtual 58, 3) := by decide +kernel
theorem dX5_heal_28 : decode cX5_heal 28 = .ok (.iconst 1, 1) := by decide +kernel
theorem dX5_heal_29 : decode cX5_heal 29 = .ok (.ireturn, 1) := by decide +kernel
theorem dX5_ground_0 : decode cX5_ground 0 = .ok (.iload_n 1, 1) := by decide +kernel
theorem dX5_ground_1 : decode cX5_ground 1 = .ok (.ifCond .lt 19, 3) := by decide +kernel
theorem dX5_ground_4 : decode cX5_ground 4 = .ok (.iload_n 1, 1) := by decide +kernel
theorem dX5_ground_5 : decode cX5_ground 5 = .ok (.aload_n 0, 1) := by decide +kernel
theorem dX5_ground_6 : decode cX5_ground 6 = .ok (.getfield 43, 3) := by decide +kernel
theorem dX5_ground_9 : decode cX5_ground 9 = .ok (.arraylength, 1) := by decide +kernel
theorem dX5_ground_10 : decode cX5_ground 10 = .ok (.if_icmp .ge 10, 3) := by decide +kernel
theorem dX5_ground_13 : decode cX5_ground 13 = .ok (.iload_n 2, 1) := by decide +kernel
theorem dX5_ground_14 : decode cX5_ground 14 = .ok (.invokestatic 51, 3) := by decide +kernel
theorem dX5_ground_17 : decode cX5_ground 17 = .ok (.ifCond .ne 5, 3) := by decide +kernel
theorem dX5_ground_20 : decode cX5_ground 20 = .ok (.iconst 0, 1) := by decide +kernel
theorem dX5_ground_21 : decode cX5_ground 21 = .ok (.ireturn, 1) := by decide +kernel
theorem dX5_ground_22 : decode cX5_ground 22 = .ok (.aload_n 0, 1) := by decide +kernel
theorem dX5_ground_23 : decode cX5_ground 23 = .ok (.getfield 43, 3) := by decide +kernel
theorem dX5_ground_26 : decode cX5_ground 26 = .ok (.iload_n 1, 1) := by decide +kernel
theorem dX5_ground_27 : decode cX5_ground 27 = .ok (.iload_n 2, 1) := by decide +kernel
theorem dX5_ground_28 : decode cX5_ground 28 = .ok (.iastore, 1) := by decide +kernel
theorem dX5_ground_29 : decode cX5_ground 29 = .ok (.iconst 1, 1) := by decide +kernel
theorem dX5_ground_30 : decode cX5_ground 30 = .ok (.ireturn, 1) := by decide +kernel
theorem dX5_sight_0 : decode cX5_sight 0 = .ok (.iload_n 1, 1) := by decide +kernel
theorem dX5_sight_1 : decode cX5_sight 1 = .ok (.ifCond .lt 19, 3) := by decide +kernel
theorem dX5_sight_4 : decode cX5_sight 4 = .ok (.iload_n 2, 1) := by decide +kernel
theorem dX5_sight_5 : decode cX5_sight 5 = .ok (.bipush 60, 2) := by decide +kernel
theorem dX5_sight_7 : decode cX5_sight 7 = .ok (.invokestatic 67, 3) := by decide +kernel
theorem dX5_sight_10 : decode cX5_sight 10 = .ok (.ifCond .eq 10, 3) := by decide +kernel
theorem dX5_sight_13 : decode cX5_sight 13 = .ok (.iload_n 3, 1) := by decide +kernel
theorem dX5_sight_14 : decode cX5_sight 14 = .ok (.invokestatic 51, 3) := by decide +kernel
theorem dX5_sight_17 : decode cX5_sight 17 = .ok (.ifCond .ne 5, 3) := by decide +kernel
theorem dX5_sight_20 : decode cX5_sight 20 = .ok (.iconst (-1), 1) := by decide +kernel
theorem dX5_sight_21 : decode cX5_sight 21 = .ok (.ireturn, 1) := by decide +kernel
theorem dX5_sight_22 : decode cX5_sight 22 = .ok (.iload_n 1, 1) := by decide +kernel
theorem dX5_sight_23 : decode cX5_sight 23 = .ok (.bipush 100, 2) := by decide +kernel
theorem dX5_sight_25 : decode cX5_sight 25 = .ok (.idiv, 1) := by decide +kernel
theorem dX5_sight_26 : decode cX5_sight 26 = .ok (.istore 4, 2) := by decide +kernel
theorem dX5_sight_28 : decode cX5_sight 28 = .ok (.iload_n 1, 1) := by decide +kernel
theorem dX5_sight_29 : decode cX5_sight 29 = .ok (.bipush 10, 2) := by decide +kernel
theorem dX5_sight_31 : decode cX5_sight 31 = .ok (.idiv, 1) := by decide +kernel
theorem dX5_sight_32 : decode cX5_sight 32 = .ok (.bipush 10, 2) := by decide +kernel
theorem dX5_sight_34 : decode cX5_sight 34 = .ok (.irem, 1) := by decide +kernel
theorem dX5_sight_35 : decode cX5_sight 35 = .ok (.istore 5, 2) := by decide +kernel
theorem dX5_sight_37 : decode cX5_sight 37 = .ok (.iload_n 1, 1) := by decide +kernel
theorem dX5_sight_38 : decode cX5_sight 38 = .ok (.bipush 10, 2) := by decide +kernel
theorem dX5_sight_40 : decode cX5_sight 40 = .ok (.irem, 1) := by decide +kernel
theorem dX5_sight_41 : decode cX5_sight 41 = .ok (.istore 6, 2) := by decide +kernel
theorem dX5_sight_43 : decode cX5_sight 43 = .ok (.aload_n 0, 1) := by decide +kernel
theorem dX5_sight_44 : decode cX5_sight 44 = .ok (.getfield 21, 3) := by decide +kernel
theorem dX5_sight_47 : decode cX5_sight 47 = .ok (.iload 4, 2) := by decide +kernel
theorem dX5_sight_49 : decode cX5_sight 49 = .ok (.iload 5, 2) := by decide +kernel
theorem dX5_sight_51 : decode cX5_sight 51 = .ok (.invokevirtual 81, 3) := by decide +kernel
theorem dX5_sight_54 : decode cX5_sight 54 = .ok (.ifCond .eq 9, 3) := by decide +kernel
theorem dX5_sight_57 : decode cX5_sight 57 = .ok (.iload 6, 2) := by decide +kernel
theorem dX5_sight_59 : decode cX5_sight 59 = .ok (.iconst 3, 1) := by decide +kernel
theorem dX5_sight_60 : decode cX5_sight 60 = .ok (.if_icmp .le 5, 3) := by decide +kernel
theorem dX5_sight_63 : decode cX5_sight 63 = .ok (.iconst (-1), 1) := by decide +kernel
theorem dX5_sight_64 : decode cX5_sight 64 = .ok (.ireturn, 1) := by decide +kernel
theorem dX5_sight_65 : decode cX5_sight 65 = .ok (.iload 6, 2) := by decide +kernel
theorem dX5_sight_67 : decode cX5_sight 67 = .ok (.iconst 3, 1) := by decide +kernel
theorem dX5_sight_68 : decode cX5_sight 68 = .ok (.if_icmp .ne 17, 3) := by decide +kernel
theorem dX5_sight_71 : decode cX5_sight 71 = .ok (.aload_n 0, 1) := by decide +kernel
theorem dX5_sight_72 : decode cX5_sight 72 = .ok (.getfield 21, 3) := by decide +kernel
theorem dX5_sight_75 : decode cX5_sight 75 = .ok (.iload 5, 2) := by decide +kernel
theorem dX5_sight_77 : decode cX5_sight 77 = .ok (.invokevirtual 64, 3) := by decide +kernel
theorem dX5_sight_80 : decode cX5_sight 80 = .ok (.ifCond .ne 5, 3) := by decide +kernel
theorem dX5_sight_83 : decode cX5_sight 83 = .ok (.iconst (-1), 1) := by decide +kernel
theorem dX5_sight_84 : decode cX5_sight 84 = .ok (.ireturn, 1) := by decide +kernel
theorem dX5_sight_85 : decode cX5_sight 85 = .ok (.aload_n 0, 1) := by decide +kernel
theorem dX5_sight_86 : decode cX5_sight 86 = .ok (.getfield 30, 3) := by decide +kernel
theorem dX5_sight_89 : decode cX5_sight 89 = .ok (.new 84, 3) := by decide +kernel
theorem dX5_sight_92 : decode cX5_sight 92 = .ok (.dup, 1) := by decide +kernel
theorem dX5_sight_93 : decode cX5_sight 93 = .ok (.iload 4, 2) := by decide +kernel
theorem dX5_sight_95 : decode cX5_sight 95 = .ok (.iload 5, 2) := by decide +kernel
theorem dX5_sight_97 : decode cX5_sight 97 = .ok (.iload 6, 2) := by decide +kernel
theorem dX5_sight_99 : decode cX5_sight 99 = .ok (.iload_n 2, 1) := by decide +kernel
theorem dX5_sight_100 : decode cX5_sight 100 = .ok (.iload_n 3, 1) := by decide +kernel
theorem dX5_sight_101 : decode cX5_sight 101 = .ok (.invokespecial 86, 3) := by decide +kernel
theorem dX5_sight_104 : decode cX5_sight 104 = .ok (.invokevirtual 89, 3) := by decide +kernel
theorem dX5_sight_107 : decode cX5_sight 107 = .ok (.istore 7, 2) := by decide +kernel
theorem dX5_sight_109 : decode cX5_sight 109 = .ok (.iload 7, 2) := by decide +kernel
theorem dX5_sight_111 : decode cX5_sight 111 = .ok (.iconst (-1), 1) := by decide +kernel
theorem dX5_sight_112 : decode cX5_sight 112 = .ok (.if_icmp .eq 10, 3) := by decide +kernel
theorem dX5_sight_115 : decode cX5_sight 115 = .ok (.aload_n 0, 1) := by decide +kernel
theorem dX5_sight_116 : decode cX5_sight 116 = .ok (.getfield 39, 3) := by decide +kernel
theorem dX5_sight_119 : decode cX5_sight 119 = .ok (.invokevirtual 93, 3) := by decide +kernel
theorem dX5_sight_122 : decode cX5_sight 122 = .ok (.iload 7, 2) := by decide +kernel
theorem dX5_sight_124 : decode cX5_sight 124 = .ok (.ireturn, 1) := by decide +kernel
theorem dX5_take_0 : decode cX5_take 0 = .ok (.aload_n 0, 1) := by decide +kernel
theorem dX5_take_1 : decode cX5_take 1 = .ok (.getfield 30, 3) := by decide +kernel
theorem dX5_take_4 : decode cX5_take 4 = .ok (.iload_n 1, 1) := by decide +kernel
theorem dX5_take_5 : decode cX5_take 5 = .ok (.invokevirtual 96, 3) := by decide +kernel
theorem dX5_take_8 : decode cX5_take 8 = .ok (.ifCond .ne 5, 3) := by decide +kernel
theorem dX5_take_11 : decode cX5_take 11 = .ok (.iconst 0, 1) := by decide +kernel
theorem dX5_take_12 : decode cX5_take 12 = .ok (.ireturn, 1) := by decide +kernel
theorem dX5_take_13 : decode cX5_take 13 = .ok (.aload_n 0, 1) := by decide +kernel
theorem dX5_take_14 : decode cX5_take 14 = .ok (.getfield 39, 3) := by decide +kernel
theorem dX5_take_17 : decode cX5_take 17 = .ok (.invokevirtual 93, 3) := by decide +kernel
theorem dX5_take_20 : decode cX5_take 20 = .ok (.iconst 1, 1) := by decide +kernel
theorem dX5_take_21 : decode cX5_take 21 = .ok (.ireturn, 1) := by decide +kernel
theorem dX5_quarrel_0 : decode cX5_quarrel 0 = .ok (.aload_n 0, 1) := by decide +kernel
theorem dX5_quarrel_1 : decode cX5_quarrel 1 = .ok (.getfield 39, 3) := by decide +kernel
theorem dX5_quarrel_4 : decode cX5_quarrel 4 = .ok (.invokevirtual 99, 3) := by decide +kernel
theorem dX5_quarrel_7 : decode cX5_quarrel 7 = .ok (.ifCond .eq 13, 3) := by decide +kernel
theorem dX5_quarrel_10 : decode cX5_quarrel 10 = .ok (.aload_n 0, 1) := by decide +kernel
theorem dX5_quarrel_11 : decode cX5_quarrel 11 = .ok (.getfield 39, 3) := by decide +kernel
theorem dX5_quarrel_14 : decode cX5_quarrel 14 = .ok (.invokevirtual 103, 3) := by decide +kernel
theorem dX5_quarrel_17 : decode cX5_quarrel 17 = .ok (.goto 4, 3) := by decide +kernel
theorem dX5_quarrel_20 : decode cX5_quarrel 20 = .ok (.iconst (-1), 1) := by decide +kernel
theorem dX5_quarrel_21 : decode cX5_quarrel 21 = .ok (.ireturn, 1) := by decide +kernel
theorem dX5_span_0 : decode cX5_span 0 = .ok (.aload_n 0, 1) := by decide +kernel
theorem dX5_span_1 : decode cX5_span 1 = .ok (.getfield 21, 3) := by decide +kernel
theorem dX5_span_4 : decode cX5_span 4 = .ok (.iload_n 1, 1) := by decide +kernel
theorem dX5_span_5 : decode cX5_span 5 = .ok (.iload_n 2, 1) := by decide +kernel
theorem dX5_span_6 : decode cX5_span 6 = .ok (.invokevirtual 81, 3) := by decide +kernel
theorem dX5_span_9 : decode cX5_span 9 = .ok (.ifCond .eq 20, 3) := by decide +kernel
theorem dX5_span_12 : decode cX5_span 12 = .ok (.iload_n 3, 1) := by decide +kernel
theorem dX5_span_13 : decode cX5_span 13 = .ok (.invokestatic 107, 3) := by decide +kernel
theorem dX5_span_16 : decode cX5_span 16 = .ok (.ifCond .eq 13, 3) := by decide +kernel
theorem dX5_span_19 : decode cX5_span 19 = .ok (.aload_n 0, 1) := by decide +kernel
theorem dX5_span_20 : decode cX5_span 20 = .ok (.getfield 39, 3) := by decide +kernel
theorem dX5_span_23 : decode cX5_span 23 = .ok (.invokevirtual 99, 3) := by decide +kernel
theorem dX5_span_26 : decode cX5_span 26 = .ok (.ifCond .ne 5, 3) := by decide +kernel
theorem dX5_span_29 : decode cX5_span 29 = .ok (.iconst (-1), 1) := by decide +kernel
theorem dX5_span_30 : decode cX5_span 30 = .ok (.ireturn, 1) := by decide +kernel
theorem dX5_span_31 : decode cX5_span 31 = .ok (.aload_n 0, 1) := by decide +kernel
theorem dX5_span_32 : decode cX5_span 32 = .ok (.aload_n 0, 1) := by decide +kernel
theorem dX5_span_33 : decode cX5_span 33 = .ok (.getfield 21, 3) := by decide +kernel
theorem dX5_span_36 : decode cX5_span 36 = .ok (.iload_n 1, 1) := by decide +kernel
theorem dX5_span_37 : decode cX5_span 37 = .ok (.iload_n 2, 1) := by decide +kernel
theorem dX5_span_38 : decode cX5_span 38 = .ok (.invokevirtual 110, 3) := by decide +kernel
theorem dX5_span_41 : decode cX5_span 41 = .ok (.iload_n 3, 1) := by decide +kernel
theorem dX5_span_42 : decode cX5_span 42 = .ok (.invokevirtual 113, 3) := by decide +kernel
theorem dX5_span_45 : decode cX5_span 45 = .ok (.ireturn, 1) := by decide +kernel
theorem dX5_open_0 : decode cX5_open 0 = .ok (.aload_n 0, 1) := by decide +kernel
theorem dX5_open_1 : decode cX5_open 1 = .ok (.getfield 39, 3) := by decide +kernel
theorem dX5_open_4 : decode cX5_open 4 = .ok (.invokevirtual 99, 3) := by decide +kernel
theorem dX5_open_7 : decode cX5_open 7 = .ok (.ifCond .eq 16, 3) := by decide +kernel
theorem dX5_open_10 : decode cX5_open 10 = .ok (.aload_n 0, 1) := by decide +kernel
theorem dX5_open_11 : decode cX5_open 11 = .ok (.getfield 39, 3) := by decide +kernel
theorem dX5_open_14 : decode cX5_open 14 = .ok (.invokevirtual 116, 3) := by decide +kernel
theorem dX5_open_17 : decode cX5_open 17 = .ok (.invokevirtual 120, 3) := by decide +kernel
theorem dX5_open_20 : decode cX5_open 20 = .ok (.goto 4, 3) := by decide +kernel
theorem dX5_open_23 : decode cX5_open 23 = .ok (.iconst (-1), 1) := by decide +kernel
theorem dX5_open_24 : decode cX5_open 24 = .ok (.ireturn, 1) := by decide +kernel
theorem dX5_layer_0 : decode cX5_layer 0 = .ok (.aload_n 0, 1) := by decide +kernel
theorem dX5_layer_1 : decode cX5_layer 1 = .ok (.getfield 21, 3) := by decide +kernel
theorem dX5_layer_4 : decode cX5_layer 4 = .ok (.iconst 0, 1) := by decide +kernel
theorem dX5_layer_5 : decode cX5_layer 5 = .ok (.iload_n 1, 1) := by decide +kernel
theorem dX5_layer_6 : decode cX5_layer 6 = .ok (.invokevirtual 81, 3) := by decide +kernel
theorem dX5_layer_9 : decode cX5_layer 9 = .ok (.ifCond .eq 20, 3) := by decide +kernel
theorem dX5_layer_12 : decode cX5_layer 12 = .ok (.iload_n 2, 1) := by decide +kernel
theorem dX5_layer_13 : decode cX5_layer 13 = .ok (.invokestatic 51, 3) := by decide +kernel
theorem dX5_layer_16 : decode cX5_layer 16 = .ok (.ifCond .eq 13, 3) := by decide +kernel
theorem dX5_layer_19 : decode cX5_layer 19 = .ok (.aload_n 0, 1) := by decide +kernel
theorem dX5_layer_20 : decode cX5_layer 20 = .ok (.getfield 39, 3) := by decide +kernel
theorem dX5_layer_23 : decode cX5_layer 23 = .ok (.invokevirtual 99, 3) := by decide +kernel
theorem dX5_layer_26 : decode cX5_layer 26 = .ok (.ifCond .ne 5, 3) := by decide +kernel
theorem dX5_layer_29 : decode cX5_layer 29 = .ok (.iconst (-1), 1) := by decide +kernel
theorem dX5_layer_30 : decode cX5_layer 30 = .ok (.ireturn, 1) := by decide +kernel
theorem dX5_layer_31 : decode cX5_layer 31 = .ok (.iconst 0, 1) := by decide +kernel
theorem dX5_layer_32 : decode cX5_layer 32 = .ok (.istore_n 3, 1) := by decide +kernel
theorem dX5_layer_33 : decode cX5_layer 33 = .ok (.iconst 0, 1) := by decide +kernel
theorem dX5_layer_34 : decode cX5_layer 34 = .ok (.istore 4, 2) := by decide +kernel
theorem dX5_layer_36 : decode cX5_layer 36 = .ok (.iconst 0, 1) := by decide +kernel
theorem dX5_layer_37 : decode cX5_layer 37 = .ok (.istore 5, 2) := by decide +kernel
theorem dX5_layer_39 : decode cX5_layer 39 = .ok (.iload 5, 2) := by decide +kernel
theorem dX5_layer_41 : decode cX5_layer 41 = .ok (.aload_n 0, 1) := by decide +kernel
theorem dX5_layer_42 : decode cX5_layer 42 = .ok (.getfield 21, 3) := by decide +kernel
theorem dX5_layer_45 : decode cX5_layer 45 = .ok (.invokevirtual 125, 3) := by decide +kernel
theorem dX5_layer_48 : decode cX5_layer 48 = .ok (.if_icmp .ge 49, 3) := by decide +kernel
theorem dX5_layer_51 : decode cX5_layer 51 = .ok (.aload_n 0, 1) := by decide +kernel
theorem dX5_layer_52 : decode cX5_layer 52 = .ok (.getfield 21, 3) := by decide +kernel
theorem dX5_layer_55 : decode cX5_layer 55 = .ok (.iload 5, 2) := by decide +kernel
theorem dX5_layer_57 : decode cX5_layer 57 = .ok (.iload_n 1, 1) := by decide +kernel
theorem dX5_layer_58 : decode cX5_layer 58 = .ok (.invokevirtual 110, 3) := by decide +kernel
theorem dX5_layer_61 : decode cX5_layer 61 = .ok (.istore 6, 2) := by decide +kernel
theorem dX5_layer_63 : decode cX5_layer 63 = .ok (.aload_n 0, 1) := by decide +kernel
theorem dX5_layer_64 : decode cX5_layer 64 = .ok (.iload 6, 2) := by decide +kernel
theorem dX5_layer_66 : decode cX5_layer 66 = .ok (.iconst 1, 1) := by decide +kernel
theorem dX5_layer_67 : decode cX5_layer 67 = .ok (.invokevirtual 113, 3) := by decide +kernel
theorem dX5_layer_70 : decode cX5_layer 70 = .ok (.iload_n 2, 1) := by decide +kernel
theorem dX5_layer_71 : decode cX5_layer 71 = .ok (.if_icmp .gt 6, 3) := by decide +kernel
theorem dX5_layer_74 : decode cX5_layer 74 = .ok (.iinc 3 1, 3) := by decide +kernel
theorem dX5_layer_77 : decode cX5_layer 77 = .ok (.aload_n 0, 1) := by decide +kernel
theorem dX5_layer_78 : decode cX5_layer 78 = .ok (.iload 6, 2) := by decide +kernel
theorem dX5_layer_80 : decode cX5_layer 80 = .ok (.iconst 0, 1) := by decide +kernel
theorem dX5_layer_81 : decode cX5_layer 81 = .ok (.invokevirtual 113, 3) := by decide +kernel
theorem dX5_layer_84 : decode cX5_layer 84 = .ok (.iload_n 2, 1) := by decide +kernel
theorem dX5_layer_85 : decode cX5_layer 85 = .ok (.if_icmp .gt 6, 3) := by decide +kernel
theorem dX5_layer_88 : decode cX5_layer 88 = .ok (.iinc 4 1, 3) := by decide +kernel
theorem dX5_layer_91 : decode cX5_layer 91 = .ok (.iinc 5 1, 3) := by decide +kernel
theorem dX5_layer_94 : decode cX5_layer 94 = .ok (.goto (-55), 3) := by decide +kernel
theorem dX5_layer_97 : decode cX5_layer 97 = .ok (.iload_n 3, 1) := by decide +kernel
theorem dX5_layer_98 : decode cX5_layer 98 = .ok (.iload 4, 2) := by decide +kernel
theorem dX5_layer_100 : decode cX5_layer 100 = .ok (.if_icmp .ne 7, 3) := by decide +kernel
theorem dX5_layer_103 : decode cX5_layer 103 = .ok (.iload_n 3, 1) := by decide +kernel
theorem dX5_layer_104 : decode cX5_layer 104 = .ok (.goto 4, 3) := by decide +kernel
theorem dX5_layer_107 : decode cX5_layer 107 = .ok (.iconst (-1), 1) := by decide +kernel
theorem dX5_layer_108 : decode cX5_layer 108 = .ok (.ireturn, 1) := by decide +kernel
theorem dX5_between_0 : decode cX5_between 0 = .ok (.aload_n 0, 1) := by decide +kernel
theorem dX5_between_1 : decode cX5_between 1 = .ok (.iload_n 1, 1) := by decide +kernel
theorem dX5_between_2 : decode cX5_between 2 = .ok (.invokevirtual 128, 3) := by decide +kernel
theorem dX5_between_5 : decode cX5_between 5 = .ok (.ifCond .eq 28, 3) := by decide +kernel
theorem dX5_between_8 : decode cX5_between 8 = .ok (.aload_n 0, 1) := by decide +kernel
theorem dX5_between_9 : decode cX5_between 9 = .ok (.iload_n 2, 1) := by decide +kernel
theorem dX5_between_10 : decode cX5_between 10 = .ok (.invokevirtual 128, 3) := by decide +kernel
theorem dX5_between_13 : decode cX5_between 13 = .ok (.ifCond .eq 20, 3) := by decide +kernel
theorem dX5_between_16 : decode cX5_between 16 = .ok (.iload_n 3, 1) := by decide +kernel
theorem dX5_between_17 : decode cX5_between 17 = .ok (.invokestatic 107, 3) := by decide +kernel
theorem dX5_between_20 : decode cX5_between 20 = .ok (.ifCond .eq 13, 3) := by decide +kernel
theorem dX5_between_23 : decode cX5_between 23 = .ok (.aload_n 0, 1) := by decide +kernel
theorem dX5_between_24 : decode cX5_between 24 = .ok (.getfield 39, 3) := by decide +kernel
theorem dX5_between_27 : decode cX5_between 27 = .ok (.invokevirtual 99, 3) := by decide +kernel
theorem dX5_between_30 : decode cX5_between 30 = .ok (.ifCond .ne 6, 3) := by decide +kernel
theorem dX5_between_33 : decode cX5_between 33 = .ok (.ldc 131, 2) := by decide +kernel
theorem dX5_between_35 : decode cX5_between 35 = .ok (.ireturn, 1) := by decide +kernel
theorem dX5_between_36 : decode cX5_between 36 = .ok (.aload_n 0, 1) := by decide +kernel
theorem dX5_between_37 : decode cX5_between 37 = .ok (.getfield 21, 3) := by decide +kernel
theorem dX5_between_40 : decode cX5_between 40 = .ok (.iload_n 1, 1) := by decide +kernel
theorem dX5_between_41 : decode cX5_between 41 = .ok (.bipush 10, 2) := by decide +kernel
theorem dX5_between_43 : decode cX5_between 43 = .ok (.idiv, 1) := by decide +kernel
theorem dX5_between_44 : decode cX5_between 44 = .ok (.iload_n 1, 1) := by decide +kernel
theorem dX5_between_45 : decode cX5_between 45 = .ok (.bipush 10, 2) := by decide +kernel
theorem dX5_between_47 : decode cX5_between 47 = .ok (.irem, 1) := by decide +kernel
theorem dX5_between_48 : decode cX5_between 48 = .ok (.invokevirtual 110, 3) := by decide +kernel
theorem dX5_between_51 : decode cX5_between 51 = .ok (.istore 4, 2) := by decide +kernel
theorem dX5_between_53 : decode cX5_between 53 = .ok (.aload_n 0, 1) := by decide +kernel
theorem dX5_between_54 : decode cX5_between 54 = .ok (.getfield 21, 3) := by decide +kernel
theorem dX5_between_57 : decode cX5_between 57 = .ok (.iload_n 2, 1) := by decide +kernel
theorem dX5_between_58 : decode cX5_between 58 = .ok (.bipush 10, 2) := by decide +kernel
theorem dX5_between_60 : decode cX5_between 60 = .ok (.idiv, 1) := by decide +kernel
theorem dX5_between_61 : decode cX5_between 61 = .ok (.iload_n 2, 1) := by decide +kernel
theorem dX5_between_62 : decode cX5_between 62 = .ok (.bipush 10, 2) := by decide +kernel
theorem dX5_between_64 : decode cX5_between 64 = .ok (.irem, 1) := by decide +kernel
theorem dX5_between_65 : decode cX5_between 65 = .ok (.invokevirtual 110, 3) := by decide +kernel
theorem dX5_between_68 : decode cX5_between 68 = .ok (.istore 5, 2) := by decide +kernel
theorem dX5_between_70 : decode cX5_between 70 = .ok (.aload_n 0, 1) := by decide +kernel
theorem dX5_between_71 : decode cX5_between 71 = .ok (.getfield 39, 3) := by decide +kernel
theorem dX5_between_74 : decode cX5_between 74 = .ok (.invokevirtual 116, 3) := by decide +kernel
theorem dX5_between_77 : decode cX5_between 77 = .ok (.astore 6, 2) := by decide +kernel
theorem dX5_between_79 : decode cX5_between 79 = .ok (.iload_n 3, 1) := by decide +kernel
theorem dX5_between_80 : decode cX5_between 80 = .ok (.ifCond .ne 16, 3) := by decide +kernel
theorem dX5_between_83 : decode cX5_between 83 = .ok (.aload 6, 2) := by decide +kernel
theorem dX5_between_85 : decode cX5_between 85 = .ok (.iload 5, 2) := by decide +kernel
theorem dX5_between_87 : decode cX5_between 87 = .ok (.iload 4, 2) := by decide +kernel
theorem dX5_between_89 : decode cX5_between 89 = .ok (.invokevirtual 132, 3) := by decide +kernel
theorem dX5_between_92 : decode cX5_between 92 = .ok (.ineg, 1) := by decide +kernel
theorem dX5_between_93 : decode cX5_between 93 = .ok (.goto 12, 3) := by decide +kernel
theorem dX5_between_96 : decode cX5_between 96 = .ok (.aload 6, 2) := by decide +kernel
theorem dX5_between_98 : decode cX5_between 98 = .ok (.iload 4, 2) := by decide +kernel
theorem dX5_between_100 : decode cX5_between 100 = .ok (.iload 5, 2) := by decide +kernel
theorem dX5_between_102 : decode cX5_between 102 = .ok (.invokevirtual 132, 3) := by decide +kernel
theorem dX5_between_105 : decode cX5_between 105 = .ok (.ireturn, 1) := by decide +kernel
theorem dX5_worn_0 : decode cX5_worn 0 = .ok (.aload_n 0, 1) := by decide +kernel
theorem dX5_worn_1 : decode cX5_worn 1 = .ok (.getfield 21, 3) := by decide +kernel
theorem dX5_worn_4 : decode cX5_worn 4 = .ok (.iload_n 1, 1) := by decide +kernel
theorem dX5_worn_5 : decode cX5_worn 5 = .ok (.iload_n 2, 1) := by decide +kernel
theorem dX5_worn_6 : decode cX5_worn 6 = .ok (.invokevirtual 81, 3) := by decide +kernel
theorem dX5_worn_9 : decode cX5_worn 9 = .ok (.ifCond .eq 22, 3) := by decide +kernel
theorem dX5_worn_12 : decode cX5_worn 12 = .ok (.aload_n 0, 1) := by decide +kernel
theorem dX5_worn_13 : decode cX5_worn 13 = .ok (.getfield 39, 3) := by decide +kernel
theorem dX5_worn_16 : decode cX5_worn 16 = .ok (.invokevirtual 99, 3) := by decide +kernel
theorem dX5_worn_19 : decode cX5_worn 19 = .ok (.ifCond .eq 12, 3) := by decide +kernel
theorem dX5_worn_22 : decode cX5_worn 22 = .ok (.iload_n 2, 1) := by decide +kernel
theorem dX5_worn_23 : decode cX5_worn 23 = .ok (.aload_n 0, 1) := by decide +kernel
theorem dX5_worn_24 : decode cX5_worn 24 = .ok (.getfield 43, 3) := by decide +kernel
theorem dX5_worn_27 : decode cX5_worn 27 = .ok (.arraylength, 1) := by decide +kernel
theorem dX5_worn_28 : decode cX5_worn 28 = .ok (.if_icmp .lt 5, 3) := by decide +kernel
theorem dX5_worn_31 : decode cX5_worn 31 = .ok (.iconst (-1), 1) := by decide +kernel
theorem dX5_worn_32 : decode cX5_worn 32 = .ok (.ireturn, 1) := by decide +kernel
theorem dX5_worn_33 : decode cX5_worn 33 = .ok (.aload_n 0, 1) := by decide +kernel
theorem dX5_worn_34 : decode cX5_worn 34 = .ok (.getfield 21, 3) := by decide +kernel
theorem dX5_worn_37 : decode cX5_worn 37 = .ok (.iload_n 1, 1) := by decide +kernel
theorem dX5_worn_38 : decode cX5_worn 38 = .ok (.iload_n 2, 1) := by decide +kernel
theorem dX5_worn_39 : decode cX5_worn 39 = .ok (.invokevirtual 110, 3) := by decide +kernel
theorem dX5_worn_42 : decode cX5_worn 42 = .ok (.istore_n 3, 1) := by decide +kernel
theorem dX5_worn_43 : decode cX5_worn 43 = .ok (.aload_n 0, 1) := by decide +kernel
theorem dX5_worn_44 : decode cX5_worn 44 = .ok (.iload_n 3, 1) := by decide +kernel
theorem dX5_worn_45 : decode cX5_worn 45 = .ok (.iconst 1, 1) := by decide +kernel
theorem dX5_worn_46 : decode cX5_worn 46 = .ok (.invokevirtual 113, 3) := by decide +kernel
theorem dX5_worn_49 : decode cX5_worn 49 = .ok (.aload_n 0, 1) := by decide +kernel
theorem dX5_worn_50 : decode cX5_worn 50 = .ok (.getfield 43, 3) := by decide +kernel
theorem dX5_worn_53 : decode cX5_worn 53 = .ok (.iload_n 2, 1) := by decide +kernel
theorem dX5_worn_54 : decode cX5_worn 54 = .ok (.iaload, 1) := by decide +kernel
theorem dX5_worn_55 : decode cX5_worn 55 = .ok (.if_icmp .ge 5, 3) := by decide +kernel
theorem dX5_worn_58 : decode cX5_worn 58 = .ok (.iconst 2, 1) := by decide +kernel
theorem dX5_worn_59 : decode cX5_worn 59 = .ok (.ireturn, 1) := by decide +kernel
theorem dX5_worn_60 : decode cX5_worn 60 = .ok (.aload_n 0, 1) := by decide +kernel
theorem dX5_worn_61 : decode cX5_worn 61 = .ok (.iload_n 3, 1) := by decide +kernel
theorem dX5_worn_62 : decode cX5_worn 62 = .ok (.iconst 0, 1) := by decide +kernel
theorem dX5_worn_63 : decode cX5_worn 63 = .ok (.invokevirtual 113, 3) := by decide +kernel
theorem dX5_worn_66 : decode cX5_worn 66 = .ok (.aload_n 0, 1) := by decide +kernel
theorem dX5_worn_67 : decode cX5_worn 67 = .ok (.getfield 43, 3) := by decide +kernel
theorem dX5_worn_70 : decode cX5_worn 70 = .ok (.iload_n 2, 1) := by decide +kernel
theorem dX5_worn_71 : decode cX5_worn 71 = .ok (.iaload, 1) := by decide +kernel
theorem dX5_worn_72 : decode cX5_worn 72 = .ok (.if_icmp .ge 7, 3) := by decide +kernel
theorem dX5_worn_75 : decode cX5_worn 75 = .ok (.iconst 1, 1) := by decide +kernel
theorem dX5_worn_76 : decode cX5_worn 76 = .ok (.goto 4, 3) := by decide +kernel
theorem dX5_worn_79 : decode cX5_worn 79 = .ok (.iconst 0, 1) := by decide +kernel
theorem dX5_worn_80 : decode cX5_worn 80 = .ok (.ireturn, 1) := by decide +kernel
theorem dX5_tells_0 : decode cX5_tells 0 = .ok (.aload_n 0, 1) := by decide +kernel
theorem dX5_tells_1 : decode cX5_tells 1 = .ok (.getfield 21, 3) := by decide +kernel
theorem dX5_tells_4 : decode cX5_tells 4 = .ok (.iload_n 1, 1) := by decide +kernel
theorem dX5_tells_5 : decode cX5_tells 5 = .ok (.iload_n 2, 1) := by decide +kernel
theorem dX5_tells_6 : decode cX5_tells 6 = .ok (.invokevirtual 81, 3) := by decide +kernel
theorem dX5_tells_9 : decode cX5_tells 9 = .ok (.ifCond .eq 13, 3) := by decide +kernel
theorem dX5_tells_12 : decode cX5_tells 12 = .ok (.aload_n 0, 1) := by decide +kernel
theorem dX5_tells_13 : decode cX5_tells 13 = .ok (.getfield 39, 3) := by decide +kernel
theorem dX5_tells_16 : decode cX5_tells 16 = .ok (.invokevirtual 99, 3) := by decide +kernel
theorem dX5_tells_19 : decode cX5_tells 19 = .ok (.ifCond .ne 5, 3) := by decide +kernel
theorem dX5_tells_22 : decode cX5_tells 22 = .ok (.iconst (-1), 1) := by decide +kernel
theorem dX5_tells_23 : decode cX5_tells 23 = .ok (.ireturn, 1) := by decide +kernel
theorem dX5_tells_24 : decode cX5_tells 24 = .ok (.aload_n 0, 1) := by decide +kernel
theorem dX5_tells_25 : decode cX5_tells 25 = .ok (.aload_n 0, 1) := by decide +kernel
theorem dX5_tells_26 : decode cX5_tells 26 = .ok (.getfield 21, 3) := by decide +kernel
theorem dX5_tells_29 : decode cX5_tells 29 = .ok (.iload_n 1, 1) := by decide +kernel
theorem dX5_tells_30 : decode cX5_tells 30 = .ok (.iload_n 2, 1) := by decide +kernel
theorem dX5_tells_31 : decode cX5_tells 31 = .ok (.invokevirtual 110, 3) := by decide +kernel
theorem dX5_tells_34 : decode cX5_tells 34 = .ok (.invokevirtual 135, 3) := by decide +kernel
theorem dX5_tells_37 : decode cX5_tells 37 = .ok (.ireturn, 1) := by decide +kernel
theorem dX5_next_0 : decode cX5_next 0 = .ok (.aload_n 0, 1) := by decide +kernel
theorem dX5_next_1 : decode cX5_next 1 = .ok (.getfield 39, 3) := by decide +kernel
theorem dX5_next_4 : decode cX5_next 4 = .ok (.invokevirtual 99, 3) := by decide +kernel
theorem dX5_next_7 : decode cX5_next 7 = .ok (.ifCond .ne 5, 3) := by decide +kernel
theorem dX5_next_10 : decode cX5_next 10 = .ok (.iconst (-1), 1) := by decide +kernel
theorem dX5_next_11 : decode cX5_next 11 = .ok (.ireturn, 1) := by decide +kernel
theorem dX5_next_12 : decode cX5_next 12 = .ok (.iconst (-1), 1) := by decide +kernel
theorem dX5_next_13 : decode cX5_next 13 = .ok (.istore_n 1, 1) := by decide +kernel
theorem dX5_next_14 : decode cX5_next 14 = .ok (.iconst (-1), 1) := by decide +kernel
theorem dX5_next_15 : decode cX5_next 15 = .ok (.istore_n 2, 1) := by decide +kernel
theorem dX5_next_16 : decode cX5_next 16 = .ok (.iconst 0, 1) := by decide +kernel
theorem dX5_next_17 : decode cX5_next 17 = .ok (.istore_n 3, 1) := by decide +kernel
theorem dX5_next_18 : decode cX5_next 18 = .ok (.iload_n 3, 1) := by decide +kernel
theorem dX5_next_19 : decode cX5_next 19 = .ok (.aload_n 0, 1) := by decide +kernel
theorem dX5_next_20 : decode cX5_next 20 = .ok (.getfield 21, 3) := by decide +kernel
theorem dX5_next_23 : decode cX5_next 23 = .ok (.invokevirtual 125, 3) := by decide +kernel
theorem dX5_next_26 : decode cX5_next 26 = .ok (.if_icmp .ge 63, 3) := by decide +kernel
theorem dX5_next_29 : decode cX5_next 29 = .ok (.iconst 0, 1) := by decide +kernel
theorem dX5_next_30 : decode cX5_next 30 = .ok (.istore 4, 2) := by decide +kernel
theorem dX5_next_32 : decode cX5_next 32 = .ok (.iload 4, 2) := by decide +kernel
theorem dX5_next_34 : decode cX5_next 34 = .ok (.aload_n 0, 1) := by decide +kernel
theorem dX5_next_35 : decode cX5_next 35 = .ok (.getfield 21, 3) := by decide +kernel
theorem dX5_next_38 : decode cX5_next 38 = .ok (.invokevirtual 139, 3) := by decide +kernel
theorem dX5_next_41 : decode cX5_next 41 = .ok (.if_icmp .ge 42, 3) := by decide +kernel
theorem dX5_next_44 : decode cX5_next 44 = .ok (.aload_n 0, 1) := by decide +kernel
theorem dX5_next_45 : decode cX5_next 45 = .ok (.aload_n 0, 1) := by decide +kernel
theorem dX5_next_46 : decode cX5_next 46 = .ok (.getfield 21, 3) := by decide +kernel
theorem dX5_next_49 : decode cX5_next 49 = .ok (.iload_n 3, 1) := by decide +kernel
theorem dX5_next_50 : decode cX5_next 50 = .ok (.iload 4, 2) := by decide +kernel
theorem dX5_next_52 : decode cX5_next 52 = .ok (.invokevirtual 110, 3) := by decide +kernel
theorem dX5_next_55 : decode cX5_next 55 = .ok (.invokevirtual 135, 3) := by decide +kernel
theorem dX5_next_58 : decode cX5_next 58 = .ok (.istore 5, 2) := by decide +kernel
theorem dX5_next_60 : decode cX5_next 60 = .ok (.iload 5, 2) := by decide +kernel
theorem dX5_next_62 : decode cX5_next 62 = .ok (.iload_n 2, 1) := by decide +kernel
theorem dX5_next_63 : decode cX5_next 63 = .ok (.if_icmp .le 14, 3) := by decide +kernel
theorem dX5_next_66 : decode cX5_next 66 = .ok (.iload 5, 2) := by decide +kernel
theorem dX5_next_68 : decode cX5_next 68 = .ok (.istore_n 2, 1) := by decide +kernel
theorem dX5_next_69 : decode cX5_next 69 = .ok (.iload_n 3, 1) := by decide +kernel
theorem dX5_next_70 : decode cX5_next 70 = .ok (.bipush 10, 2) := by decide +kernel
theorem dX5_next_72 : decode cX5_next 72 = .ok (.imul, 1) := by decide +kernel
theorem dX5_next_73 : decode cX5_next 73 = .ok (.iload 4, 2) := by decide +kernel
theorem dX5_next_75 : decode cX5_next 75 = .ok (.iadd, 1) := by decide +kernel
theorem dX5_next_76 : decode cX5_next 76 = .ok (.istore_n 1, 1) := by decide +kernel
theorem dX5_next_77 : decode cX5_next 77 = .ok (.iinc 4 1, 3) := by decide +kernel
theorem dX5_next_80 : decode cX5_next 80 = .ok (.goto (-48), 3) := by decide +kernel
theorem dX5_next_83 : decode cX5_next 83 = .ok (.iinc 3 1, 3) := by decide +kernel
theorem dX5_next_86 : decode cX5_next 86 = .ok (.goto (-68), 3) := by decide +kernel
theorem dX5_next_89 : decode cX5_next 89 = .ok (.iload_n 1, 1) := by decide +kernel
theorem dX5_next_90 : decode cX5_next 90 = .ok (.ireturn, 1) := by decide +kernel
theorem dX5_bend_0 : decode cX5_bend 0 = .ok (.iload_n 1, 1) := by decide +kernel
theorem dX5_bend_1 : decode cX5_bend 1 = .ok (.invokestatic 107, 3) := by decide +kernel
theorem dX5_bend_4 : decode cX5_bend 4 = .ok (.ifCond .eq 13, 3) := by decide +kernel
theorem dX5_bend_7 : decode cX5_bend 7 = .ok (.aload_n 0, 1) := by decide +kernel
theorem dX5_bend_8 : decode cX5_bend 8 = .ok (.getfield 39, 3) := by decide +kernel
theorem dX5_bend_11 : decode cX5_bend 11 = .ok (.invokevirtual 99, 3) := by decide +kernel
theorem dX5_bend_14 : decode cX5_bend 14 = .ok (.ifCond .ne 5, 3) := by decide +kernel
theorem dX5_bend_17 : decode cX5_bend 17 = .ok (.iconst (-1), 1) := by decide +kernel
theorem dX5_bend_18 : decode cX5_bend 18 = .ok (.ireturn, 1) := by decide +kernel
theorem dX5_bend_19 : decode cX5_bend 19 = .ok (.iconst 0, 1) := by decide +kernel
theorem dX5_bend_20 : decode cX5_bend 20 = .ok (.istore_n 2, 1) := by decide +kernel
theorem dX5_bend_21 : decode cX5_bend 21 = .ok (.iconst 0, 1) := by decide +kernel
theorem dX5_bend_22 : decode cX5_bend 22 = .ok (.istore_n 3, 1) := by decide +kernel
theorem dX5_bend_23 : decode cX5_bend 23 = .ok (.iload_n 3, 1) := by decide +kernel
theorem dX5_bend_24 : decode cX5_bend 24 = .ok (.aload_n 0, 1) := by decide +kernel
theorem dX5_bend_25 : decode cX5_bend 25 = .ok (.getfield 21, 3) := by decide +kernel
theorem dX5_bend_28 : decode cX5_bend 28 = .ok (.invokevirtual 125, 3) := by decide +kernel
theorem dX5_bend_31 : decode cX5_bend 31 = .ok (.if_icmp .ge 103, 3) := by decide +kernel
theorem dX5_bend_34 : decode cX5_bend 34 = .ok (.iconst 1, 1) := by decide +kernel
theorem dX5_bend_35 : decode cX5_bend 35 = .ok (.istore 4, 2) := by decide +kernel
theorem dX5_bend_37 : decode cX5_bend 37 = .ok (.iload 4, 2) := by decide +kernel
theorem dX5_bend_39 : decode cX5_bend 39 = .ok (.iconst 1, 1) := by decide +kernel
theorem dX5_bend_40 : decode cX5_bend 40 = .ok (.iadd, 1) := by decide +kernel
theorem dX5_bend_41 : decode cX5_bend 41 = .ok (.aload_n 0, 1) := by decide +kernel
theorem dX5_bend_42 : decode cX5_bend 42 = .ok (.getfield 21, 3) := by decide +kernel
theorem dX5_bend_45 : decode cX5_bend 45 = .ok (.invokevirtual 139, 3) := by decide +kernel
theorem dX5_bend_48 : decode cX5_bend 48 = .ok (.if_icmp .ge 80, 3) := by decide +kernel
theorem dX5_bend_51 : decode cX5_bend 51 = .ok (.aload_n 0, 1) := by decide +kernel
theorem dX5_bend_52 : decode cX5_bend 52 = .ok (.aload_n 0, 1) := by decide +kernel
theorem dX5_bend_53 : decode cX5_bend 53 = .ok (.getfield 21, 3) := by decide +kernel
theorem dX5_bend_56 : decode cX5_bend 56 = .ok (.iload_n 3, 1) := by decide +kernel
theorem dX5_bend_57 : decode cX5_bend 57 = .ok (.iload 4, 2) := by decide +kernel
theorem dX5_bend_59 : decode cX5_bend 59 = .ok (.invokevirtual 110, 3) := by decide +kernel
theorem dX5_bend_62 : decode cX5_bend 62 = .ok (.iload_n 1, 1) := by decide +kernel
theorem dX5_bend_63 : decode cX5_bend 63 = .ok (.invokevirtual 113, 3) := by decide +kernel
theorem dX5_bend_66 : decode cX5_bend 66 = .ok (.istore 5, 2) := by decide +kernel
theorem dX5_bend_68 : decode cX5_bend 68 = .ok (.aload_n 0, 1) := by decide +kernel
theorem dX5_bend_69 : decode cX5_bend 69 = .ok (.aload_n 0, 1) := by decide +kernel
theorem dX5_bend_70 : decode cX5_bend 70 = .ok (.getfield 21, 3) := by decide +kernel
theorem dX5_bend_73 : decode cX5_bend 73 = .ok (.iload_n 3, 1) := by decide +kernel
theorem dX5_bend_74 : decode cX5_bend 74 = .ok (.iload 4, 2) := by decide +kernel
theorem dX5_bend_76 : decode cX5_bend 76 = .ok (.iconst 1, 1) := by decide +kernel
theorem dX5_bend_77 : decode cX5_bend 77 = .ok (.isub, 1) := by decide +kernel
theorem dX5_bend_78 : decode cX5_bend 78 = .ok (.invokevirtual 110, 3) := by decide +kernel
theorem dX5_bend_81 : decode cX5_bend 81 = .ok (.iload_n 1, 1) := by decide +kernel
theorem dX5_bend_82 : decode cX5_bend 82 = .ok (.invokevirtual 113, 3) := by decide +kernel
theorem dX5_bend_85 : decode cX5_bend 85 = .ok (.istore 6, 2) := by decide +kernel
theorem dX5_bend_87 : decode cX5_bend 87 = .ok (.aload_n 0, 1) := by decide +kernel
theorem dX5_bend_88 : decode cX5_bend 88 = .ok (.aload_n 0, 1) := by decide +kernel
theorem dX5_bend_89 : decode cX5_bend 89 = .ok (.getfield 21, 3) := by decide +kernel
theorem dX5_bend_92 : decode cX5_bend 92 = .ok (.iload_n 3, 1) := by decide +kernel
theorem dX5_bend_93 : decode cX5_bend 93 = .ok (.iload 4, 2) := by decide +kernel
theorem dX5_bend_95 : decode cX5_bend 95 = .ok (.iconst 1, 1) := by decide +kernel
theorem dX5_bend_96 : decode cX5_bend 96 = .ok (.iadd, 1) := by decide +kernel
theorem dX5_bend_97 : decode cX5_bend 97 = .ok (.invokevirtual 110, 3) := by decide +kernel
theorem dX5_bend_100 : decode cX5_bend 100 = .ok (.iload_n 1, 1) := by decide +kernel
theorem dX5_bend_101 : decode cX5_bend 101 = .ok (.invokevirtual 113, 3) := by decide +kernel
theorem dX5_bend_104 : decode cX5_bend 104 = .ok (.istore 7, 2) := by decide +kernel
theorem dX5_bend_106 : decode cX5_bend 106 = .ok (.iload_n 2, 1) := by decide +kernel
theorem dX5_bend_107 : decode cX5_bend 107 = .ok (.iconst 2, 1) := by decide +kernel
theorem dX5_bend_108 : decode cX5_bend 108 = .ok (.iload 5, 2) := by decide +kernel
theorem dX5_bend_110 : decode cX5_bend 110 = .ok (.imul, 1) := by decide +kernel
theorem dX5_bend_111 : decode cX5_bend 111 = .ok (.iload 6, 2) := by decide +kernel
theorem dX5_bend_113 : decode cX5_bend 113 = .ok (.isub, 1) := by decide +kernel
theorem dX5_bend_114 : decode cX5_bend 114 = .ok (.iload 7, 2) := by decide +kernel
theorem dX5_bend_116 : decode cX5_bend 116 = .ok (.isub, 1) := by decide +kernel
theorem dX5_bend_117 : decode cX5_bend 117 = .ok (.invokestatic 142, 3) := by decide +kernel
theorem dX5_bend_120 : decode cX5_bend 120 = .ok (.iadd, 1) := by decide +kernel
theorem dX5_bend_121 : decode cX5_bend 121 = .ok (.istore_n 2, 1) := by decide +kernel
theorem dX5_bend_122 : decode cX5_bend 122 = .ok (.iinc 4 1, 3) := by decide +kernel
theorem dX5_bend_125 : decode cX5_bend 125 = .ok (.goto (-88), 3) := by decide +kernel
theorem dX5_bend_128 : decode cX5_bend 128 = .ok (.iinc 3 1, 3) := by decide +kernel
theorem dX5_bend_131 : decode cX5_bend 131 = .ok (.goto (-108), 3) := by decide +kernel
theorem dX5_bend_134 : decode cX5_bend 134 = .ok (.iload_n 2, 1) := by decide +kernel
theorem dX5_bend_135 : decode cX5_bend 135 = .ok (.ireturn, 1) := by decide +kernel
theorem dX5_told_0 : decode cX5_told 0 = .ok (.aload_n 0, 1) := by decide +kernel
theorem dX5_told_1 : decode cX5_told 1 = .ok (.getfield 30, 3) := by decide +kernel
theorem dX5_told_4 : decode cX5_told 4 = .ok (.iload_n 1, 1) := by decide +kernel
theorem dX5_told_5 : decode cX5_told 5 = .ok (.invokevirtual 145, 3) := by decide +kernel
theorem dX5_told_8 : decode cX5_told 8 = .ok (.astore_n 3, 1) := by decide +kernel
theorem dX5_told_9 : decode cX5_told 9 = .ok (.aload_n 3, 1) := by decide +kernel
theorem dX5_told_10 : decode cX5_told 10 = .ok (.ifnonnull 6, 3) := by decide +kernel
theorem dX5_told_13 : decode cX5_told 13 = .ok (.ldc 131, 2) := by decide +kernel
theorem dX5_told_15 : decode cX5_told 15 = .ok (.ireturn, 1) := by decide +kernel
theorem dX5_told_16 : decode cX5_told 16 = .ok (.iload_n 2, 1) := by decide +kernel
theorem dX5_told_17 : decode cX5_told 17 = .ok (.tableswitch 91 0 5 #[39, 44, 49, 54, 59, 64], 39) := by decide +kernel
theorem dX5_told_56 : decode cX5_told 56 = .ok (.aload_n 3, 1) := by decide +kernel
theorem dX5_told_57 : decode cX5_told 57 = .ok (.invokevirtual 149, 3) := by decide +kernel
theorem dX5_told_60 : decode cX5_told 60 = .ok (.ireturn, 1) := by decide +kernel
theorem dX5_told_61 : decode cX5_told 61 = .ok (.aload_n 3, 1) := by decide +kernel
theorem dX5_told_62 : decode cX5_told 62 = .ok (.invokevirtual 152, 3) := by decide +kernel
theorem dX5_told_65 : decode cX5_told 65 = .ok (.ireturn, 1) := by decide +kernel
theorem dX5_told_66 : decode cX5_told 66 = .ok (.aload_n 3, 1) := by decide +kernel
theorem dX5_told_67 : decode cX5_told 67 = .ok (.invokevirtual 155, 3) := by decide +kernel
theorem dX5_told_70 : decode cX5_told 70 = .ok (.ireturn, 1) := by decide +kernel
theorem dX5_told_71 : decode cX5_told 71 = .ok (.aload_n 3, 1) := by decide +kernel
theorem dX5_told_72 : decode cX5_told 72 = .ok (.invokevirtual 158, 3) := by decide +kernel
theorem dX5_told_75 : decode cX5_told 75 = .ok (.ireturn, 1) := by decide +kernel
theorem dX5_told_76 : decode cX5_told 76 = .ok (.aload_n 3, 1) := by decide +kernel
theorem dX5_told_77 : decode cX5_told 77 = .ok (.invokevirtual 161, 3) := by decide +kernel
theorem dX5_told_80 : decode cX5_told 80 = .ok (.ireturn, 1) := by decide +kernel
theorem dX5_told_81 : decode cX5_told 81 = .ok (.aload_n 0, 1) := by decide +kernel
theorem dX5_told_82 : decode cX5_told 82 = .ok (.getfield 39, 3) := by decide +kernel
theorem dX5_told_85 : decode cX5_told 85 = .ok (.invokevirtual 99, 3) := by decide +kernel
theorem dX5_told_88 : decode cX5_told 88 = .ok (.ifCond .eq 17, 3) := by decide +kernel
theorem dX5_told_91 : decode cX5_told 91 = .ok (.aload_n 0, 1) := by decide +kernel
theorem dX5_told_92 : decode cX5_told 92 = .ok (.getfield 39, 3) := by decide +kernel
theorem dX5_told_95 : decode cX5_told 95 = .ok (.invokevirtual 103, 3) := by decide +kernel
theorem dX5_told_98 : decode cX5_told 98 = .ok (.iload_n 1, 1) := by decide +kernel
theorem dX5_told_99 : decode cX5_told 99 = .ok (.ishr, 1) := by decide +kernel
theorem dX5_told_100 : decode cX5_told 100 = .ok (.iconst 1, 1) := by decide +kernel
theorem dX5_told_101 : decode cX5_told 101 = .ok (.iand, 1) := by decide +kernel
theorem dX5_told_102 : decode cX5_told 102 = .ok (.goto 5, 3) := by decide +kernel
theorem dX5_told_105 : decode cX5_told 105 = .ok (.ldc 131, 2) := by decide +kernel
theorem dX5_told_107 : decode cX5_told 107 = .ok (.ireturn, 1) := by decide +kernel
theorem dX5_told_108 : decode cX5_told 108 = .ok (.ldc 131, 2) := by decide +kernel
theorem dX5_told_110 : decode cX5_told 110 = .ok (.ireturn, 1) := by decide +kernel
theorem dX5_count_0 : decode cX5_count 0 = .ok (.iload_n 1, 1) := by decide +kernel
theorem dX5_count_1 : decode cX5_count 1 = .ok (.tableswitch 66 0 3 #[31, 39, 47, 58], 31) := by decide +kernel
theorem dX5_count_32 : decode cX5_count 32 = .ok (.aload_n 0, 1) := by decide +kernel
theorem dX5_count_33 : decode cX5_count 33 = .ok (.getfield 21, 3) := by decide +kernel
theorem dX5_count_36 : decode cX5_count 36 = .ok (.invokevirtual 139, 3) := by decide +kernel
theorem dX5_count_39 : decode cX5_count 39 = .ok (.ireturn, 1) := by decide +kernel
theorem dX5_count_40 : decode cX5_count 40 = .ok (.aload_n 0, 1) := by decide +kernel
theorem dX5_count_41 : decode cX5_count 41 = .ok (.getfield 21, 3) := by decide +kernel
theorem dX5_count_44 : decode cX5_count 44 = .ok (.invokevirtual 125, 3) := by decide +kernel
theorem dX5_count_47 : decode cX5_count 47 = .ok (.ireturn, 1) := by decide +kernel
theorem dX5_count_48 : decode cX5_count 48 = .ok (.aload_n 0, 1) := by decide +kernel
theorem dX5_count_49 : decode cX5_count 49 = .ok (.getfield 30, 3) := by decide +kernel
theorem dX5_count_52 : decode cX5_count 52 = .ok (.invokevirtual 164, 3) := by decide +kernel
theorem dX5_count_55 : decode cX5_count 55 = .ok (.invokestatic 167, 3) := by decide +kernel
theorem dX5_count_58 : decode cX5_count 58 = .ok (.ireturn, 1) := by decide +kernel
theorem dX5_count_59 : decode cX5_count 59 = .ok (.aload_n 0, 1) := by decide +kernel
theorem dX5_count_60 : decode cX5_count 60 = .ok (.getfield 21, 3) := by decide +kernel
theorem dX5_count_63 : decode cX5_count 63 = .ok (.invokevirtual 172, 3) := by decide +kernel
theorem dX5_count_66 : decode cX5_count 66 = .ok (.ireturn, 1) := by decide +kernel
theorem dX5_count_67 : decode cX5_count 67 = .ok (.iconst (-1), 1) := by decide +kernel
theorem dX5_count_68 : decode cX5_count 68 = .ok (.ireturn, 1) := by decide +kernel
theorem dX5_isDepth_0 : decode cX5_isDepth 0 = .ok (.iload_n 0, 1) := by decide +kernel
theorem dX5_isDepth_1 : decode cX5_isDepth 1 = .ok (.ifCond .lt 13, 3) := by decide +kernel
theorem dX5_isDepth_4 : decode cX5_isDepth 4 = .ok (.iload_n 0, 1) := by decide +kernel
theorem dX5_isDepth_5 : decode cX5_isDepth 5 = .ok (.bipush 60, 2) := by decide +kernel
theorem dX5_isDepth_7 : decode cX5_isDepth 7 = .ok (.if_icmp .gt 7, 3) := by decide +kernel
theorem dX5_isDepth_10 : decode cX5_isDepth 10 = .ok (.iconst 1, 1) := by decide +kernel
theorem dX5_isDepth_11 : decode cX5_isDepth 11 = .ok (.goto 4, 3) := by decide +kernel
end
section
theorem dX5_isDepth_14 : decode cX5_isDepth 14 = .ok (.iconst 0, 1) := by decide +kernel
theorem dX5_isDepth_15 : decode cX5_isDepth 15 = .ok (.ireturn, 1) := by decide +kernel
theorem dX5_isWithin_0 : decode cX5_isWithin 0 = .ok (.iload_n 0, 1) := by decide +kernel
theorem dX5_isWithin_1 : decode cX5_isWithin 1 = .ok (.iload_n 1, 1) := by decide +kernel
theorem dX5_isWithin_2 : decode cX5_isWithin 2 = .ok (.ineg, 1) := by decide +kernel
theorem dX5_isWithin_3 : decode cX5_isWithin 3 = .ok (.if_icmp .lt 12, 3) := by decide +kernel
theorem dX5_isWithin_6 : decode cX5_isWithin 6 = .ok (.iload_n 0, 1) := by decide +kernel
theorem dX5_isWithin_7 : decode cX5_isWithin 7 = .ok (.iload_n 1, 1) := by decide +kernel
theorem dX5_isWithin_8 : decode cX5_isWithin 8 = .ok (.if_icmp .gt 7, 3) := by decide +kernel
theorem dX5_isWithin_11 : decode cX5_isWithin 11 = .ok (.iconst 1, 1) := by decide +kernel
theorem dX5_isWithin_12 : decode cX5_isWithin 12 = .ok (.goto 4, 3) := by decide +kernel
theorem dX5_isWithin_15 : decode cX5_isWithin 15 = .ok (.iconst 0, 1) := by decide +kernel
theorem dX5_isWithin_16 : decode cX5_isWithin 16 = .ok (.ireturn, 1) := by decide +kernel
theorem dX5_isEnd_0 : decode cX5_isEnd 0 = .ok (.iload_n 0, 1) := by decide +kernel
theorem dX5_isEnd_1 : decode cX5_isEnd 1 = .ok (.ifCond .eq 8, 3) := by decide +kernel
theorem dX5_isEnd_4 : decode cX5_isEnd 4 = .ok (.iload_n 0, 1) := by decide +kernel
theorem dX5_isEnd_5 : decode cX5_isEnd 5 = .ok (.iconst 1, 1) := by decide +kernel
theorem dX5_isEnd_6 : decode cX5_isEnd 6 = .ok (.if_icmp .ne 7, 3) := by decide +kernel
theorem dX5_isEnd_9 : decode cX5_isEnd 9 = .ok (.iconst 1, 1) := by decide +kernel
theorem dX5_isEnd_10 : decode cX5_isEnd 10 = .ok (.goto 4, 3) := by decide +kernel
theorem dX5_isEnd_13 : decode cX5_isEnd 13 = .ok (.iconst 0, 1) := by decide +kernel
theorem dX5_isEnd_14 : decode cX5_isEnd 14 = .ok (.ireturn, 1) := by decide +kernel
theorem dX5_isPlaceCode_0 : decode cX5_isPlaceCode 0 = .ok (.iload_n 1, 1) := by decide +kernel
theorem dX5_isPlaceCode_1 : decode cX5_isPlaceCode 1 = .ok (.ifCond .lt 25, 3) := by decide +kernel
theorem dX5_isPlaceCode_4 : decode cX5_isPlaceCode 4 = .ok (.aload_n 0, 1) := by decide +kernel
theorem dX5_isPlaceCode_5 : decode cX5_isPlaceCode 5 = .ok (.getfield 21, 3) := by decide +kernel
theorem dX5_isPlaceCode_8 : decode cX5_isPlaceCode 8 = .ok (.iload_n 1, 1) := by decide +kernel
theorem dX5_isPlaceCode_9 : decode cX5_isPlaceCode 9 = .ok (.bipush 10, 2) := by decide +kernel
theorem dX5_isPlaceCode_11 : decode cX5_isPlaceCode 11 = .ok (.idiv, 1) := by decide +kernel
theorem dX5_isPlaceCode_12 : decode cX5_isPlaceCode 12 = .ok (.iload_n 1, 1) := by decide +kernel
theorem dX5_isPlaceCode_13 : decode cX5_isPlaceCode 13 = .ok (.bipush 10, 2) := by decide +kernel
theorem dX5_isPlaceCode_15 : decode cX5_isPlaceCode 15 = .ok (.irem, 1) := by decide +kernel
theorem dX5_isPlaceCode_16 : decode cX5_isPlaceCode 16 = .ok (.invokevirtual 81, 3) := by decide +kernel
theorem dX5_isPlaceCode_19 : decode cX5_isPlaceCode 19 = .ok (.ifCond .eq 7, 3) := by decide +kernel
theorem dX5_isPlaceCode_22 : decode cX5_isPlaceCode 22 = .ok (.iconst 1, 1) := by decide +kernel
theorem dX5_isPlaceCode_23 : decode cX5_isPlaceCode 23 = .ok (.goto 4, 3) := by decide +kernel
theorem dX5_isPlaceCode_26 : decode cX5_isPlaceCode 26 = .ok (.iconst 0, 1) := by decide +kernel
theorem dX5_isPlaceCode_27 : decode cX5_isPlaceCode 27 = .ok (.ireturn, 1) := by decide +kernel
theorem dX5_end_0 : decode cX5_end 0 = .ok (.aload_n 0, 1) := by decide +kernel
theorem dX5_end_1 : decode cX5_end 1 = .ok (.getfield 39, 3) := by decide +kernel
theorem dX5_end_4 : decode cX5_end 4 = .ok (.invokevirtual 116, 3) := by decide +kernel
theorem dX5_end_7 : decode cX5_end 7 = .ok (.astore_n 3, 1) := by decide +kernel
theorem dX5_end_8 : decode cX5_end 8 = .ok (.iload_n 2, 1) := by decide +kernel
theorem dX5_end_9 : decode cX5_end 9 = .ok (.ifCond .ne 11, 3) := by decide +kernel
theorem dX5_end_12 : decode cX5_end 12 = .ok (.aload_n 3, 1) := by decide +kernel
theorem dX5_end_13 : decode cX5_end 13 = .ok (.iload_n 1, 1) := by decide +kernel
theorem dX5_end_14 : decode cX5_end 14 = .ok (.invokevirtual 175, 3) := by decide +kernel
theorem dX5_end_17 : decode cX5_end 17 = .ok (.goto 8, 3) := by decide +kernel
theorem dX5_end_20 : decode cX5_end 20 = .ok (.aload_n 3, 1) := by decide +kernel
theorem dX5_end_21 : decode cX5_end 21 = .ok (.iload_n 1, 1) := by decide +kernel
theorem dX5_end_22 : decode cX5_end 22 = .ok (.invokevirtual 178, 3) := by decide +kernel
theorem dX5_end_25 : decode cX5_end 25 = .ok (.ireturn, 1) := by decide +kernel
theorem dX5_gain_0 : decode cX5_gain 0 = .ok (.aload_n 0, 1) := by decide +kernel
theorem dX5_gain_1 : decode cX5_gain 1 = .ok (.getfield 39, 3) := by decide +kernel
theorem dX5_gain_4 : decode cX5_gain 4 = .ok (.invokevirtual 116, 3) := by decide +kernel
theorem dX5_gain_7 : decode cX5_gain 7 = .ok (.astore_n 2, 1) := by decide +kernel
theorem dX5_gain_8 : decode cX5_gain 8 = .ok (.iconst 0, 1) := by decide +kernel
theorem dX5_gain_9 : decode cX5_gain 9 = .ok (.istore_n 3, 1) := by decide +kernel
theorem dX5_gain_10 : decode cX5_gain 10 = .ok (.aload_n 2, 1) := by decide +kernel
theorem dX5_gain_11 : decode cX5_gain 11 = .ok (.iload_n 1, 1) := by decide +kernel
theorem dX5_gain_12 : decode cX5_gain 12 = .ok (.invokevirtual 175, 3) := by decide +kernel
theorem dX5_gain_15 : decode cX5_gain 15 = .ok (.istore 4, 2) := by decide +kernel
theorem dX5_gain_17 : decode cX5_gain 17 = .ok (.iload 4, 2) := by decide +kernel
theorem dX5_gain_19 : decode cX5_gain 19 = .ok (.aload_n 2, 1) := by decide +kernel
theorem dX5_gain_20 : decode cX5_gain 20 = .ok (.iload_n 1, 1) := by decide +kernel
theorem dX5_gain_21 : decode cX5_gain 21 = .ok (.invokevirtual 178, 3) := by decide +kernel
theorem dX5_gain_24 : decode cX5_gain 24 = .ok (.if_icmp .gt 21, 3) := by decide +kernel
theorem dX5_gain_27 : decode cX5_gain 27 = .ok (.iload_n 3, 1) := by decide +kernel
theorem dX5_gain_28 : decode cX5_gain 28 = .ok (.aload_n 2, 1) := by decide +kernel
theorem dX5_gain_29 : decode cX5_gain 29 = .ok (.iload_n 1, 1) := by decide +kernel
theorem dX5_gain_30 : decode cX5_gain 30 = .ok (.iload 4, 2) := by decide +kernel
theorem dX5_gain_32 : decode cX5_gain 32 = .ok (.invokevirtual 181, 3) := by decide +kernel
theorem dX5_gain_35 : decode cX5_gain 35 = .ok (.invokestatic 13, 3) := by decide +kernel
theorem dX5_gain_38 : decode cX5_gain 38 = .ok (.istore_n 3, 1) := by decide +kernel
theorem dX5_gain_39 : decode cX5_gain 39 = .ok (.iinc 4 1, 3) := by decide +kernel
theorem dX5_gain_42 : decode cX5_gain 42 = .ok (.goto (-25), 3) := by decide +kernel
theorem dX5_gain_45 : decode cX5_gain 45 = .ok (.aload_n 2, 1) := by decide +kernel
theorem dX5_gain_46 : decode cX5_gain 46 = .ok (.invokevirtual 120, 3) := by decide +kernel
theorem dX5_gain_49 : decode cX5_gain 49 = .ok (.iload_n 3, 1) := by decide +kernel
theorem dX5_gain_50 : decode cX5_gain 50 = .ok (.isub, 1) := by decide +kernel
theorem dX5_gain_51 : decode cX5_gain 51 = .ok (.ireturn, 1) := by decide +kernel
theorem dX6_init_0 : decode cX6_init 0 = .ok (.aload_n 0, 1) := by decide +kernel
theorem dX6_init_1 : decode cX6_init 1 = .ok (.invokespecial 3, 3) := by decide +kernel
theorem dX6_init_4 : decode cX6_init 4 = .ok (.aload_n 0, 1) := by decide +kernel
theorem dX6_init_5 : decode cX6_init 5 = .ok (.iconst 4, 1) := by decide +kernel
theorem dX6_init_6 : decode cX6_init 6 = .ok (.newarray .int, 2) := by decide +kernel
theorem dX6_init_8 : decode cX6_init 8 = .ok (.putfield 9, 3) := by decide +kernel
theorem dX6_init_11 : decode cX6_init 11 = .ok (.aload_n 0, 1) := by decide +kernel
theorem dX6_init_12 : decode cX6_init 12 = .ok (.iconst 4, 1) := by decide +kernel
theorem dX6_init_13 : decode cX6_init 13 = .ok (.newarray .int, 2) := by decide +kernel
theorem dX6_init_15 : decode cX6_init 15 = .ok (.putfield 13, 3) := by decide +kernel
theorem dX6_init_18 : decode cX6_init 18 = .ok (.aload_n 0, 1) := by decide +kernel
theorem dX6_init_19 : decode cX6_init 19 = .ok (.iconst 4, 1) := by decide +kernel
theorem dX6_init_20 : decode cX6_init 20 = .ok (.newarray .int, 2) := by decide +kernel
theorem dX6_init_22 : decode cX6_init 22 = .ok (.putfield 16, 3) := by decide +kernel
theorem dX6_init_25 : decode cX6_init 25 = .ok (.aload_n 0, 1) := by decide +kernel
theorem dX6_init_26 : decode cX6_init 26 = .ok (.bipush 8, 2) := by decide +kernel
theorem dX6_init_28 : decode cX6_init 28 = .ok (.newarray .boolean, 2) := by decide +kernel
theorem dX6_init_30 : decode cX6_init 30 = .ok (.putfield 19, 3) := by decide +kernel
theorem dX6_init_33 : decode cX6_init 33 = .ok (.aload_n 0, 1) := by decide +kernel
theorem dX6_init_34 : decode cX6_init 34 = .ok (.bipush 8, 2) := by decide +kernel
theorem dX6_init_36 : decode cX6_init 36 = .ok (.newarray .int, 2) := by decide +kernel
theorem dX6_init_38 : decode cX6_init 38 = .ok (.putfield 23, 3) := by decide +kernel
theorem dX6_init_41 : decode cX6_init 41 = .ok (.aload_n 0, 1) := by decide +kernel
theorem dX6_init_42 : decode cX6_init 42 = .ok (.bipush 8, 2) := by decide +kernel
theorem dX6_init_44 : decode cX6_init 44 = .ok (.newarray .int, 2) := by decide +kernel
theorem dX6_init_46 : decode cX6_init 46 = .ok (.putfield 26, 3) := by decide +kernel
theorem dX6_init_49 : decode cX6_init 49 = .ok (.aload_n 0, 1) := by decide +kernel
theorem dX6_init_50 : decode cX6_init 50 = .ok (.bipush 10, 2) := by decide +kernel
theorem dX6_init_52 : decode cX6_init 52 = .ok (.newarray .int, 2) := by decide +kernel
theorem dX6_init_54 : decode cX6_init 54 = .ok (.putfield 29, 3) := by decide +kernel
theorem dX6_init_57 : decode cX6_init 57 = .ok (.aload_n 0, 1) := by decide +kernel
theorem dX6_init_58 : decode cX6_init 58 = .ok (.bipush 10, 2) := by decide +kernel
theorem dX6_init_60 : decode cX6_init 60 = .ok (.newarray .int, 2) := by decide +kernel
theorem dX6_init_62 : decode cX6_init 62 = .ok (.putfield 32, 3) := by decide +kernel
theorem dX6_init_65 : decode cX6_init 65 = .ok (.aload_n 0, 1) := by decide +kernel
theorem dX6_init_66 : decode cX6_init 66 = .ok (.bipush 10, 2) := by decide +kernel
theorem dX6_init_68 : decode cX6_init 68 = .ok (.newarray .int, 2) := by decide +kernel
theorem dX6_init_70 : decode cX6_init 70 = .ok (.putfield 35, 3) := by decide +kernel
theorem dX6_init_73 : decode cX6_init 73 = .ok (.aload_n 0, 1) := by decide +kernel
theorem dX6_init_74 : decode cX6_init 74 = .ok (.bipush 10, 2) := by decide +kernel
theorem dX6_init_76 : decode cX6_init 76 = .ok (.newarray .boolean, 2) := by decide +kernel
theorem dX6_init_78 : decode cX6_init 78 = .ok (.putfield 38, 3) := by decide +kernel
theorem dX6_init_81 : decode cX6_init 81 = .ok (.aload_n 0, 1) := by decide +kernel
theorem dX6_init_82 : decode cX6_init 82 = .ok (.sipush 1089, 3) := by decide +kernel
theorem dX6_init_85 : decode cX6_init 85 = .ok (.newarray .int, 2) := by decide +kernel
theorem dX6_init_87 : decode cX6_init 87 = .ok (.putfield 41, 3) := by decide +kernel
theorem dX6_init_90 : decode cX6_init 90 = .ok (.aload_n 0, 1) := by decide +kernel
theorem dX6_init_91 : decode cX6_init 91 = .ok (.sipush 1089, 3) := by decide +kernel
theorem dX6_init_94 : decode cX6_init 94 = .ok (.newarray .int, 2) := by decide +kernel
theorem dX6_init_96 : decode cX6_init 96 = .ok (.putfield 44, 3) := by decide +kernel
theorem dX6_init_99 : decode cX6_init 99 = .ok (.aload_n 0, 1) := by decide +kernel
theorem dX6_init_100 : decode cX6_init 100 = .ok (.bipush 10, 2) := by decide +kernel
theorem dX6_init_102 : decode cX6_init 102 = .ok (.newarray .int, 2) := by decide +kernel
theorem dX6_init_104 : decode cX6_init 104 = .ok (.putfield 47, 3) := by decide +kernel
theorem dX6_init_107 : decode cX6_init 107 = .ok (.aload_n 0, 1) := by decide +kernel
theorem dX6_init_108 : decode cX6_init 108 = .ok (.iload_n 1, 1) := by decide +kernel
theorem dX6_init_109 : decode cX6_init 109 = .ok (.iconst 2, 1) := by decide +kernel
theorem dX6_init_110 : decode cX6_init 110 = .ok (.if_icmp .ge 7, 3) := by decide +kernel
theorem dX6_init_113 : decode cX6_init 113 = .ok (.iconst 2, 1) := by decide +kernel
theorem dX6_init_114 : decode cX6_init 114 = .ok (.goto 15, 3) := by decide +kernel
theorem dX6_init_117 : decode cX6_init 117 = .ok (.iload_n 1, 1) := by decide +kernel
theorem dX6_init_118 : decode cX6_init 118 = .ok (.bipush 8, 2) := by decide +kernel
theorem dX6_init_120 : decode cX6_init 120 = .ok (.if_icmp .le 8, 3) := by decide +kernel
theorem dX6_init_123 : decode cX6_init 123 = .ok (.bipush 8, 2) := by decide +kernel
theorem dX6_init_125 : decode cX6_init 125 = .ok (.goto 4, 3) := by decide +kernel
theorem dX6_init_128 : decode cX6_init 128 = .ok (.iload_n 1, 1) := by decide +kernel
theorem dX6_init_129 : decode cX6_init 129 = .ok (.putfield 50, 3) := by decide +kernel
theorem dX6_init_132 : decode cX6_init 132 = .ok (.aload_n 0, 1) := by decide +kernel
theorem dX6_init_133 : decode cX6_init 133 = .ok (.iload_n 2, 1) := by decide +kernel
theorem dX6_init_134 : decode cX6_init 134 = .ok (.iconst 1, 1) := by decide +kernel
theorem dX6_init_135 : decode cX6_init 135 = .ok (.if_icmp .ge 7, 3) := by decide +kernel
theorem dX6_init_138 : decode cX6_init 138 = .ok (.iconst 1, 1) := by decide +kernel
theorem dX6_init_139 : decode cX6_init 139 = .ok (.goto 13, 3) := by decide +kernel
theorem dX6_init_142 : decode cX6_init 142 = .ok (.iload_n 2, 1) := by decide +kernel
theorem dX6_init_143 : decode cX6_init 143 = .ok (.iconst 4, 1) := by decide +kernel
theorem dX6_init_144 : decode cX6_init 144 = .ok (.if_icmp .le 7, 3) := by decide +kernel
theorem dX6_init_147 : decode cX6_init 147 = .ok (.iconst 4, 1) := by decide +kernel
theorem dX6_init_148 : decode cX6_init 148 = .ok (.goto 4, 3) := by decide +kernel
theorem dX6_init_151 : decode cX6_init 151 = .ok (.iload_n 2, 1) := by decide +kernel
theorem dX6_init_152 : decode cX6_init 152 = .ok (.putfield 54, 3) := by decide +kernel
theorem dX6_init_155 : decode cX6_init 155 = .ok (.iconst 0, 1) := by decide +kernel
theorem dX6_init_156 : decode cX6_init 156 = .ok (.istore_n 3, 1) := by decide +kernel
theorem dX6_init_157 : decode cX6_init 157 = .ok (.iload_n 3, 1) := by decide +kernel
theorem dX6_init_158 : decode cX6_init 158 = .ok (.iconst 4, 1) := by decide +kernel
theorem dX6_init_159 : decode cX6_init 159 = .ok (.if_icmp .ge 31, 3) := by decide +kernel
theorem dX6_init_162 : decode cX6_init 162 = .ok (.aload_n 0, 1) := by decide +kernel
theorem dX6_init_163 : decode cX6_init 163 = .ok (.getfield 9, 3) := by decide +kernel
theorem dX6_init_166 : decode cX6_init 166 = .ok (.iload_n 3, 1) := by decide +kernel
theorem dX6_init_167 : decode cX6_init 167 = .ok (.iconst 1, 1) := by decide +kernel
theorem dX6_init_168 : decode cX6_init 168 = .ok (.iastore, 1) := by decide +kernel
theorem dX6_init_169 : decode cX6_init 169 = .ok (.aload_n 0, 1) := by decide +kernel
theorem dX6_init_170 : decode cX6_init 170 = .ok (.getfield 13, 3) := by decide +kernel
theorem dX6_init_173 : decode cX6_init 173 = .ok (.iload_n 3, 1) := by decide +kernel
theorem dX6_init_174 : decode cX6_init 174 = .ok (.bipush 60, 2) := by decide +kernel
theorem dX6_init_176 : decode cX6_init 176 = .ok (.iastore, 1) := by decide +kernel
theorem dX6_init_177 : decode cX6_init 177 = .ok (.aload_n 0, 1) := by decide +kernel
theorem dX6_init_178 : decode cX6_init 178 = .ok (.getfield 16, 3) := by decide +kernel
theorem dX6_init_181 : decode cX6_init 181 = .ok (.iload_n 3, 1) := by decide +kernel
theorem dX6_init_182 : decode cX6_init 182 = .ok (.iconst 5, 1) := by decide +kernel
theorem dX6_init_183 : decode cX6_init 183 = .ok (.iastore, 1) := by decide +kernel
theorem dX6_init_184 : decode cX6_init 184 = .ok (.iinc 3 1, 3) := by decide +kernel
theorem dX6_init_187 : decode cX6_init 187 = .ok (.goto (-30), 3) := by decide +kernel
theorem dX6_init_190 : decode cX6_init 190 = .ok (.return_, 1) := by decide +kernel
theorem dX6_in_0 : decode cX6_in 0 = .ok (.iload_n 0, 1) := by decide +kernel
theorem dX6_in_1 : decode cX6_in 1 = .ok (.iload_n 1, 1) := by decide +kernel
theorem dX6_in_2 : decode cX6_in 2 = .ok (.if_icmp .lt 12, 3) := by decide +kernel
theorem dX6_in_5 : decode cX6_in 5 = .ok (.iload_n 0, 1) := by decide +kernel
theorem dX6_in_6 : decode cX6_in 6 = .ok (.iload_n 2, 1) := by decide +kernel
theorem dX6_in_7 : decode cX6_in 7 = .ok (.if_icmp .gt 7, 3) := by decide +kernel
theorem dX6_in_10 : decode cX6_in 10 = .ok (.iconst 1, 1) := by decide +kernel
theorem dX6_in_11 : decode cX6_in 11 = .ok (.goto 4, 3) := by decide +kernel
theorem dX6_in_14 : decode cX6_in 14 = .ok (.iconst 0, 1) := by decide +kernel
theorem dX6_in_15 : decode cX6_in 15 = .ok (.ireturn, 1) := by decide +kernel
theorem dX6_isPlace_0 : decode cX6_isPlace 0 = .ok (.iload_n 1, 1) := by decide +kernel
theorem dX6_isPlace_1 : decode cX6_isPlace 1 = .ok (.iconst 0, 1) := by decide +kernel
theorem dX6_isPlace_2 : decode cX6_isPlace 2 = .ok (.aload_n 0, 1) := by decide +kernel
theorem dX6_isPlace_3 : decode cX6_isPlace 3 = .ok (.getfield 54, 3) := by decide +kernel
theorem dX6_isPlace_6 : decode cX6_isPlace 6 = .ok (.iconst 1, 1) := by decide +kernel
theorem dX6_isPlace_7 : decode cX6_isPlace 7 = .ok (.isub, 1) := by decide +kernel
theorem dX6_isPlace_8 : decode cX6_isPlace 8 = .ok (.invokestatic 57, 3) := by decide +kernel
theorem dX6_isPlace_11 : decode cX6_isPlace 11 = .ok (.ifCond .eq 21, 3) := by decide +kernel
theorem dX6_isPlace_14 : decode cX6_isPlace 14 = .ok (.iload_n 2, 1) := by decide +kernel
theorem dX6_isPlace_15 : decode cX6_isPlace 15 = .ok (.iconst 0, 1) := by decide +kernel
theorem dX6_isPlace_16 : decode cX6_isPlace 16 = .ok (.aload_n 0, 1) := by decide +kernel
theorem dX6_isPlace_17 : decode cX6_isPlace 17 = .ok (.getfield 50, 3) := by decide +kernel
theorem dX6_isPlace_20 : decode cX6_isPlace 20 = .ok (.iconst 1, 1) := by decide +kernel
theorem dX6_isPlace_21 : decode cX6_isPlace 21 = .ok (.isub, 1) := by decide +kernel
theorem dX6_isPlace_22 : decode cX6_isPlace 22 = .ok (.invokestatic 57, 3) := by decide +kernel
theorem dX6_isPlace_25 : decode cX6_isPlace 25 = .ok (.ifCond .eq 7, 3) := by decide +kernel
theorem dX6_isPlace_28 : decode cX6_isPlace 28 = .ok (.iconst 1, 1) := by decide +kernel
theorem dX6_isPlace_29 : decode cX6_isPlace 29 = .ok (.goto 4, 3) := by decide +kernel
theorem dX6_isPlace_32 : decode cX6_isPlace 32 = .ok (.iconst 0, 1) := by decide +kernel
theorem dX6_isPlace_33 : decode cX6_isPlace 33 = .ok (.ireturn, 1) := by decide +kernel
theorem dX6_thick_0 : decode cX6_thick 0 = .ok (.iload_n 1, 1) := by decide +kernel
theorem dX6_thick_1 : decode cX6_thick 1 = .ok (.iconst 0, 1) := by decide +kernel
theorem dX6_thick_2 : decode cX6_thick 2 = .ok (.aload_n 0, 1) := by decide +kernel
theorem dX6_thick_3 : decode cX6_thick 3 = .ok (.getfield 54, 3) := by decide +kernel
theorem dX6_thick_6 : decode cX6_thick 6 = .ok (.iconst 2, 1) := by decide +kernel
theorem dX6_thick_7 : decode cX6_thick 7 = .ok (.isub, 1) := by decide +kernel
theorem dX6_thick_8 : decode cX6_thick 8 = .ok (.invokestatic 57, 3) := by decide +kernel
theorem dX6_thick_11 : decode cX6_thick 11 = .ok (.ifCond .eq 23, 3) := by decide +kernel
theorem dX6_thick_14 : decode cX6_thick 14 = .ok (.iload_n 2, 1) := by decide +kernel
theorem dX6_thick_15 : decode cX6_thick 15 = .ok (.iconst 0, 1) := by decide +kernel
theorem dX6_thick_16 : decode cX6_thick 16 = .ok (.bipush 60, 2) := by decide +kernel
theorem dX6_thick_18 : decode cX6_thick 18 = .ok (.invokestatic 57, 3) := by decide +kernel
theorem dX6_thick_21 : decode cX6_thick 21 = .ok (.ifCond .eq 13, 3) := by decide +kernel
theorem dX6_thick_24 : decode cX6_thick 24 = .ok (.iload_n 3, 1) := by decide +kernel
theorem dX6_thick_25 : decode cX6_thick 25 = .ok (.iload_n 2, 1) := by decide +kernel
theorem dX6_thick_26 : decode cX6_thick 26 = .ok (.bipush 60, 2) := by decide +kernel
theorem dX6_thick_28 : decode cX6_thick 28 = .ok (.invokestatic 57, 3) := by decide +kernel
theorem dX6_thick_31 : decode cX6_thick 31 = .ok (.ifCond .ne 5, 3) := by decide +kernel
theorem dX6_thick_34 : decode cX6_thick 34 = .ok (.iconst 0, 1) := by decide +kernel
theorem dX6_thick_35 : decode cX6_thick 35 = .ok (.ireturn, 1) := by decide +kernel
theorem dX6_thick_36 : decode cX6_thick 36 = .ok (.aload_n 0, 1) := by decide +kernel
theorem dX6_thick_37 : decode cX6_thick 37 = .ok (.getfield 9, 3) := by decide +kernel
theorem dX6_thick_40 : decode cX6_thick 40 = .ok (.iload_n 1, 1) := by decide +kernel
theorem dX6_thick_41 : decode cX6_thick 41 = .ok (.iload_n 2, 1) := by decide +kernel
theorem dX6_thick_42 : decode cX6_thick 42 = .ok (.iastore, 1) := by decide +kernel
theorem dX6_thick_43 : decode cX6_thick 43 = .ok (.aload_n 0, 1) := by decide +kernel
theorem dX6_thick_44 : decode cX6_thick 44 = .ok (.getfield 13, 3) := by decide +kernel
theorem dX6_thick_47 : decode cX6_thick 47 = .ok (.iload_n 1, 1) := by decide +kernel
theorem dX6_thick_48 : decode cX6_thick 48 = .ok (.iload_n 3, 1) := by decide +kernel
theorem dX6_thick_49 : decode cX6_thick 49 = .ok (.iastore, 1) := by decide +kernel
theorem dX6_thick_50 : decode cX6_thick 50 = .ok (.aload_n 0, 1) := by decide +kernel
theorem dX6_thick_51 : decode cX6_thick 51 = .ok (.iconst 0, 1) := by decide +kernel
theorem dX6_thick_52 : decode cX6_thick 52 = .ok (.putfield 61, 3) := by decide +kernel
theorem dX6_thick_55 : decode cX6_thick 55 = .ok (.iconst 1, 1) := by decide +kernel
theorem dX6_thick_56 : decode cX6_thick 56 = .ok (.ireturn, 1) := by decide +kernel
theorem dX6_steep_0 : decode cX6_steep 0 = .ok (.iload_n 1, 1) := by decide +kernel
theorem dX6_steep_1 : decode cX6_steep 1 = .ok (.iconst 0, 1) := by decide +kernel
theorem dX6_steep_2 : decode cX6_steep 2 = .ok (.aload_n 0, 1) := by decide +kernel
theorem dX6_steep_3 : decode cX6_steep 3 = .ok (.getfield 54, 3) := by decide +kernel
theorem dX6_steep_6 : decode cX6_steep 6 = .ok (.iconst 1, 1) := by decide +kernel
theorem dX6_steep_7 : decode cX6_steep 7 = .ok (.isub, 1) := by decide +kernel
theorem dX6_steep_8 : decode cX6_steep 8 = .ok (.invokestatic 57, 3) := by decide +kernel
theorem dX6_steep_11 : decode cX6_steep 11 = .ok (.ifCond .eq 13, 3) := by decide +kernel
theorem dX6_steep_14 : decode cX6_steep 14 = .ok (.iload_n 2, 1) := by decide +kernel
theorem dX6_steep_15 : decode cX6_steep 15 = .ok (.iconst 0, 1) := by decide +kernel
theorem dX6_steep_16 : decode cX6_steep 16 = .ok (.bipush 60, 2) := by decide +kernel
theorem dX6_steep_18 : decode cX6_steep 18 = .ok (.invokestatic 57, 3) := by decide +kernel
theorem dX6_steep_21 : decode cX6_steep 21 = .ok (.ifCond .ne 5, 3) := by decide +kernel
theorem dX6_steep_24 : decode cX6_steep 24 = .ok (.iconst 0, 1) := by decide +kernel
theorem dX6_steep_25 : decode cX6_steep 25 = .ok (.ireturn, 1) := by decide +kernel
theorem dX6_steep_26 : decode cX6_steep 26 = .ok (.aload_n 0, 1) := by decide +kernel
theorem dX6_steep_27 : decode cX6_steep 27 = .ok (.getfield 16, 3) := by decide +kernel
theorem dX6_steep_30 : decode cX6_steep 30 = .ok (.iload_n 1, 1) := by decide +kernel
theorem dX6_steep_31 : decode cX6_steep 31 = .ok (.iload_n 2, 1) := by decide +kernel
theorem dX6_steep_32 : decode cX6_steep 32 = .ok (.iastore, 1) := by decide +kernel
theorem dX6_steep_33 : decode cX6_steep 33 = .ok (.aload_n 0, 1) := by decide +kernel
theorem dX6_steep_34 : decode cX6_steep 34 = .ok (.iconst 0, 1) := by decide +kernel
theorem dX6_steep_35 : decode cX6_steep 35 = .ok (.putfield 61, 3) := by decide +kernel
theorem dX6_steep_38 : decode cX6_steep 38 = .ok (.iconst 1, 1) := by decide +kernel
theorem dX6_steep_39 : decode cX6_steep 39 = .ok (.ireturn, 1) := by decide +kernel
theorem dX6_fault_0 : decode cX6_fault 0 = .ok (.iload_n 1, 1) := by decide +kernel
theorem dX6_fault_1 : decode cX6_fault 1 = .ok (.iconst 0, 1) := by decide +kernel
theorem dX6_fault_2 : decode cX6_fault 2 = .ok (.aload_n 0, 1) := by decide +kernel
theorem dX6_fault_3 : decode cX6_fault 3 = .ok (.getfield 50, 3) := by decide +kernel
theorem dX6_fault_6 : decode cX6_fault 6 = .ok (.iconst 2, 1) := by decide +kernel
theorem dX6_fault_7 : decode cX6_fault 7 = .ok (.isub, 1) := by decide +kernel
theorem dX6_fault_8 : decode cX6_fault 8 = .ok (.invokestatic 57, 3) := by decide +kernel
theorem dX6_fault_11 : decode cX6_fault 11 = .ok (.ifCond .eq 14, 3) := by decide +kernel
theorem dX6_fault_14 : decode cX6_fault 14 = .ok (.iload_n 2, 1) := by decide +kernel
theorem dX6_fault_15 : decode cX6_fault 15 = .ok (.bipush (-30), 2) := by decide +kernel
theorem dX6_fault_17 : decode cX6_fault 17 = .ok (.bipush 30, 2) := by decide +kernel
theorem dX6_fault_19 : decode cX6_fault 19 = .ok (.invokestatic 57, 3) := by decide +kernel
theorem dX6_fault_22 : decode cX6_fault 22 = .ok (.ifCond .ne 5, 3) := by decide +kernel
theorem dX6_fault_25 : decode cX6_fault 25 = .ok (.iconst 0, 1) := by decide +kernel
theorem dX6_fault_26 : decode cX6_fault 26 = .ok (.ireturn, 1) := by decide +kernel
theorem dX6_fault_27 : decode cX6_fault 27 = .ok (.aload_n 0, 1) := by decide +kernel
theorem dX6_fault_28 : decode cX6_fault 28 = .ok (.getfield 19, 3) := by decide +kernel
theorem dX6_fault_31 : decode cX6_fault 31 = .ok (.iload_n 1, 1) := by decide +kernel
theorem dX6_fault_32 : decode cX6_fault 32 = .ok (.iconst 1, 1) := by decide +kernel
theorem dX6_fault_33 : decode cX6_fault 33 = .ok (.bastore, 1) := by decide +kernel
theorem dX6_fault_34 : decode cX6_fault 34 = .ok (.aload_n 0, 1) := by decide +kernel
theorem dX6_fault_35 : decode cX6_fault 35 = .ok (.getfield 23, 3) := by decide +kernel
theorem dX6_fault_38 : decode cX6_fault 38 = .ok (.iload_n 1, 1) := by decide +kernel
theorem dX6_fault_39 : decode cX6_fault 39 = .ok (.iload_n 2, 1) := by decide +kernel
theorem dX6_fault_40 : decode cX6_fault 40 = .ok (.iastore, 1) := by decide +kernel
theorem dX6_fault_41 : decode cX6_fault 41 = .ok (.aload_n 0, 1) := by decide +kernel
theorem dX6_fault_42 : decode cX6_fault 42 = .ok (.iconst 0, 1) := by decide +kernel
theorem dX6_fault_43 : decode cX6_fault 43 = .ok (.putfield 61, 3) := by decide +kernel
theorem dX6_fault_46 : decode cX6_fault 46 = .ok (.iconst 1, 1) := by decide +kernel
theorem dX6_fault_47 : decode cX6_fault 47 = .ok (.ireturn, 1) := by decide +kernel
theorem dX6_heal_0 : decode cX6_heal 0 = .ok (.iload_n 1, 1) := by decide +kernel
theorem dX6_heal_1 : decode cX6_heal 1 = .ok (.iconst 0, 1) := by decide +kernel
theorem dX6_heal_2 : decode cX6_heal 2 = .ok (.aload_n 0, 1) := by decide +kernel
theorem dX6_heal_3 : decode cX6_heal 3 = .ok (.getfield 50, 3) := by decide +kernel
theorem dX6_heal_6 : decode cX6_heal 6 = .ok (.iconst 2, 1) := by decide +kernel
theorem dX6_heal_7 : decode cX6_heal 7 = .ok (.isub, 1) := by decide +kernel
theorem dX6_heal_8 : decode cX6_heal 8 = .ok (.invokestatic 57, 3) := by decide +kernel
theorem dX6_heal_11 : decode cX6_heal 11 = .ok (.ifCond .eq 12, 3) := by decide +kernel
theorem dX6_heal_14 : decode cX6_heal 14 = .ok (.aload_n 0, 1) := by decide +kernel
theorem dX6_heal_15 : decode cX6_heal 15 = .ok (.getfield 19, 3) := by decide +kernel
theorem dX6_heal_18 : decode cX6_heal 18 = .ok (.iload_n 1, 1) := by decide +kernel
theorem dX6_heal_19 : decode cX6_heal 19 = .ok (.baload, 1) := by decide +kernel
theorem dX6_heal_20 : decode cX6_heal 20 = .ok (.ifCond .ne 5, 3) := by decide +kernel
theorem dX6_heal_23 : decode cX6_heal 23 = .ok (.iconst 0, 1) := by decide +kernel
theorem dX6_heal_24 : decode cX6_heal 24 = .ok (.ireturn, 1) := by decide +kernel
theorem dX6_heal_25 : decode cX6_heal 25 = .ok (.aload_n 0, 1) := by decide +kernel
theorem dX6_heal_26 : decode cX6_heal 26 = .ok (.getfield 19, 3) := by decide +kernel
theorem dX6_heal_29 : decode cX6_heal 29 = .ok (.iload_n 1, 1) := by decide +kernel
theorem dX6_heal_30 : decode cX6_heal 30 = .ok (.iconst 0, 1) := by decide +kernel
theorem dX6_heal_31 : decode cX6_heal 31 = .ok (.bastore, 1) := by decide +kernel
theorem dX6_heal_32 : decode cX6_heal 32 = .ok (.aload_n 0, 1) := by decide +kernel
theorem dX6_heal_33 : decode cX6_heal 33 = .ok (.iconst 0, 1) := by decide +kernel
theorem dX6_heal_34 : decode cX6_heal 34 = .ok (.putfield 61, 3) := by decide +kernel
theorem dX6_heal_37 : decode cX6_heal 37 = .ok (.iconst 1, 1) := by decide +kernel
theorem dX6_heal_38 : decode cX6_heal 38 = .ok (.ireturn, 1) := by decide +kernel
theorem dX6_ground_0 : decode cX6_ground 0 = .ok (.iload_n 1, 1) := by decide +kernel
theorem dX6_ground_1 : decode cX6_ground 1 = .ok (.iconst 0, 1) := by decide +kernel
theorem dX6_ground_2 : decode cX6_ground 2 = .ok (.aload_n 0, 1) := by decide +kernel
theorem dX6_ground_3 : decode cX6_ground 3 = .ok (.getfield 50, 3) := by decide +kernel
theorem dX6_ground_6 : decode cX6_ground 6 = .ok (.iconst 1, 1) := by decide +kernel
theorem dX6_ground_7 : decode cX6_ground 7 = .ok (.isub, 1) := by decide +kernel
theorem dX6_ground_8 : decode cX6_ground 8 = .ok (.invokestatic 57, 3) := by decide +kernel
theorem dX6_ground_11 : decode cX6_ground 11 = .ok (.ifCond .eq 13, 3) := by decide +kernel
theorem dX6_ground_14 : decode cX6_ground 14 = .ok (.iload_n 2, 1) := by decide +kernel
theorem dX6_ground_15 : decode cX6_ground 15 = .ok (.iconst 0, 1) := by decide +kernel
theorem dX6_ground_16 : decode cX6_ground 16 = .ok (.bipush 60, 2) := by decide +kernel
theorem dX6_ground_18 : decode cX6_ground 18 = .ok (.invokestatic 57, 3) := by decide +kernel
theorem dX6_ground_21 : decode cX6_ground 21 = .ok (.ifCond .ne 5, 3) := by decide +kernel
theorem dX6_ground_24 : decode cX6_ground 24 = .ok (.iconst 0, 1) := by decide +kernel
theorem dX6_ground_25 : decode cX6_ground 25 = .ok (.ireturn, 1) := by decide +kernel
theorem dX6_ground_26 : decode cX6_ground 26 = .ok (.aload_n 0, 1) := by decide +kernel
theorem dX6_ground_27 : decode cX6_ground 27 = .ok (.getfield 26, 3) := by decide +kernel
theorem dX6_ground_30 : decode cX6_ground 30 = .ok (.iload_n 1, 1) := by decide +kernel
theorem dX6_ground_31 : decode cX6_ground 31 = .ok (.iload_n 2, 1) := by decide +kernel
theorem dX6_ground_32 : decode cX6_ground 32 = .ok (.iastore, 1) := by decide +kernel
theorem dX6_ground_33 : decode cX6_ground 33 = .ok (.iconst 1, 1) := by decide +kernel
theorem dX6_ground_34 : decode cX6_ground 34 = .ok (.ireturn, 1) := by decide +kernel
theorem dX6_sight_0 : decode cX6_sight 0 = .ok (.iload_n 1, 1) := by decide +kernel
theorem dX6_sight_1 : decode cX6_sight 1 = .ok (.ifCond .lt 53, 3) := by decide +kernel
theorem dX6_sight_4 : decode cX6_sight 4 = .ok (.aload_n 0, 1) := by decide +kernel
theorem dX6_sight_5 : decode cX6_sight 5 = .ok (.iload_n 1, 1) := by decide +kernel
theorem dX6_sight_6 : decode cX6_sight 6 = .ok (.bipush 100, 2) := by decide +kernel
theorem dX6_sight_8 : decode cX6_sight 8 = .ok (.idiv, 1) := by decide +kernel
theorem dX6_sight_9 : decode cX6_sight 9 = .ok (.iload_n 1, 1) := by decide +kernel
theorem dX6_sight_10 : decode cX6_sight 10 = .ok (.bipush 10, 2) := by decide +kernel
theorem dX6_sight_12 : decode cX6_sight 12 = .ok (.idiv, 1) := by decide +kernel
theorem dX6_sight_13 : decode cX6_sight 13 = .ok (.bipush 10, 2) := by decide +kernel
theorem dX6_sight_15 : decode cX6_sight 15 = .ok (.irem, 1) := by decide +kernel
theorem dX6_sight_16 : decode cX6_sight 16 = .ok (.invokevirtual 65, 3) := by decide +kernel
theorem dX6_sight_19 : decode cX6_sight 19 = .ok (.ifCond .eq 35, 3) := by decide +kernel
theorem dX6_sight_22 : decode cX6_sight 22 = .ok (.iload_n 1, 1) := by decide +kernel
theorem dX6_sight_23 : decode cX6_sight 23 = .ok (.bipush 10, 2) := by decide +kernel
theorem dX6_sight_25 : decode cX6_sight 25 = .ok (.irem, 1) := by decide +kernel
theorem dX6_sight_26 : decode cX6_sight 26 = .ok (.iconst 3, 1) := by decide +kernel
theorem dX6_sight_27 : decode cX6_sight 27 = .ok (.if_icmp .gt 27, 3) := by decide +kernel
theorem dX6_sight_30 : decode cX6_sight 30 = .ok (.iload_n 1, 1) := by decide +kernel
theorem dX6_sight_31 : decode cX6_sight 31 = .ok (.bipush 10, 2) := by decide +kernel
theorem dX6_sight_33 : decode cX6_sight 33 = .ok (.irem, 1) := by decide +kernel
theorem dX6_sight_34 : decode cX6_sight 34 = .ok (.iconst 3, 1) := by decide +kernel
theorem dX6_sight_35 : decode cX6_sight 35 = .ok (.if_icmp .ne 21, 3) := by decide +kernel
theorem dX6_sight_38 : decode cX6_sight 38 = .ok (.iload_n 1, 1) := by decide +kernel
theorem dX6_sight_39 : decode cX6_sight 39 = .ok (.bipush 10, 2) := by decide +kernel
theorem dX6_sight_41 : decode cX6_sight 41 = .ok (.idiv, 1) := by decide +kernel
theorem dX6_sight_42 : decode cX6_sight 42 = .ok (.bipush 10, 2) := by decide +kernel
theorem dX6_sight_44 : decode cX6_sight 44 = .ok (.irem, 1) := by decide +kernel
theorem dX6_sight_45 : decode cX6_sight 45 = .ok (.aload_n 0, 1) := by decide +kernel
theorem dX6_sight_46 : decode cX6_sight 46 = .ok (.getfield 50, 3) := by decide +kernel
theorem dX6_sight_49 : decode cX6_sight 49 = .ok (.iconst 1, 1) := by decide +kernel
theorem dX6_sight_50 : decode cX6_sight 50 = .ok (.isub, 1) := by decide +kernel
theorem dX6_sight_51 : decode cX6_sight 51 = .ok (.if_icmp .ne 5, 3) := by decide +kernel
theorem dX6_sight_54 : decode cX6_sight 54 = .ok (.iconst (-1), 1) := by decide +kernel
theorem dX6_sight_55 : decode cX6_sight 55 = .ok (.ireturn, 1) := by decide +kernel
theorem dX6_sight_56 : decode cX6_sight 56 = .ok (.iload_n 2, 1) := by decide +kernel
theorem dX6_sight_57 : decode cX6_sight 57 = .ok (.bipush (-60), 2) := by decide +kernel
theorem dX6_sight_59 : decode cX6_sight 59 = .ok (.bipush 60, 2) := by decide +kernel
theorem dX6_sight_61 : decode cX6_sight 61 = .ok (.invokestatic 57, 3) := by decide +kernel
theorem dX6_sight_64 : decode cX6_sight 64 = .ok (.ifCond .eq 22, 3) := by decide +kernel
theorem dX6_sight_67 : decode cX6_sight 67 = .ok (.iload_n 3, 1) := by decide +kernel
theorem dX6_sight_68 : decode cX6_sight 68 = .ok (.iconst 0, 1) := by decide +kernel
theorem dX6_sight_69 : decode cX6_sight 69 = .ok (.bipush 60, 2) := by decide +kernel
theorem dX6_sight_71 : decode cX6_sight 71 = .ok (.invokestatic 57, 3) := by decide +kernel
theorem dX6_sight_74 : decode cX6_sight 74 = .ok (.ifCond .eq 12, 3) := by decide +kernel
theorem dX6_sight_77 : decode cX6_sight 77 = .ok (.aload_n 0, 1) := by decide +kernel
theorem dX6_sight_78 : decode cX6_sight 78 = .ok (.getfield 69, 3) := by decide +kernel
theorem dX6_sight_81 : decode cX6_sight 81 = .ok (.bipush 10, 2) := by decide +kernel
theorem dX6_sight_83 : decode cX6_sight 83 = .ok (.if_icmp .ne 5, 3) := by decide +kernel
theorem dX6_sight_86 : decode cX6_sight 86 = .ok (.iconst (-1), 1) := by decide +kernel
theorem dX6_sight_87 : decode cX6_sight 87 = .ok (.ireturn, 1) := by decide +kernel
theorem dX6_sight_88 : decode cX6_sight 88 = .ok (.aload_n 0, 1) := by decide +kernel
theorem dX6_sight_89 : decode cX6_sight 89 = .ok (.getfield 29, 3) := by decide +kernel
theorem dX6_sight_92 : decode cX6_sight 92 = .ok (.aload_n 0, 1) := by decide +kernel
theorem dX6_sight_93 : decode cX6_sight 93 = .ok (.getfield 69, 3) := by decide +kernel
theorem dX6_sight_96 : decode cX6_sight 96 = .ok (.iload_n 1, 1) := by decide +kernel
theorem dX6_sight_97 : decode cX6_sight 97 = .ok (.iastore, 1) := by decide +kernel
theorem dX6_sight_98 : decode cX6_sight 98 = .ok (.aload_n 0, 1) := by decide +kernel
theorem dX6_sight_99 : decode cX6_sight 99 = .ok (.getfield 32, 3) := by decide +kernel
theorem dX6_sight_102 : decode cX6_sight 102 = .ok (.aload_n 0, 1) := by decide +kernel
theorem dX6_sight_103 : decode cX6_sight 103 = .ok (.getfield 69, 3) := by decide +kernel
theorem dX6_sight_106 : decode cX6_sight 106 = .ok (.iload_n 2, 1) := by decide +kernel
theorem dX6_sight_107 : decode cX6_sight 107 = .ok (.iastore, 1) := by decide +kernel
theorem dX6_sight_108 : decode cX6_sight 108 = .ok (.aload_n 0, 1) := by decide +kernel
theorem dX6_sight_109 : decode cX6_sight 109 = .ok (.getfield 35, 3) := by decide +kernel
theorem dX6_sight_112 : decode cX6_sight 112 = .ok (.aload_n 0, 1) := by decide +kernel
theorem dX6_sight_113 : decode cX6_sight 113 = .ok (.getfield 69, 3) := by decide +kernel
theorem dX6_sight_116 : decode cX6_sight 116 = .ok (.iload_n 3, 1) := by decide +kernel
theorem dX6_sight_117 : decode cX6_sight 117 = .ok (.iastore, 1) := by decide +kernel
theorem dX6_sight_118 : decode cX6_sight 118 = .ok (.aload_n 0, 1) := by decide +kernel
theorem dX6_sight_119 : decode cX6_sight 119 = .ok (.getfield 38, 3) := by decide +kernel
theorem dX6_sight_122 : decode cX6_sight 122 = .ok (.aload_n 0, 1) := by decide +kernel
theorem dX6_sight_123 : decode cX6_sight 123 = .ok (.getfield 69, 3) := by decide +kernel
theorem dX6_sight_126 : decode cX6_sight 126 = .ok (.iconst 1, 1) := by decide +kernel
theorem dX6_sight_127 : decode cX6_sight 127 = .ok (.bastore, 1) := by decide +kernel
theorem dX6_sight_128 : decode cX6_sight 128 = .ok (.aload_n 0, 1) := by decide +kernel
theorem dX6_sight_129 : decode cX6_sight 129 = .ok (.dup, 1) := by decide +kernel
theorem dX6_sight_130 : decode cX6_sight 130 = .ok (.getfield 69, 3) := by decide +kernel
theorem dX6_sight_133 : decode cX6_sight 133 = .ok (.iconst 1, 1) := by decide +kernel
theorem dX6_sight_134 : decode cX6_sight 134 = .ok (.iadd, 1) := by decide +kernel
theorem dX6_sight_135 : decode cX6_sight 135 = .ok (.putfield 69, 3) := by decide +kernel
theorem dX6_sight_138 : decode cX6_sight 138 = .ok (.aload_n 0, 1) := by decide +kernel
theorem dX6_sight_139 : decode cX6_sight 139 = .ok (.iconst 0, 1) := by decide +kernel
theorem dX6_sight_140 : decode cX6_sight 140 = .ok (.putfield 61, 3) := by decide +kernel
theorem dX6_sight_143 : decode cX6_sight 143 = .ok (.aload_n 0, 1) := by decide +kernel
theorem dX6_sight_144 : decode cX6_sight 144 = .ok (.getfield 69, 3) := by decide +kernel
theorem dX6_sight_147 : decode cX6_sight 147 = .ok (.iconst 1, 1) := by decide +kernel
theorem dX6_sight_148 : decode cX6_sight 148 = .ok (.isub, 1) := by decide +kernel
theorem dX6_sight_149 : decode cX6_sight 149 = .ok (.ireturn, 1) := by decide +kernel
theorem dX6_isSight_0 : decode cX6_isSight 0 = .ok (.iload_n 1, 1) := by decide +kernel
theorem dX6_isSight_1 : decode cX6_isSight 1 = .ok (.iconst 0, 1) := by decide +kernel
theorem dX6_isSight_2 : decode cX6_isSight 2 = .ok (.aload_n 0, 1) := by decide +kernel
theorem dX6_isSight_3 : decode cX6_isSight 3 = .ok (.getfield 69, 3) := by decide +kernel
theorem dX6_isSight_6 : decode cX6_isSight 6 = .ok (.iconst 1, 1) := by decide +kernel
theorem dX6_isSight_7 : decode cX6_isSight 7 = .ok (.isub, 1) := by decide +kernel
theorem dX6_isSight_8 : decode cX6_isSight 8 = .ok (.invokestatic 57, 3) := by decide +kernel
theorem dX6_isSight_11 : decode cX6_isSight 11 = .ok (.ifCond .eq 16, 3) := by decide +kernel
theorem dX6_isSight_14 : decode cX6_isSight 14 = .ok (.aload_n 0, 1) := by decide +kernel
theorem dX6_isSight_15 : decode cX6_isSight 15 = .ok (.getfield 38, 3) := by decide +kernel
theorem dX6_isSight_18 : decode cX6_isSight 18 = .ok (.iload_n 1, 1) := by decide +kernel
theorem dX6_isSight_19 : decode cX6_isSight 19 = .ok (.baload, 1) := by decide +kernel
theorem dX6_isSight_20 : decode cX6_isSight 20 = .ok (.ifCond .eq 7, 3) := by decide +kernel
theorem dX6_isSight_23 : decode cX6_isSight 23 = .ok (.iconst 1, 1) := by decide +kernel
theorem dX6_isSight_24 : decode cX6_isSight 24 = .ok (.goto 4, 3) := by decide +kernel
theorem dX6_isSight_27 : decode cX6_isSight 27 = .ok (.iconst 0, 1) := by decide +kernel
theorem dX6_isSight_28 : decode cX6_isSight 28 = .ok (.ireturn, 1) := by decide +kernel
theorem dX6_take_0 : decode cX6_take 0 = .ok (.aload_n 0, 1) := by decide +kernel
theorem dX6_take_1 : decode cX6_take 1 = .ok (.iload_n 1, 1) := by decide +kernel
theorem dX6_take_2 : decode cX6_take 2 = .ok (.invokevirtual 72, 3) := by decide +kernel
theorem dX6_take_5 : decode cX6_take 5 = .ok (.ifCond .ne 5, 3) := by decide +kernel
theorem dX6_take_8 : decode cX6_take 8 = .ok (.iconst 0, 1) := by decide +kernel
theorem dX6_take_9 : decode cX6_take 9 = .ok (.ireturn, 1) := by decide +kernel
theorem dX6_take_10 : decode cX6_take 10 = .ok (.aload_n 0, 1) := by decide +kernel
theorem dX6_take_11 : decode cX6_take 11 = .ok (.getfield 38, 3) := by decide +kernel
theorem dX6_take_14 : decode cX6_take 14 = .ok (.iload_n 1, 1) := by decide +kernel
theorem dX6_take_15 : decode cX6_take 15 = .ok (.iconst 0, 1) := by decide +kernel
theorem dX6_take_16 : decode cX6_take 16 = .ok (.bastore, 1) := by decide +kernel
theorem dX6_take_17 : decode cX6_take 17 = .ok (.aload_n 0, 1) := by decide +kernel
theorem dX6_take_18 : decode cX6_take 18 = .ok (.iconst 0, 1) := by decide +kernel
theorem dX6_take_19 : decode cX6_take 19 = .ok (.putfield 61, 3) := by decide +kernel
theorem dX6_take_22 : decode cX6_take 22 = .ok (.iconst 1, 1) := by decide +kernel
theorem dX6_take_23 : decode cX6_take 23 = .ok (.ireturn, 1) := by decide +kernel
theorem dX6_node_0 : decode cX6_node 0 = .ok (.bipush 8, 2) := by decide +kernel
theorem dX6_node_2 : decode cX6_node 2 = .ok (.iload_n 0, 1) := by decide +kernel
theorem dX6_node_3 : decode cX6_node 3 = .ok (.imul, 1) := by decide +kernel
theorem dX6_node_4 : decode cX6_node 4 = .ok (.iload_n 1, 1) := by decide +kernel
theorem dX6_node_5 : decode cX6_node 5 = .ok (.iadd, 1) := by decide +kernel
theorem dX6_node_6 : decode cX6_node 6 = .ok (.ireturn, 1) := by decide +kernel
theorem dX6_bounds_0 : decode cX6_bounds 0 = .ok (.iload_n 3, 1) := by decide +kernel
theorem dX6_bounds_1 : decode cX6_bounds 1 = .ok (.aload_n 0, 1) := by decide +kernel
theorem dX6_bounds_2 : decode cX6_bounds 2 = .ok (.getfield 41, 3) := by decide +kernel
theorem dX6_bounds_5 : decode cX6_bounds 5 = .ok (.bipush 33, 2) := by decide +kernel
theorem dX6_bounds_7 : decode cX6_bounds 7 = .ok (.iload_n 1, 1) := by decide +kernel
theorem dX6_bounds_8 : decode cX6_bounds 8 = .ok (.imul, 1) := by decide +kernel
theorem dX6_bounds_9 : decode cX6_bounds 9 = .ok (.iload_n 2, 1) := by decide +kernel
theorem dX6_bounds_10 : decode cX6_bounds 10 = .ok (.iadd, 1) := by decide +kernel
theorem dX6_bounds_11 : decode cX6_bounds 11 = .ok (.iaload, 1) := by decide +kernel
theorem dX6_bounds_12 : decode cX6_bounds 12 = .ok (.if_icmp .ge 15, 3) := by decide +kernel
theorem dX6_bounds_15 : decode cX6_bounds 15 = .ok (.aload_n 0, 1) := by decide +kernel
theorem dX6_bounds_16 : decode cX6_bounds 16 = .ok (.getfield 41, 3) := by decide +kernel
theorem dX6_bounds_19 : decode cX6_bounds 19 = .ok (.bipush 33, 2) := by decide +kernel
theorem dX6_bounds_21 : decode cX6_bounds 21 = .ok (.iload_n 1, 1) := by decide +kernel
theorem dX6_bounds_22 : decode cX6_bounds 22 = .ok (.imul, 1) := by decide +kernel
theorem dX6_bounds_23 : decode cX6_bounds 23 = .ok (.iload_n 2, 1) := by decide +kernel
theorem dX6_bounds_24 : decode cX6_bounds 24 = .ok (.iadd, 1) := by decide +kernel
theorem dX6_bounds_25 : decode cX6_bounds 25 = .ok (.iload_n 3, 1) := by decide +kernel
theorem dX6_bounds_26 : decode cX6_bounds 26 = .ok (.iastore, 1) := by decide +kernel
theorem dX6_bounds_27 : decode cX6_bounds 27 = .ok (.return_, 1) := by decide +kernel
theorem dX6_within_0 : decode cX6_within 0 = .ok (.aload_n 0, 1) := by decide +kernel
theorem dX6_within_1 : decode cX6_within 1 = .ok (.iload_n 1, 1) := by decide +kernel
theorem dX6_within_2 : decode cX6_within 2 = .ok (.iload_n 2, 1) := by decide +kernel
theorem dX6_within_3 : decode cX6_within 3 = .ok (.iload_n 3, 1) := by decide +kernel
theorem dX6_within_4 : decode cX6_within 4 = .ok (.iload 4, 2) := by decide +kernel
theorem dX6_within_6 : decode cX6_within 6 = .ok (.iadd, 1) := by decide +kernel
theorem dX6_within_7 : decode cX6_within 7 = .ok (.invokevirtual 76, 3) := by decide +kernel
theorem dX6_within_10 : decode cX6_within 10 = .ok (.aload_n 0, 1) := by decide +kernel
theorem dX6_within_11 : decode cX6_within 11 = .ok (.iload_n 2, 1) := by decide +kernel
theorem dX6_within_12 : decode cX6_within 12 = .ok (.iload_n 1, 1) := by decide +kernel
theorem dX6_within_13 : decode cX6_within 13 = .ok (.iload 4, 2) := by decide +kernel
theorem dX6_within_15 : decode cX6_within 15 = .ok (.iload_n 3, 1) := by decide +kernel
theorem dX6_within_16 : decode cX6_within 16 = .ok (.isub, 1) := by decide +kernel
theorem dX6_within_17 : decode cX6_within 17 = .ok (.invokevirtual 76, 3) := by decide +kernel
theorem dX6_within_20 : decode cX6_within 20 = .ok (.return_, 1) := by decide +kernel
theorem dX6_stands_0 : decode cX6_stands 0 = .ok (.bipush 32, 2) := by decide +kernel
theorem dX6_stands_2 : decode cX6_stands 2 = .ok (.istore_n 1, 1) := by decide +kernel
theorem dX6_stands_3 : decode cX6_stands 3 = .ok (.iconst 0, 1) := by decide +kernel
theorem dX6_stands_4 : decode cX6_stands 4 = .ok (.istore_n 2, 1) := by decide +kernel
theorem dX6_stands_5 : decode cX6_stands 5 = .ok (.iload_n 2, 1) := by decide +kernel
theorem dX6_stands_6 : decode cX6_stands 6 = .ok (.sipush 1089, 3) := by decide +kernel
theorem dX6_stands_9 : decode cX6_stands 9 = .ok (.if_icmp .ge 28, 3) := by decide +kernel
theorem dX6_stands_12 : decode cX6_stands 12 = .ok (.aload_n 0, 1) := by decide +kernel
theorem dX6_stands_13 : decode cX6_stands 13 = .ok (.getfield 41, 3) := by decide +kernel
theorem dX6_stands_16 : decode cX6_stands 16 = .ok (.iload_n 2, 1) := by decide +kernel
theorem dX6_stands_17 : decode cX6_stands 17 = .ok (.iload_n 2, 1) := by decide +kernel
theorem dX6_stands_18 : decode cX6_stands 18 = .ok (.bipush 34, 2) := by decide +kernel
theorem dX6_stands_20 : decode cX6_stands 20 = .ok (.irem, 1) := by decide +kernel
theorem dX6_stands_21 : decode cX6_stands 21 = .ok (.ifCond .ne 7, 3) := by decide +kernel
theorem dX6_stands_24 : decode cX6_stands 24 = .ok (.iconst 0, 1) := by decide +kernel
theorem dX6_stands_25 : decode cX6_stands 25 = .ok (.goto 5, 3) := by decide +kernel
theorem dX6_stands_28 : decode cX6_stands 28 = .ok (.ldc 80, 2) := by decide +kernel
theorem dX6_stands_30 : decode cX6_stands 30 = .ok (.iastore, 1) := by decide +kernel
theorem dX6_stands_31 : decode cX6_stands 31 = .ok (.iinc 2 1, 3) := by decide +kernel
theorem dX6_stands_34 : decode cX6_stands 34 = .ok (.goto (-29), 3) := by decide +kernel
theorem dX6_stands_37 : decode cX6_stands 37 = .ok (.iconst 0, 1) := by decide +kernel
theorem dX6_stands_38 : decode cX6_stands 38 = .ok (.istore_n 2, 1) := by decide +kernel
theorem dX6_stands_39 : decode cX6_stands 39 = .ok (.iload_n 2, 1) := by decide +kernel
theorem dX6_stands_40 : decode cX6_stands 40 = .ok (.aload_n 0, 1) := by decide +kernel
theorem dX6_stands_41 : decode cX6_stands 41 = .ok (.getfield 54, 3) := by decide +kernel
theorem dX6_stands_44 : decode cX6_stands 44 = .ok (.if_icmp .ge 146, 3) := by decide +kernel
theorem dX6_stands_47 : decode cX6_stands 47 = .ok (.iconst 0, 1) := by decide +kernel
theorem dX6_stands_48 : decode cX6_stands 48 = .ok (.istore_n 3, 1) := by decide +kernel
theorem dX6_stands_49 : decode cX6_stands 49 = .ok (.iload_n 3, 1) := by decide +kernel
theorem dX6_stands_50 : decode cX6_stands 50 = .ok (.aload_n 0, 1) := by decide +kernel
theorem dX6_stands_51 : decode cX6_stands 51 = .ok (.getfield 50, 3) := by decide +kernel
theorem dX6_stands_54 : decode cX6_stands 54 = .ok (.if_icmp .ge 130, 3) := by decide +kernel
theorem dX6_stands_57 : decode cX6_stands 57 = .ok (.iload_n 2, 1) := by decide +kernel
theorem dX6_stands_58 : decode cX6_stands 58 = .ok (.iload_n 3, 1) := by decide +kernel
theorem dX6_stands_59 : decode cX6_stands 59 = .ok (.invokestatic 81, 3) := by decide +kernel
theorem dX6_stands_62 : decode cX6_stands 62 = .ok (.istore 4, 2) := by decide +kernel
theorem dX6_stands_64 : decode cX6_stands 64 = .ok (.aload_n 0, 1) := by decide +kernel
theorem dX6_stands_65 : decode cX6_stands 65 = .ok (.iload_n 1, 1) := by decide +kernel
theorem dX6_stands_66 : decode cX6_stands 66 = .ok (.iload 4, 2) := by decide +kernel
theorem dX6_stands_68 : decode cX6_stands 68 = .ok (.bipush 60, 2) := by decide +kernel
theorem dX6_stands_70 : decode cX6_stands 70 = .ok (.invokevirtual 76, 3) := by decide +kernel
theorem dX6_stands_73 : decode cX6_stands 73 = .ok (.aload_n 0, 1) := by decide +kernel
theorem dX6_stands_74 : decode cX6_stands 74 = .ok (.iload 4, 2) := by decide +kernel
theorem dX6_stands_76 : decode cX6_stands 76 = .ok (.iload_n 1, 1) := by decide +kernel
theorem dX6_stands_77 : decode cX6_stands 77 = .ok (.iconst 0, 1) := by decide +kernel
theorem dX6_stands_78 : decode cX6_stands 78 = .ok (.invokevirtual 76, 3) := by decide +kernel
end
section
theorem dX6_stands_81 : decode cX6_stands 81 = .ok (.iload_n 2, 1) := by decide +kernel
theorem dX6_stands_82 : decode cX6_stands 82 = .ok (.iconst 1, 1) := by decide +kernel
theorem dX6_stands_83 : decode cX6_stands 83 = .ok (.iadd, 1) := by decide +kernel
theorem dX6_stands_84 : decode cX6_stands 84 = .ok (.aload_n 0, 1) := by decide +kernel
theorem dX6_stands_85 : decode cX6_stands 85 = .ok (.getfield 54, 3) := by decide +kernel
theorem dX6_stands_88 : decode cX6_stands 88 = .ok (.if_icmp .ge 42, 3) := by decide +kernel
theorem dX6_stands_91 : decode cX6_stands 91 = .ok (.aload_n 0, 1) := by decide +kernel
theorem dX6_stands_92 : decode cX6_stands 92 = .ok (.iload 4, 2) := by decide +kernel
theorem dX6_stands_94 : decode cX6_stands 94 = .ok (.iload_n 2, 1) := by decide +kernel
theorem dX6_stands_95 : decode cX6_stands 95 = .ok (.iconst 1, 1) := by decide +kernel
theorem dX6_stands_96 : decode cX6_stands 96 = .ok (.iadd, 1) := by decide +kernel
theorem dX6_stands_97 : decode cX6_stands 97 = .ok (.iload_n 3, 1) := by decide +kernel
theorem dX6_stands_98 : decode cX6_stands 98 = .ok (.invokestatic 81, 3) := by decide +kernel
theorem dX6_stands_101 : decode cX6_stands 101 = .ok (.aload_n 0, 1) := by decide +kernel
theorem dX6_stands_102 : decode cX6_stands 102 = .ok (.getfield 13, 3) := by decide +kernel
theorem dX6_stands_105 : decode cX6_stands 105 = .ok (.iload_n 2, 1) := by decide +kernel
theorem dX6_stands_106 : decode cX6_stands 106 = .ok (.iaload, 1) := by decide +kernel
theorem dX6_stands_107 : decode cX6_stands 107 = .ok (.invokevirtual 76, 3) := by decide +kernel
theorem dX6_stands_110 : decode cX6_stands 110 = .ok (.aload_n 0, 1) := by decide +kernel
theorem dX6_stands_111 : decode cX6_stands 111 = .ok (.iload_n 2, 1) := by decide +kernel
theorem dX6_stands_112 : decode cX6_stands 112 = .ok (.iconst 1, 1) := by decide +kernel
theorem dX6_stands_113 : decode cX6_stands 113 = .ok (.iadd, 1) := by decide +kernel
theorem dX6_stands_114 : decode cX6_stands 114 = .ok (.iload_n 3, 1) := by decide +kernel
theorem dX6_stands_115 : decode cX6_stands 115 = .ok (.invokestatic 81, 3) := by decide +kernel
theorem dX6_stands_118 : decode cX6_stands 118 = .ok (.iload 4, 2) := by decide +kernel
theorem dX6_stands_120 : decode cX6_stands 120 = .ok (.aload_n 0, 1) := by decide +kernel
theorem dX6_stands_121 : decode cX6_stands 121 = .ok (.getfield 9, 3) := by decide +kernel
theorem dX6_stands_124 : decode cX6_stands 124 = .ok (.iload_n 2, 1) := by decide +kernel
theorem dX6_stands_125 : decode cX6_stands 125 = .ok (.iaload, 1) := by decide +kernel
theorem dX6_stands_126 : decode cX6_stands 126 = .ok (.ineg, 1) := by decide +kernel
theorem dX6_stands_127 : decode cX6_stands 127 = .ok (.invokevirtual 76, 3) := by decide +kernel
theorem dX6_stands_130 : decode cX6_stands 130 = .ok (.iload_n 3, 1) := by decide +kernel
theorem dX6_stands_131 : decode cX6_stands 131 = .ok (.iconst 1, 1) := by decide +kernel
theorem dX6_stands_132 : decode cX6_stands 132 = .ok (.iadd, 1) := by decide +kernel
theorem dX6_stands_133 : decode cX6_stands 133 = .ok (.aload_n 0, 1) := by decide +kernel
theorem dX6_stands_134 : decode cX6_stands 134 = .ok (.getfield 50, 3) := by decide +kernel
theorem dX6_stands_137 : decode cX6_stands 137 = .ok (.if_icmp .ge 41, 3) := by decide +kernel
theorem dX6_stands_140 : decode cX6_stands 140 = .ok (.aload_n 0, 1) := by decide +kernel
theorem dX6_stands_141 : decode cX6_stands 141 = .ok (.iload 4, 2) := by decide +kernel
theorem dX6_stands_143 : decode cX6_stands 143 = .ok (.iload_n 2, 1) := by decide +kernel
theorem dX6_stands_144 : decode cX6_stands 144 = .ok (.iload_n 3, 1) := by decide +kernel
theorem dX6_stands_145 : decode cX6_stands 145 = .ok (.iconst 1, 1) := by decide +kernel
theorem dX6_stands_146 : decode cX6_stands 146 = .ok (.iadd, 1) := by decide +kernel
theorem dX6_stands_147 : decode cX6_stands 147 = .ok (.invokestatic 81, 3) := by decide +kernel
theorem dX6_stands_150 : decode cX6_stands 150 = .ok (.aload_n 0, 1) := by decide +kernel
theorem dX6_stands_151 : decode cX6_stands 151 = .ok (.getfield 19, 3) := by decide +kernel
theorem dX6_stands_154 : decode cX6_stands 154 = .ok (.iload_n 3, 1) := by decide +kernel
theorem dX6_stands_155 : decode cX6_stands 155 = .ok (.baload, 1) := by decide +kernel
theorem dX6_stands_156 : decode cX6_stands 156 = .ok (.ifCond .eq 12, 3) := by decide +kernel
theorem dX6_stands_159 : decode cX6_stands 159 = .ok (.aload_n 0, 1) := by decide +kernel
theorem dX6_stands_160 : decode cX6_stands 160 = .ok (.getfield 23, 3) := by decide +kernel
theorem dX6_stands_163 : decode cX6_stands 163 = .ok (.iload_n 3, 1) := by decide +kernel
theorem dX6_stands_164 : decode cX6_stands 164 = .ok (.iaload, 1) := by decide +kernel
theorem dX6_stands_165 : decode cX6_stands 165 = .ok (.goto 4, 3) := by decide +kernel
theorem dX6_stands_168 : decode cX6_stands 168 = .ok (.iconst 0, 1) := by decide +kernel
theorem dX6_stands_169 : decode cX6_stands 169 = .ok (.aload_n 0, 1) := by decide +kernel
theorem dX6_stands_170 : decode cX6_stands 170 = .ok (.getfield 16, 3) := by decide +kernel
theorem dX6_stands_173 : decode cX6_stands 173 = .ok (.iload_n 2, 1) := by decide +kernel
theorem dX6_stands_174 : decode cX6_stands 174 = .ok (.iaload, 1) := by decide +kernel
theorem dX6_stands_175 : decode cX6_stands 175 = .ok (.invokevirtual 85, 3) := by decide +kernel
theorem dX6_stands_178 : decode cX6_stands 178 = .ok (.iinc 3 1, 3) := by decide +kernel
theorem dX6_stands_181 : decode cX6_stands 181 = .ok (.goto (-132), 3) := by decide +kernel
theorem dX6_stands_184 : decode cX6_stands 184 = .ok (.iinc 2 1, 3) := by decide +kernel
theorem dX6_stands_187 : decode cX6_stands 187 = .ok (.goto (-148), 3) := by decide +kernel
theorem dX6_stands_190 : decode cX6_stands 190 = .ok (.iconst 0, 1) := by decide +kernel
theorem dX6_stands_191 : decode cX6_stands 191 = .ok (.istore_n 2, 1) := by decide +kernel
theorem dX6_stands_192 : decode cX6_stands 192 = .ok (.iload_n 2, 1) := by decide +kernel
theorem dX6_stands_193 : decode cX6_stands 193 = .ok (.bipush 33, 2) := by decide +kernel
theorem dX6_stands_195 : decode cX6_stands 195 = .ok (.if_icmp .ge 106, 3) := by decide +kernel
theorem dX6_stands_198 : decode cX6_stands 198 = .ok (.iconst 0, 1) := by decide +kernel
theorem dX6_stands_199 : decode cX6_stands 199 = .ok (.istore_n 3, 1) := by decide +kernel
theorem dX6_stands_200 : decode cX6_stands 200 = .ok (.iload_n 3, 1) := by decide +kernel
theorem dX6_stands_201 : decode cX6_stands 201 = .ok (.bipush 33, 2) := by decide +kernel
theorem dX6_stands_203 : decode cX6_stands 203 = .ok (.if_icmp .ge 92, 3) := by decide +kernel
theorem dX6_stands_206 : decode cX6_stands 206 = .ok (.aload_n 0, 1) := by decide +kernel
theorem dX6_stands_207 : decode cX6_stands 207 = .ok (.getfield 41, 3) := by decide +kernel
theorem dX6_stands_210 : decode cX6_stands 210 = .ok (.bipush 33, 2) := by decide +kernel
theorem dX6_stands_212 : decode cX6_stands 212 = .ok (.iload_n 3, 1) := by decide +kernel
theorem dX6_stands_213 : decode cX6_stands 213 = .ok (.imul, 1) := by decide +kernel
theorem dX6_stands_214 : decode cX6_stands 214 = .ok (.iload_n 2, 1) := by decide +kernel
theorem dX6_stands_215 : decode cX6_stands 215 = .ok (.iadd, 1) := by decide +kernel
theorem dX6_stands_216 : decode cX6_stands 216 = .ok (.iaload, 1) := by decide +kernel
theorem dX6_stands_217 : decode cX6_stands 217 = .ok (.ldc 89, 2) := by decide +kernel
theorem dX6_stands_219 : decode cX6_stands 219 = .ok (.if_icmp .lt 6, 3) := by decide +kernel
theorem dX6_stands_222 : decode cX6_stands 222 = .ok (.goto 67, 3) := by decide +kernel
theorem dX6_stands_225 : decode cX6_stands 225 = .ok (.iconst 0, 1) := by decide +kernel
theorem dX6_stands_226 : decode cX6_stands 226 = .ok (.istore 4, 2) := by decide +kernel
theorem dX6_stands_228 : decode cX6_stands 228 = .ok (.iload 4, 2) := by decide +kernel
theorem dX6_stands_230 : decode cX6_stands 230 = .ok (.bipush 33, 2) := by decide +kernel
theorem dX6_stands_232 : decode cX6_stands 232 = .ok (.if_icmp .ge 57, 3) := by decide +kernel
theorem dX6_stands_235 : decode cX6_stands 235 = .ok (.aload_n 0, 1) := by decide +kernel
theorem dX6_stands_236 : decode cX6_stands 236 = .ok (.getfield 41, 3) := by decide +kernel
theorem dX6_stands_239 : decode cX6_stands 239 = .ok (.bipush 33, 2) := by decide +kernel
theorem dX6_stands_241 : decode cX6_stands 241 = .ok (.iload_n 2, 1) := by decide +kernel
theorem dX6_stands_242 : decode cX6_stands 242 = .ok (.imul, 1) := by decide +kernel
theorem dX6_stands_243 : decode cX6_stands 243 = .ok (.iload 4, 2) := by decide +kernel
theorem dX6_stands_245 : decode cX6_stands 245 = .ok (.iadd, 1) := by decide +kernel
theorem dX6_stands_246 : decode cX6_stands 246 = .ok (.iaload, 1) := by decide +kernel
theorem dX6_stands_247 : decode cX6_stands 247 = .ok (.ldc 89, 2) := by decide +kernel
theorem dX6_stands_249 : decode cX6_stands 249 = .ok (.if_icmp .ge 34, 3) := by decide +kernel
theorem dX6_stands_252 : decode cX6_stands 252 = .ok (.aload_n 0, 1) := by decide +kernel
theorem dX6_stands_253 : decode cX6_stands 253 = .ok (.iload_n 3, 1) := by decide +kernel
theorem dX6_stands_254 : decode cX6_stands 254 = .ok (.iload 4, 2) := by decide +kernel
theorem dX6_stands_256 : decode cX6_stands 256 = .ok (.aload_n 0, 1) := by decide +kernel
theorem dX6_stands_257 : decode cX6_stands 257 = .ok (.getfield 41, 3) := by decide +kernel
theorem dX6_stands_260 : decode cX6_stands 260 = .ok (.bipush 33, 2) := by decide +kernel
theorem dX6_stands_262 : decode cX6_stands 262 = .ok (.iload_n 3, 1) := by decide +kernel
theorem dX6_stands_263 : decode cX6_stands 263 = .ok (.imul, 1) := by decide +kernel
theorem dX6_stands_264 : decode cX6_stands 264 = .ok (.iload_n 2, 1) := by decide +kernel
theorem dX6_stands_265 : decode cX6_stands 265 = .ok (.iadd, 1) := by decide +kernel
theorem dX6_stands_266 : decode cX6_stands 266 = .ok (.iaload, 1) := by decide +kernel
theorem dX6_stands_267 : decode cX6_stands 267 = .ok (.aload_n 0, 1) := by decide +kernel
theorem dX6_stands_268 : decode cX6_stands 268 = .ok (.getfield 41, 3) := by decide +kernel
theorem dX6_stands_271 : decode cX6_stands 271 = .ok (.bipush 33, 2) := by decide +kernel
theorem dX6_stands_273 : decode cX6_stands 273 = .ok (.iload_n 2, 1) := by decide +kernel
theorem dX6_stands_274 : decode cX6_stands 274 = .ok (.imul, 1) := by decide +kernel
theorem dX6_stands_275 : decode cX6_stands 275 = .ok (.iload 4, 2) := by decide +kernel
theorem dX6_stands_277 : decode cX6_stands 277 = .ok (.iadd, 1) := by decide +kernel
theorem dX6_stands_278 : decode cX6_stands 278 = .ok (.iaload, 1) := by decide +kernel
theorem dX6_stands_279 : decode cX6_stands 279 = .ok (.iadd, 1) := by decide +kernel
theorem dX6_stands_280 : decode cX6_stands 280 = .ok (.invokevirtual 76, 3) := by decide +kernel
theorem dX6_stands_283 : decode cX6_stands 283 = .ok (.iinc 4 1, 3) := by decide +kernel
theorem dX6_stands_286 : decode cX6_stands 286 = .ok (.goto (-58), 3) := by decide +kernel
theorem dX6_stands_289 : decode cX6_stands 289 = .ok (.iinc 3 1, 3) := by decide +kernel
theorem dX6_stands_292 : decode cX6_stands 292 = .ok (.goto (-92), 3) := by decide +kernel
theorem dX6_stands_295 : decode cX6_stands 295 = .ok (.iinc 2 1, 3) := by decide +kernel
theorem dX6_stands_298 : decode cX6_stands 298 = .ok (.goto (-106), 3) := by decide +kernel
theorem dX6_stands_301 : decode cX6_stands 301 = .ok (.iconst 0, 1) := by decide +kernel
theorem dX6_stands_302 : decode cX6_stands 302 = .ok (.istore_n 2, 1) := by decide +kernel
theorem dX6_stands_303 : decode cX6_stands 303 = .ok (.iload_n 2, 1) := by decide +kernel
theorem dX6_stands_304 : decode cX6_stands 304 = .ok (.sipush 1089, 3) := by decide +kernel
theorem dX6_stands_307 : decode cX6_stands 307 = .ok (.if_icmp .ge 21, 3) := by decide +kernel
theorem dX6_stands_310 : decode cX6_stands 310 = .ok (.aload_n 0, 1) := by decide +kernel
theorem dX6_stands_311 : decode cX6_stands 311 = .ok (.getfield 44, 3) := by decide +kernel
theorem dX6_stands_314 : decode cX6_stands 314 = .ok (.iload_n 2, 1) := by decide +kernel
theorem dX6_stands_315 : decode cX6_stands 315 = .ok (.aload_n 0, 1) := by decide +kernel
theorem dX6_stands_316 : decode cX6_stands 316 = .ok (.getfield 41, 3) := by decide +kernel
theorem dX6_stands_319 : decode cX6_stands 319 = .ok (.iload_n 2, 1) := by decide +kernel
theorem dX6_stands_320 : decode cX6_stands 320 = .ok (.iaload, 1) := by decide +kernel
theorem dX6_stands_321 : decode cX6_stands 321 = .ok (.iastore, 1) := by decide +kernel
theorem dX6_stands_322 : decode cX6_stands 322 = .ok (.iinc 2 1, 3) := by decide +kernel
theorem dX6_stands_325 : decode cX6_stands 325 = .ok (.goto (-22), 3) := by decide +kernel
theorem dX6_stands_328 : decode cX6_stands 328 = .ok (.iconst 0, 1) := by decide +kernel
theorem dX6_stands_329 : decode cX6_stands 329 = .ok (.istore_n 2, 1) := by decide +kernel
theorem dX6_stands_330 : decode cX6_stands 330 = .ok (.iload_n 2, 1) := by decide +kernel
theorem dX6_stands_331 : decode cX6_stands 331 = .ok (.bipush 33, 2) := by decide +kernel
theorem dX6_stands_333 : decode cX6_stands 333 = .ok (.if_icmp .ge 25, 3) := by decide +kernel
theorem dX6_stands_336 : decode cX6_stands 336 = .ok (.aload_n 0, 1) := by decide +kernel
theorem dX6_stands_337 : decode cX6_stands 337 = .ok (.getfield 41, 3) := by decide +kernel
theorem dX6_stands_340 : decode cX6_stands 340 = .ok (.bipush 33, 2) := by decide +kernel
theorem dX6_stands_342 : decode cX6_stands 342 = .ok (.iload_n 2, 1) := by decide +kernel
theorem dX6_stands_343 : decode cX6_stands 343 = .ok (.imul, 1) := by decide +kernel
theorem dX6_stands_344 : decode cX6_stands 344 = .ok (.iload_n 2, 1) := by decide +kernel
theorem dX6_stands_345 : decode cX6_stands 345 = .ok (.iadd, 1) := by decide +kernel
theorem dX6_stands_346 : decode cX6_stands 346 = .ok (.iaload, 1) := by decide +kernel
theorem dX6_stands_347 : decode cX6_stands 347 = .ok (.ifCond .ge 5, 3) := by decide +kernel
theorem dX6_stands_350 : decode cX6_stands 350 = .ok (.iconst 0, 1) := by decide +kernel
theorem dX6_stands_351 : decode cX6_stands 351 = .ok (.ireturn, 1) := by decide +kernel
theorem dX6_stands_352 : decode cX6_stands 352 = .ok (.iinc 2 1, 3) := by decide +kernel
theorem dX6_stands_355 : decode cX6_stands 355 = .ok (.goto (-25), 3) := by decide +kernel
theorem dX6_stands_358 : decode cX6_stands 358 = .ok (.iconst 1, 1) := by decide +kernel
theorem dX6_stands_359 : decode cX6_stands 359 = .ok (.ireturn, 1) := by decide +kernel
theorem dX6_adds_0 : decode cX6_adds 0 = .ok (.aload_n 0, 1) := by decide +kernel
theorem dX6_adds_1 : decode cX6_adds 1 = .ok (.getfield 41, 3) := by decide +kernel
theorem dX6_adds_4 : decode cX6_adds 4 = .ok (.bipush 33, 2) := by decide +kernel
theorem dX6_adds_6 : decode cX6_adds 6 = .ok (.iload_n 1, 1) := by decide +kernel
theorem dX6_adds_7 : decode cX6_adds 7 = .ok (.imul, 1) := by decide +kernel
theorem dX6_adds_8 : decode cX6_adds 8 = .ok (.iload_n 2, 1) := by decide +kernel
theorem dX6_adds_9 : decode cX6_adds 9 = .ok (.iadd, 1) := by decide +kernel
theorem dX6_adds_10 : decode cX6_adds 10 = .ok (.iaload, 1) := by decide +kernel
theorem dX6_adds_11 : decode cX6_adds 11 = .ok (.iload_n 3, 1) := by decide +kernel
theorem dX6_adds_12 : decode cX6_adds 12 = .ok (.if_icmp .gt 5, 3) := by decide +kernel
theorem dX6_adds_15 : decode cX6_adds 15 = .ok (.iconst 1, 1) := by decide +kernel
theorem dX6_adds_16 : decode cX6_adds 16 = .ok (.ireturn, 1) := by decide +kernel
theorem dX6_adds_17 : decode cX6_adds 17 = .ok (.aload_n 0, 1) := by decide +kernel
theorem dX6_adds_18 : decode cX6_adds 18 = .ok (.getfield 41, 3) := by decide +kernel
theorem dX6_adds_21 : decode cX6_adds 21 = .ok (.bipush 33, 2) := by decide +kernel
theorem dX6_adds_23 : decode cX6_adds 23 = .ok (.iload_n 2, 1) := by decide +kernel
theorem dX6_adds_24 : decode cX6_adds 24 = .ok (.imul, 1) := by decide +kernel
theorem dX6_adds_25 : decode cX6_adds 25 = .ok (.iload_n 1, 1) := by decide +kernel
theorem dX6_adds_26 : decode cX6_adds 26 = .ok (.iadd, 1) := by decide +kernel
theorem dX6_adds_27 : decode cX6_adds 27 = .ok (.iaload, 1) := by decide +kernel
theorem dX6_adds_28 : decode cX6_adds 28 = .ok (.iload_n 3, 1) := by decide +kernel
theorem dX6_adds_29 : decode cX6_adds 29 = .ok (.iadd, 1) := by decide +kernel
theorem dX6_adds_30 : decode cX6_adds 30 = .ok (.ifCond .ge 5, 3) := by decide +kernel
theorem dX6_adds_33 : decode cX6_adds 33 = .ok (.iconst 0, 1) := by decide +kernel
theorem dX6_adds_34 : decode cX6_adds 34 = .ok (.ireturn, 1) := by decide +kernel
theorem dX6_adds_35 : decode cX6_adds 35 = .ok (.iconst 0, 1) := by decide +kernel
theorem dX6_adds_36 : decode cX6_adds 36 = .ok (.istore 4, 2) := by decide +kernel
theorem dX6_adds_38 : decode cX6_adds 38 = .ok (.iload 4, 2) := by decide +kernel
theorem dX6_adds_40 : decode cX6_adds 40 = .ok (.bipush 33, 2) := by decide +kernel
theorem dX6_adds_42 : decode cX6_adds 42 = .ok (.if_icmp .ge 91, 3) := by decide +kernel
theorem dX6_adds_45 : decode cX6_adds 45 = .ok (.aload_n 0, 1) := by decide +kernel
theorem dX6_adds_46 : decode cX6_adds 46 = .ok (.getfield 41, 3) := by decide +kernel
theorem dX6_adds_49 : decode cX6_adds 49 = .ok (.bipush 33, 2) := by decide +kernel
theorem dX6_adds_51 : decode cX6_adds 51 = .ok (.iload 4, 2) := by decide +kernel
theorem dX6_adds_53 : decode cX6_adds 53 = .ok (.imul, 1) := by decide +kernel
theorem dX6_adds_54 : decode cX6_adds 54 = .ok (.iload_n 1, 1) := by decide +kernel
theorem dX6_adds_55 : decode cX6_adds 55 = .ok (.iadd, 1) := by decide +kernel
theorem dX6_adds_56 : decode cX6_adds 56 = .ok (.iaload, 1) := by decide +kernel
theorem dX6_adds_57 : decode cX6_adds 57 = .ok (.istore 5, 2) := by decide +kernel
theorem dX6_adds_59 : decode cX6_adds 59 = .ok (.iload 5, 2) := by decide +kernel
theorem dX6_adds_61 : decode cX6_adds 61 = .ok (.ldc 89, 2) := by decide +kernel
theorem dX6_adds_63 : decode cX6_adds 63 = .ok (.if_icmp .lt 6, 3) := by decide +kernel
theorem dX6_adds_66 : decode cX6_adds 66 = .ok (.goto 61, 3) := by decide +kernel
theorem dX6_adds_69 : decode cX6_adds 69 = .ok (.iconst 0, 1) := by decide +kernel
theorem dX6_adds_70 : decode cX6_adds 70 = .ok (.istore 6, 2) := by decide +kernel
theorem dX6_adds_72 : decode cX6_adds 72 = .ok (.iload 6, 2) := by decide +kernel
theorem dX6_adds_74 : decode cX6_adds 74 = .ok (.bipush 33, 2) := by decide +kernel
theorem dX6_adds_76 : decode cX6_adds 76 = .ok (.if_icmp .ge 51, 3) := by decide +kernel
theorem dX6_adds_79 : decode cX6_adds 79 = .ok (.aload_n 0, 1) := by decide +kernel
theorem dX6_adds_80 : decode cX6_adds 80 = .ok (.getfield 41, 3) := by decide +kernel
theorem dX6_adds_83 : decode cX6_adds 83 = .ok (.bipush 33, 2) := by decide +kernel
theorem dX6_adds_85 : decode cX6_adds 85 = .ok (.iload_n 2, 1) := by decide +kernel
theorem dX6_adds_86 : decode cX6_adds 86 = .ok (.imul, 1) := by decide +kernel
theorem dX6_adds_87 : decode cX6_adds 87 = .ok (.iload 6, 2) := by decide +kernel
theorem dX6_adds_89 : decode cX6_adds 89 = .ok (.iadd, 1) := by decide +kernel
theorem dX6_adds_90 : decode cX6_adds 90 = .ok (.iaload, 1) := by decide +kernel
theorem dX6_adds_91 : decode cX6_adds 91 = .ok (.ldc 89, 2) := by decide +kernel
theorem dX6_adds_93 : decode cX6_adds 93 = .ok (.if_icmp .ge 28, 3) := by decide +kernel
theorem dX6_adds_96 : decode cX6_adds 96 = .ok (.aload_n 0, 1) := by decide +kernel
theorem dX6_adds_97 : decode cX6_adds 97 = .ok (.iload 4, 2) := by decide +kernel
theorem dX6_adds_99 : decode cX6_adds 99 = .ok (.iload 6, 2) := by decide +kernel
theorem dX6_adds_101 : decode cX6_adds 101 = .ok (.iload 5, 2) := by decide +kernel
theorem dX6_adds_103 : decode cX6_adds 103 = .ok (.iload_n 3, 1) := by decide +kernel
theorem dX6_adds_104 : decode cX6_adds 104 = .ok (.iadd, 1) := by decide +kernel
theorem dX6_adds_105 : decode cX6_adds 105 = .ok (.aload_n 0, 1) := by decide +kernel
theorem dX6_adds_106 : decode cX6_adds 106 = .ok (.getfield 41, 3) := by decide +kernel
theorem dX6_adds_109 : decode cX6_adds 109 = .ok (.bipush 33, 2) := by decide +kernel
theorem dX6_adds_111 : decode cX6_adds 111 = .ok (.iload_n 2, 1) := by decide +kernel
theorem dX6_adds_112 : decode cX6_adds 112 = .ok (.imul, 1) := by decide +kernel
theorem dX6_adds_113 : decode cX6_adds 113 = .ok (.iload 6, 2) := by decide +kernel
theorem dX6_adds_115 : decode cX6_adds 115 = .ok (.iadd, 1) := by decide +kernel
theorem dX6_adds_116 : decode cX6_adds 116 = .ok (.iaload, 1) := by decide +kernel
theorem dX6_adds_117 : decode cX6_adds 117 = .ok (.iadd, 1) := by decide +kernel
theorem dX6_adds_118 : decode cX6_adds 118 = .ok (.invokevirtual 76, 3) := by decide +kernel
theorem dX6_adds_121 : decode cX6_adds 121 = .ok (.iinc 6 1, 3) := by decide +kernel
theorem dX6_adds_124 : decode cX6_adds 124 = .ok (.goto (-52), 3) := by decide +kernel
theorem dX6_adds_127 : decode cX6_adds 127 = .ok (.iinc 4 1, 3) := by decide +kernel
theorem dX6_adds_130 : decode cX6_adds 130 = .ok (.goto (-92), 3) := by decide +kernel
theorem dX6_adds_133 : decode cX6_adds 133 = .ok (.iconst 1, 1) := by decide +kernel
theorem dX6_adds_134 : decode cX6_adds 134 = .ok (.ireturn, 1) := by decide +kernel
theorem dX6_addsWithin_0 : decode cX6_addsWithin 0 = .ok (.aload_n 0, 1) := by decide +kernel
theorem dX6_addsWithin_1 : decode cX6_addsWithin 1 = .ok (.iload_n 1, 1) := by decide +kernel
theorem dX6_addsWithin_2 : decode cX6_addsWithin 2 = .ok (.iload_n 2, 1) := by decide +kernel
theorem dX6_addsWithin_3 : decode cX6_addsWithin 3 = .ok (.iload_n 3, 1) := by decide +kernel
theorem dX6_addsWithin_4 : decode cX6_addsWithin 4 = .ok (.iload 4, 2) := by decide +kernel
theorem dX6_addsWithin_6 : decode cX6_addsWithin 6 = .ok (.iadd, 1) := by decide +kernel
theorem dX6_addsWithin_7 : decode cX6_addsWithin 7 = .ok (.invokevirtual 90, 3) := by decide +kernel
theorem dX6_addsWithin_10 : decode cX6_addsWithin 10 = .ok (.ifCond .eq 20, 3) := by decide +kernel
theorem dX6_addsWithin_13 : decode cX6_addsWithin 13 = .ok (.aload_n 0, 1) := by decide +kernel
theorem dX6_addsWithin_14 : decode cX6_addsWithin 14 = .ok (.iload_n 2, 1) := by decide +kernel
theorem dX6_addsWithin_15 : decode cX6_addsWithin 15 = .ok (.iload_n 1, 1) := by decide +kernel
theorem dX6_addsWithin_16 : decode cX6_addsWithin 16 = .ok (.iload 4, 2) := by decide +kernel
theorem dX6_addsWithin_18 : decode cX6_addsWithin 18 = .ok (.iload_n 3, 1) := by decide +kernel
theorem dX6_addsWithin_19 : decode cX6_addsWithin 19 = .ok (.isub, 1) := by decide +kernel
theorem dX6_addsWithin_20 : decode cX6_addsWithin 20 = .ok (.invokevirtual 90, 3) := by decide +kernel
theorem dX6_addsWithin_23 : decode cX6_addsWithin 23 = .ok (.ifCond .eq 7, 3) := by decide +kernel
theorem dX6_addsWithin_26 : decode cX6_addsWithin 26 = .ok (.iconst 1, 1) := by decide +kernel
theorem dX6_addsWithin_27 : decode cX6_addsWithin 27 = .ok (.goto 4, 3) := by decide +kernel
theorem dX6_addsWithin_30 : decode cX6_addsWithin 30 = .ok (.iconst 0, 1) := by decide +kernel
theorem dX6_addsWithin_31 : decode cX6_addsWithin 31 = .ok (.ireturn, 1) := by decide +kernel
theorem dX6_sees_0 : decode cX6_sees 0 = .ok (.bipush 32, 2) := by decide +kernel
theorem dX6_sees_2 : decode cX6_sees 2 = .ok (.istore_n 2, 1) := by decide +kernel
theorem dX6_sees_3 : decode cX6_sees 3 = .ok (.aload_n 0, 1) := by decide +kernel
theorem dX6_sees_4 : decode cX6_sees 4 = .ok (.getfield 29, 3) := by decide +kernel
theorem dX6_sees_7 : decode cX6_sees 7 = .ok (.iload_n 1, 1) := by decide +kernel
theorem dX6_sees_8 : decode cX6_sees 8 = .ok (.iaload, 1) := by decide +kernel
theorem dX6_sees_9 : decode cX6_sees 9 = .ok (.bipush 100, 2) := by decide +kernel
theorem dX6_sees_11 : decode cX6_sees 11 = .ok (.idiv, 1) := by decide +kernel
theorem dX6_sees_12 : decode cX6_sees 12 = .ok (.aload_n 0, 1) := by decide +kernel
theorem dX6_sees_13 : decode cX6_sees 13 = .ok (.getfield 29, 3) := by decide +kernel
theorem dX6_sees_16 : decode cX6_sees 16 = .ok (.iload_n 1, 1) := by decide +kernel
theorem dX6_sees_17 : decode cX6_sees 17 = .ok (.iaload, 1) := by decide +kernel
theorem dX6_sees_18 : decode cX6_sees 18 = .ok (.bipush 10, 2) := by decide +kernel
theorem dX6_sees_20 : decode cX6_sees 20 = .ok (.idiv, 1) := by decide +kernel
theorem dX6_sees_21 : decode cX6_sees 21 = .ok (.bipush 10, 2) := by decide +kernel
theorem dX6_sees_23 : decode cX6_sees 23 = .ok (.irem, 1) := by decide +kernel
theorem dX6_sees_24 : decode cX6_sees 24 = .ok (.invokestatic 81, 3) := by decide +kernel
theorem dX6_sees_27 : decode cX6_sees 27 = .ok (.istore_n 3, 1) := by decide +kernel
theorem dX6_sees_28 : decode cX6_sees 28 = .ok (.aload_n 0, 1) := by decide +kernel
theorem dX6_sees_29 : decode cX6_sees 29 = .ok (.getfield 29, 3) := by decide +kernel
theorem dX6_sees_32 : decode cX6_sees 32 = .ok (.iload_n 1, 1) := by decide +kernel
theorem dX6_sees_33 : decode cX6_sees 33 = .ok (.iaload, 1) := by decide +kernel
theorem dX6_sees_34 : decode cX6_sees 34 = .ok (.bipush 10, 2) := by decide +kernel
theorem dX6_sees_36 : decode cX6_sees 36 = .ok (.irem, 1) := by decide +kernel
theorem dX6_sees_37 : decode cX6_sees 37 = .ok (.tableswitch 73 0 2 #[27, 46, 60], 27) := by decide +kernel
theorem dX6_sees_64 : decode cX6_sees 64 = .ok (.aload_n 0, 1) := by decide +kernel
theorem dX6_sees_65 : decode cX6_sees 65 = .ok (.iload_n 2, 1) := by decide +kernel
theorem dX6_sees_66 : decode cX6_sees 66 = .ok (.iload_n 3, 1) := by decide +kernel
theorem dX6_sees_67 : decode cX6_sees 67 = .ok (.aload_n 0, 1) := by decide +kernel
theorem dX6_sees_68 : decode cX6_sees 68 = .ok (.getfield 32, 3) := by decide +kernel
theorem dX6_sees_71 : decode cX6_sees 71 = .ok (.iload_n 1, 1) := by decide +kernel
theorem dX6_sees_72 : decode cX6_sees 72 = .ok (.iaload, 1) := by decide +kernel
theorem dX6_sees_73 : decode cX6_sees 73 = .ok (.aload_n 0, 1) := by decide +kernel
theorem dX6_sees_74 : decode cX6_sees 74 = .ok (.getfield 35, 3) := by decide +kernel
theorem dX6_sees_77 : decode cX6_sees 77 = .ok (.iload_n 1, 1) := by decide +kernel
theorem dX6_sees_78 : decode cX6_sees 78 = .ok (.iaload, 1) := by decide +kernel
theorem dX6_sees_79 : decode cX6_sees 79 = .ok (.invokevirtual 93, 3) := by decide +kernel
theorem dX6_sees_82 : decode cX6_sees 82 = .ok (.ireturn, 1) := by decide +kernel
theorem dX6_sees_83 : decode cX6_sees 83 = .ok (.aload_n 0, 1) := by decide +kernel
theorem dX6_sees_84 : decode cX6_sees 84 = .ok (.iload_n 3, 1) := by decide +kernel
theorem dX6_sees_85 : decode cX6_sees 85 = .ok (.iload_n 2, 1) := by decide +kernel
theorem dX6_sees_86 : decode cX6_sees 86 = .ok (.aload_n 0, 1) := by decide +kernel
theorem dX6_sees_87 : decode cX6_sees 87 = .ok (.getfield 32, 3) := by decide +kernel
theorem dX6_sees_90 : decode cX6_sees 90 = .ok (.iload_n 1, 1) := by decide +kernel
theorem dX6_sees_91 : decode cX6_sees 91 = .ok (.iaload, 1) := by decide +kernel
theorem dX6_sees_92 : decode cX6_sees 92 = .ok (.ineg, 1) := by decide +kernel
theorem dX6_sees_93 : decode cX6_sees 93 = .ok (.invokevirtual 90, 3) := by decide +kernel
theorem dX6_sees_96 : decode cX6_sees 96 = .ok (.ireturn, 1) := by decide +kernel
theorem dX6_sees_97 : decode cX6_sees 97 = .ok (.aload_n 0, 1) := by decide +kernel
theorem dX6_sees_98 : decode cX6_sees 98 = .ok (.iload_n 2, 1) := by decide +kernel
theorem dX6_sees_99 : decode cX6_sees 99 = .ok (.iload_n 3, 1) := by decide +kernel
theorem dX6_sees_100 : decode cX6_sees 100 = .ok (.aload_n 0, 1) := by decide +kernel
theorem dX6_sees_101 : decode cX6_sees 101 = .ok (.getfield 32, 3) := by decide +kernel
theorem dX6_sees_104 : decode cX6_sees 104 = .ok (.iload_n 1, 1) := by decide +kernel
theorem dX6_sees_105 : decode cX6_sees 105 = .ok (.iaload, 1) := by decide +kernel
theorem dX6_sees_106 : decode cX6_sees 106 = .ok (.invokevirtual 90, 3) := by decide +kernel
theorem dX6_sees_109 : decode cX6_sees 109 = .ok (.ireturn, 1) := by decide +kernel
theorem dX6_sees_110 : decode cX6_sees 110 = .ok (.aload_n 0, 1) := by decide +kernel
theorem dX6_sees_111 : decode cX6_sees 111 = .ok (.iload_n 3, 1) := by decide +kernel
theorem dX6_sees_112 : decode cX6_sees 112 = .ok (.iload_n 3, 1) := by decide +kernel
theorem dX6_sees_113 : decode cX6_sees 113 = .ok (.iconst 1, 1) := by decide +kernel
theorem dX6_sees_114 : decode cX6_sees 114 = .ok (.iadd, 1) := by decide +kernel
theorem dX6_sees_115 : decode cX6_sees 115 = .ok (.aload_n 0, 1) := by decide +kernel
theorem dX6_sees_116 : decode cX6_sees 116 = .ok (.getfield 32, 3) := by decide +kernel
theorem dX6_sees_119 : decode cX6_sees 119 = .ok (.iload_n 1, 1) := by decide +kernel
theorem dX6_sees_120 : decode cX6_sees 120 = .ok (.iaload, 1) := by decide +kernel
theorem dX6_sees_121 : decode cX6_sees 121 = .ok (.aload_n 0, 1) := by decide +kernel
theorem dX6_sees_122 : decode cX6_sees 122 = .ok (.getfield 35, 3) := by decide +kernel
theorem dX6_sees_125 : decode cX6_sees 125 = .ok (.iload_n 1, 1) := by decide +kernel
theorem dX6_sees_126 : decode cX6_sees 126 = .ok (.iaload, 1) := by decide +kernel
theorem dX6_sees_127 : decode cX6_sees 127 = .ok (.invokevirtual 93, 3) := by decide +kernel
theorem dX6_sees_130 : decode cX6_sees 130 = .ok (.ireturn, 1) := by decide +kernel
theorem dX6_agrees_0 : decode cX6_agrees 0 = .ok (.iconst 0, 1) := by decide +kernel
theorem dX6_agrees_1 : decode cX6_agrees 1 = .ok (.istore_n 2, 1) := by decide +kernel
theorem dX6_agrees_2 : decode cX6_agrees 2 = .ok (.iload_n 2, 1) := by decide +kernel
theorem dX6_agrees_3 : decode cX6_agrees 3 = .ok (.aload_n 0, 1) := by decide +kernel
theorem dX6_agrees_4 : decode cX6_agrees 4 = .ok (.getfield 69, 3) := by decide +kernel
theorem dX6_agrees_7 : decode cX6_agrees 7 = .ok (.if_icmp .ge 31, 3) := by decide +kernel
theorem dX6_agrees_10 : decode cX6_agrees 10 = .ok (.iload_n 1, 1) := by decide +kernel
theorem dX6_agrees_11 : decode cX6_agrees 11 = .ok (.iload_n 2, 1) := by decide +kernel
theorem dX6_agrees_12 : decode cX6_agrees 12 = .ok (.ishr, 1) := by decide +kernel
theorem dX6_agrees_13 : decode cX6_agrees 13 = .ok (.iconst 1, 1) := by decide +kernel
theorem dX6_agrees_14 : decode cX6_agrees 14 = .ok (.iand, 1) := by decide +kernel
theorem dX6_agrees_15 : decode cX6_agrees 15 = .ok (.iconst 1, 1) := by decide +kernel
theorem dX6_agrees_16 : decode cX6_agrees 16 = .ok (.if_icmp .ne 16, 3) := by decide +kernel
theorem dX6_agrees_19 : decode cX6_agrees 19 = .ok (.aload_n 0, 1) := by decide +kernel
theorem dX6_agrees_20 : decode cX6_agrees 20 = .ok (.getfield 47, 3) := by decide +kernel
theorem dX6_agrees_23 : decode cX6_agrees 23 = .ok (.iload_n 2, 1) := by decide +kernel
theorem dX6_agrees_24 : decode cX6_agrees 24 = .ok (.iaload, 1) := by decide +kernel
theorem dX6_agrees_25 : decode cX6_agrees 25 = .ok (.iload_n 1, 1) := by decide +kernel
theorem dX6_agrees_26 : decode cX6_agrees 26 = .ok (.iand, 1) := by decide +kernel
theorem dX6_agrees_27 : decode cX6_agrees 27 = .ok (.ifCond .eq 5, 3) := by decide +kernel
theorem dX6_agrees_30 : decode cX6_agrees 30 = .ok (.iconst 0, 1) := by decide +kernel
theorem dX6_agrees_31 : decode cX6_agrees 31 = .ok (.ireturn, 1) := by decide +kernel
theorem dX6_agrees_32 : decode cX6_agrees 32 = .ok (.iinc 2 1, 3) := by decide +kernel
theorem dX6_agrees_35 : decode cX6_agrees 35 = .ok (.goto (-33), 3) := by decide +kernel
theorem dX6_agrees_38 : decode cX6_agrees 38 = .ok (.iconst 0, 1) := by decide +kernel
theorem dX6_agrees_39 : decode cX6_agrees 39 = .ok (.istore_n 2, 1) := by decide +kernel
theorem dX6_agrees_40 : decode cX6_agrees 40 = .ok (.iload_n 2, 1) := by decide +kernel
theorem dX6_agrees_41 : decode cX6_agrees 41 = .ok (.sipush 1089, 3) := by decide +kernel
theorem dX6_agrees_44 : decode cX6_agrees 44 = .ok (.if_icmp .ge 21, 3) := by decide +kernel
theorem dX6_agrees_47 : decode cX6_agrees 47 = .ok (.aload_n 0, 1) := by decide +kernel
theorem dX6_agrees_48 : decode cX6_agrees 48 = .ok (.getfield 41, 3) := by decide +kernel
theorem dX6_agrees_51 : decode cX6_agrees 51 = .ok (.iload_n 2, 1) := by decide +kernel
theorem dX6_agrees_52 : decode cX6_agrees 52 = .ok (.aload_n 0, 1) := by decide +kernel
theorem dX6_agrees_53 : decode cX6_agrees 53 = .ok (.getfield 44, 3) := by decide +kernel
theorem dX6_agrees_56 : decode cX6_agrees 56 = .ok (.iload_n 2, 1) := by decide +kernel
theorem dX6_agrees_57 : decode cX6_agrees 57 = .ok (.iaload, 1) := by decide +kernel
theorem dX6_agrees_58 : decode cX6_agrees 58 = .ok (.iastore, 1) := by decide +kernel
theorem dX6_agrees_59 : decode cX6_agrees 59 = .ok (.iinc 2 1, 3) := by decide +kernel
theorem dX6_agrees_62 : decode cX6_agrees 62 = .ok (.goto (-22), 3) := by decide +kernel
theorem dX6_agrees_65 : decode cX6_agrees 65 = .ok (.iconst 0, 1) := by decide +kernel
theorem dX6_agrees_66 : decode cX6_agrees 66 = .ok (.istore_n 2, 1) := by decide +kernel
theorem dX6_agrees_67 : decode cX6_agrees 67 = .ok (.iload_n 2, 1) := by decide +kernel
theorem dX6_agrees_68 : decode cX6_agrees 68 = .ok (.aload_n 0, 1) := by decide +kernel
theorem dX6_agrees_69 : decode cX6_agrees 69 = .ok (.getfield 69, 3) := by decide +kernel
theorem dX6_agrees_72 : decode cX6_agrees 72 = .ok (.if_icmp .ge 28, 3) := by decide +kernel
theorem dX6_agrees_75 : decode cX6_agrees 75 = .ok (.iload_n 1, 1) := by decide +kernel
theorem dX6_agrees_76 : decode cX6_agrees 76 = .ok (.iload_n 2, 1) := by decide +kernel
theorem dX6_agrees_77 : decode cX6_agrees 77 = .ok (.ishr, 1) := by decide +kernel
theorem dX6_agrees_78 : decode cX6_agrees 78 = .ok (.iconst 1, 1) := by decide +kernel
theorem dX6_agrees_79 : decode cX6_agrees 79 = .ok (.iand, 1) := by decide +kernel
theorem dX6_agrees_80 : decode cX6_agrees 80 = .ok (.iconst 1, 1) := by decide +kernel
theorem dX6_agrees_81 : decode cX6_agrees 81 = .ok (.if_icmp .ne 13, 3) := by decide +kernel
theorem dX6_agrees_84 : decode cX6_agrees 84 = .ok (.aload_n 0, 1) := by decide +kernel
theorem dX6_agrees_85 : decode cX6_agrees 85 = .ok (.iload_n 2, 1) := by decide +kernel
theorem dX6_agrees_86 : decode cX6_agrees 86 = .ok (.invokevirtual 97, 3) := by decide +kernel
theorem dX6_agrees_89 : decode cX6_agrees 89 = .ok (.ifCond .ne 5, 3) := by decide +kernel
theorem dX6_agrees_92 : decode cX6_agrees 92 = .ok (.iconst 0, 1) := by decide +kernel
theorem dX6_agrees_93 : decode cX6_agrees 93 = .ok (.ireturn, 1) := by decide +kernel
theorem dX6_agrees_94 : decode cX6_agrees 94 = .ok (.iinc 2 1, 3) := by decide +kernel
theorem dX6_agrees_97 : decode cX6_agrees 97 = .ok (.goto (-30), 3) := by decide +kernel
theorem dX6_agrees_100 : decode cX6_agrees 100 = .ok (.iconst 1, 1) := by decide +kernel
theorem dX6_agrees_101 : decode cX6_agrees 101 = .ok (.ireturn, 1) := by decide +kernel
theorem dX6_pairs_0 : decode cX6_pairs 0 = .ok (.iconst 0, 1) := by decide +kernel
theorem dX6_pairs_1 : decode cX6_pairs 1 = .ok (.istore_n 2, 1) := by decide +kernel
theorem dX6_pairs_2 : decode cX6_pairs 2 = .ok (.iload_n 2, 1) := by decide +kernel
theorem dX6_pairs_3 : decode cX6_pairs 3 = .ok (.bipush 10, 2) := by decide +kernel
theorem dX6_pairs_5 : decode cX6_pairs 5 = .ok (.if_icmp .ge 16, 3) := by decide +kernel
theorem dX6_pairs_8 : decode cX6_pairs 8 = .ok (.aload_n 0, 1) := by decide +kernel
theorem dX6_pairs_9 : decode cX6_pairs 9 = .ok (.getfield 47, 3) := by decide +kernel
theorem dX6_pairs_12 : decode cX6_pairs 12 = .ok (.iload_n 2, 1) := by decide +kernel
theorem dX6_pairs_13 : decode cX6_pairs 13 = .ok (.iconst 0, 1) := by decide +kernel
theorem dX6_pairs_14 : decode cX6_pairs 14 = .ok (.iastore, 1) := by decide +kernel
theorem dX6_pairs_15 : decode cX6_pairs 15 = .ok (.iinc 2 1, 3) := by decide +kernel
theorem dX6_pairs_18 : decode cX6_pairs 18 = .ok (.goto (-16), 3) := by decide +kernel
theorem dX6_pairs_21 : decode cX6_pairs 21 = .ok (.iconst 0, 1) := by decide +kernel
theorem dX6_pairs_22 : decode cX6_pairs 22 = .ok (.istore_n 2, 1) := by decide +kernel
theorem dX6_pairs_23 : decode cX6_pairs 23 = .ok (.iload_n 2, 1) := by decide +kernel
theorem dX6_pairs_24 : decode cX6_pairs 24 = .ok (.aload_n 0, 1) := by decide +kernel
theorem dX6_pairs_25 : decode cX6_pairs 25 = .ok (.getfield 69, 3) := by decide +kernel
theorem dX6_pairs_28 : decode cX6_pairs 28 = .ok (.if_icmp .ge 79, 3) := by decide +kernel
theorem dX6_pairs_31 : decode cX6_pairs 31 = .ok (.iload_n 2, 1) := by decide +kernel
theorem dX6_pairs_32 : decode cX6_pairs 32 = .ok (.istore_n 3, 1) := by decide +kernel
theorem dX6_pairs_33 : decode cX6_pairs 33 = .ok (.iload_n 3, 1) := by decide +kernel
theorem dX6_pairs_34 : decode cX6_pairs 34 = .ok (.aload_n 0, 1) := by decide +kernel
theorem dX6_pairs_35 : decode cX6_pairs 35 = .ok (.getfield 69, 3) := by decide +kernel
theorem dX6_pairs_38 : decode cX6_pairs 38 = .ok (.if_icmp .ge 63, 3) := by decide +kernel
theorem dX6_pairs_41 : decode cX6_pairs 41 = .ok (.iconst 1, 1) := by decide +kernel
theorem dX6_pairs_42 : decode cX6_pairs 42 = .ok (.iload_n 2, 1) := by decide +kernel
theorem dX6_pairs_43 : decode cX6_pairs 43 = .ok (.ishl, 1) := by decide +kernel
theorem dX6_pairs_44 : decode cX6_pairs 44 = .ok (.iconst 1, 1) := by decide +kernel
theorem dX6_pairs_45 : decode cX6_pairs 45 = .ok (.iload_n 3, 1) := by decide +kernel
theorem dX6_pairs_46 : decode cX6_pairs 46 = .ok (.ishl, 1) := by decide +kernel
theorem dX6_pairs_47 : decode cX6_pairs 47 = .ok (.ior, 1) := by decide +kernel
theorem dX6_pairs_48 : decode cX6_pairs 48 = .ok (.istore 4, 2) := by decide +kernel
theorem dX6_pairs_50 : decode cX6_pairs 50 = .ok (.iload_n 1, 1) := by decide +kernel
theorem dX6_pairs_51 : decode cX6_pairs 51 = .ok (.iload 4, 2) := by decide +kernel
theorem dX6_pairs_53 : decode cX6_pairs 53 = .ok (.iand, 1) := by decide +kernel
theorem dX6_pairs_54 : decode cX6_pairs 54 = .ok (.iload 4, 2) := by decide +kernel
theorem dX6_pairs_56 : decode cX6_pairs 56 = .ok (.if_icmp .ne 39, 3) := by decide +kernel
theorem dX6_pairs_59 : decode cX6_pairs 59 = .ok (.aload_n 0, 1) := by decide +kernel
theorem dX6_pairs_60 : decode cX6_pairs 60 = .ok (.iload 4, 2) := by decide +kernel
theorem dX6_pairs_62 : decode cX6_pairs 62 = .ok (.invokevirtual 100, 3) := by decide +kernel
theorem dX6_pairs_65 : decode cX6_pairs 65 = .ok (.ifCond .eq 6, 3) := by decide +kernel
theorem dX6_pairs_68 : decode cX6_pairs 68 = .ok (.goto 27, 3) := by decide +kernel
theorem dX6_pairs_71 : decode cX6_pairs 71 = .ok (.aload_n 0, 1) := by decide +kernel
theorem dX6_pairs_72 : decode cX6_pairs 72 = .ok (.getfield 47, 3) := by decide +kernel
theorem dX6_pairs_75 : decode cX6_pairs 75 = .ok (.iload_n 2, 1) := by decide +kernel
theorem dX6_pairs_76 : decode cX6_pairs 76 = .ok (.dup2, 1) := by decide +kernel
theorem dX6_pairs_77 : decode cX6_pairs 77 = .ok (.iaload, 1) := by decide +kernel
theorem dX6_pairs_78 : decode cX6_pairs 78 = .ok (.iconst 1, 1) := by decide +kernel
theorem dX6_pairs_79 : decode cX6_pairs 79 = .ok (.iload_n 3, 1) := by decide +kernel
theorem dX6_pairs_80 : decode cX6_pairs 80 = .ok (.ishl, 1) := by decide +kernel
theorem dX6_pairs_81 : decode cX6_pairs 81 = .ok (.ior, 1) := by decide +kernel
theorem dX6_pairs_82 : decode cX6_pairs 82 = .ok (.iastore, 1) := by decide +kernel
theorem dX6_pairs_83 : decode cX6_pairs 83 = .ok (.aload_n 0, 1) := by decide +kernel
theorem dX6_pairs_84 : decode cX6_pairs 84 = .ok (.getfield 47, 3) := by decide +kernel
theorem dX6_pairs_87 : decode cX6_pairs 87 = .ok (.iload_n 3, 1) := by decide +kernel
theorem dX6_pairs_88 : decode cX6_pairs 88 = .ok (.dup2, 1) := by decide +kernel
theorem dX6_pairs_89 : decode cX6_pairs 89 = .ok (.iaload, 1) := by decide +kernel
theorem dX6_pairs_90 : decode cX6_pairs 90 = .ok (.iconst 1, 1) := by decide +kernel
theorem dX6_pairs_91 : decode cX6_pairs 91 = .ok (.iload_n 2, 1) := by decide +kernel
theorem dX6_pairs_92 : decode cX6_pairs 92 = .ok (.ishl, 1) := by decide +kernel
theorem dX6_pairs_93 : decode cX6_pairs 93 = .ok (.ior, 1) := by decide +kernel
theorem dX6_pairs_94 : decode cX6_pairs 94 = .ok (.iastore, 1) := by decide +kernel
theorem dX6_pairs_95 : decode cX6_pairs 95 = .ok (.iinc 3 1, 3) := by decide +kernel
theorem dX6_pairs_98 : decode cX6_pairs 98 = .ok (.goto (-65), 3) := by decide +kernel
theorem dX6_pairs_101 : decode cX6_pairs 101 = .ok (.iinc 2 1, 3) := by decide +kernel
theorem dX6_pairs_104 : decode cX6_pairs 104 = .ok (.goto (-81), 3) := by decide +kernel
theorem dX6_pairs_107 : decode cX6_pairs 107 = .ok (.return_, 1) := by decide +kernel
theorem dX6_bits_0 : decode cX6_bits 0 = .ok (.iconst 0, 1) := by decide +kernel
theorem dX6_bits_1 : decode cX6_bits 1 = .ok (.istore_n 1, 1) := by decide +kernel
theorem dX6_bits_2 : decode cX6_bits 2 = .ok (.iconst 0, 1) := by decide +kernel
theorem dX6_bits_3 : decode cX6_bits 3 = .ok (.istore_n 2, 1) := by decide +kernel
theorem dX6_bits_4 : decode cX6_bits 4 = .ok (.iload_n 2, 1) := by decide +kernel
theorem dX6_bits_5 : decode cX6_bits 5 = .ok (.bipush 10, 2) := by decide +kernel
theorem dX6_bits_7 : decode cX6_bits 7 = .ok (.if_icmp .ge 17, 3) := by decide +kernel
theorem dX6_bits_10 : decode cX6_bits 10 = .ok (.iload_n 1, 1) := by decide +kernel
theorem dX6_bits_11 : decode cX6_bits 11 = .ok (.iload_n 0, 1) := by decide +kernel
theorem dX6_bits_12 : decode cX6_bits 12 = .ok (.iload_n 2, 1) := by decide +kernel
theorem dX6_bits_13 : decode cX6_bits 13 = .ok (.ishr, 1) := by decide +kernel
theorem dX6_bits_14 : decode cX6_bits 14 = .ok (.iconst 1, 1) := by decide +kernel
theorem dX6_bits_15 : decode cX6_bits 15 = .ok (.iand, 1) := by decide +kernel
theorem dX6_bits_16 : decode cX6_bits 16 = .ok (.iadd, 1) := by decide +kernel
theorem dX6_bits_17 : decode cX6_bits 17 = .ok (.istore_n 1, 1) := by decide +kernel
theorem dX6_bits_18 : decode cX6_bits 18 = .ok (.iinc 2 1, 3) := by decide +kernel
theorem dX6_bits_21 : decode cX6_bits 21 = .ok (.goto (-17), 3) := by decide +kernel
theorem dX6_bits_24 : decode cX6_bits 24 = .ok (.iload_n 1, 1) := by decide +kernel
theorem dX6_bits_25 : decode cX6_bits 25 = .ok (.ireturn, 1) := by decide +kernel
theorem dX6_reckons_0 : decode cX6_reckons 0 = .ok (.aload_n 0, 1) := by decide +kernel
theorem dX6_reckons_1 : decode cX6_reckons 1 = .ok (.getfield 61, 3) := by decide +kernel
theorem dX6_reckons_4 : decode cX6_reckons 4 = .ok (.ifCond .ne 11, 3) := by decide +kernel
theorem dX6_reckons_7 : decode cX6_reckons 7 = .ok (.aload_n 0, 1) := by decide +kernel
theorem dX6_reckons_8 : decode cX6_reckons 8 = .ok (.aload_n 0, 1) := by decide +kernel
theorem dX6_reckons_9 : decode cX6_reckons 9 = .ok (.invokevirtual 103, 3) := by decide +kernel
theorem dX6_reckons_12 : decode cX6_reckons 12 = .ok (.putfield 107, 3) := by decide +kernel
theorem dX6_reckons_15 : decode cX6_reckons 15 = .ok (.aload_n 0, 1) := by decide +kernel
theorem dX6_reckons_16 : decode cX6_reckons 16 = .ok (.iconst 1, 1) := by decide +kernel
theorem dX6_reckons_17 : decode cX6_reckons 17 = .ok (.putfield 61, 3) := by decide +kernel
theorem dX6_reckons_20 : decode cX6_reckons 20 = .ok (.aload_n 0, 1) := by decide +kernel
theorem dX6_reckons_21 : decode cX6_reckons 21 = .ok (.getfield 107, 3) := by decide +kernel
theorem dX6_reckons_24 : decode cX6_reckons 24 = .ok (.ireturn, 1) := by decide +kernel
theorem dX6_found_0 : decode cX6_found 0 = .ok (.iconst 0, 1) := by decide +kernel
theorem dX6_found_1 : decode cX6_found 1 = .ok (.istore_n 1, 1) := by decide +kernel
theorem dX6_found_2 : decode cX6_found 2 = .ok (.iconst 0, 1) := by decide +kernel
theorem dX6_found_3 : decode cX6_found 3 = .ok (.istore_n 2, 1) := by decide +kernel
theorem dX6_found_4 : decode cX6_found 4 = .ok (.iload_n 2, 1) := by decide +kernel
theorem dX6_found_5 : decode cX6_found 5 = .ok (.aload_n 0, 1) := by decide +kernel
theorem dX6_found_6 : decode cX6_found 6 = .ok (.getfield 69, 3) := by decide +kernel
theorem dX6_found_9 : decode cX6_found 9 = .ok (.if_icmp .ge 28, 3) := by decide +kernel
theorem dX6_found_12 : decode cX6_found 12 = .ok (.iload_n 1, 1) := by decide +kernel
theorem dX6_found_13 : decode cX6_found 13 = .ok (.aload_n 0, 1) := by decide +kernel
theorem dX6_found_14 : decode cX6_found 14 = .ok (.getfield 38, 3) := by decide +kernel
theorem dX6_found_17 : decode cX6_found 17 = .ok (.iload_n 2, 1) := by decide +kernel
theorem dX6_found_18 : decode cX6_found 18 = .ok (.baload, 1) := by decide +kernel
theorem dX6_found_19 : decode cX6_found 19 = .ok (.ifCond .eq 9, 3) := by decide +kernel
theorem dX6_found_22 : decode cX6_found 22 = .ok (.iconst 1, 1) := by decide +kernel
theorem dX6_found_23 : decode cX6_found 23 = .ok (.iload_n 2, 1) := by decide +kernel
theorem dX6_found_24 : decode cX6_found 24 = .ok (.ishl, 1) := by decide +kernel
theorem dX6_found_25 : decode cX6_found 25 = .ok (.goto 4, 3) := by decide +kernel
theorem dX6_found_28 : decode cX6_found 28 = .ok (.iconst 0, 1) := by decide +kernel
theorem dX6_found_29 : decode cX6_found 29 = .ok (.ior, 1) := by decide +kernel
theorem dX6_found_30 : decode cX6_found 30 = .ok (.istore_n 1, 1) := by decide +kernel
theorem dX6_found_31 : decode cX6_found 31 = .ok (.iinc 2 1, 3) := by decide +kernel
theorem dX6_found_34 : decode cX6_found 34 = .ok (.goto (-30), 3) := by decide +kernel
theorem dX6_found_37 : decode cX6_found 37 = .ok (.aload_n 0, 1) := by decide +kernel
theorem dX6_found_38 : decode cX6_found 38 = .ok (.invokevirtual 110, 3) := by decide +kernel
theorem dX6_found_41 : decode cX6_found 41 = .ok (.ifCond .ne 5, 3) := by decide +kernel
theorem dX6_found_44 : decode cX6_found 44 = .ok (.iconst 0, 1) := by decide +kernel
theorem dX6_found_45 : decode cX6_found 45 = .ok (.ireturn, 1) := by decide +kernel
theorem dX6_found_46 : decode cX6_found 46 = .ok (.aload_n 0, 1) := by decide +kernel
theorem dX6_found_47 : decode cX6_found 47 = .ok (.iload_n 1, 1) := by decide +kernel
theorem dX6_found_48 : decode cX6_found 48 = .ok (.invokevirtual 113, 3) := by decide +kernel
theorem dX6_found_51 : decode cX6_found 51 = .ok (.iconst 0, 1) := by decide +kernel
theorem dX6_found_52 : decode cX6_found 52 = .ok (.istore_n 2, 1) := by decide +kernel
theorem dX6_found_53 : decode cX6_found 53 = .ok (.iload_n 2, 1) := by decide +kernel
theorem dX6_found_54 : decode cX6_found 54 = .ok (.bipush 10, 2) := by decide +kernel
theorem dX6_found_56 : decode cX6_found 56 = .ok (.if_icmp .gt 59, 3) := by decide +kernel
theorem dX6_found_59 : decode cX6_found 59 = .ok (.iconst 0, 1) := by decide +kernel
theorem dX6_found_60 : decode cX6_found 60 = .ok (.istore_n 3, 1) := by decide +kernel
theorem dX6_found_61 : decode cX6_found 61 = .ok (.iload_n 3, 1) := by decide +kernel
theorem dX6_found_62 : decode cX6_found 62 = .ok (.iload_n 1, 1) := by decide +kernel
theorem dX6_found_63 : decode cX6_found 63 = .ok (.if_icmp .gt 46, 3) := by decide +kernel
theorem dX6_found_66 : decode cX6_found 66 = .ok (.iload_n 3, 1) := by decide +kernel
theorem dX6_found_67 : decode cX6_found 67 = .ok (.iload_n 1, 1) := by decide +kernel
theorem dX6_found_68 : decode cX6_found 68 = .ok (.iand, 1) := by decide +kernel
theorem dX6_found_69 : decode cX6_found 69 = .ok (.iload_n 3, 1) := by decide +kernel
theorem dX6_found_70 : decode cX6_found 70 = .ok (.if_icmp .ne 33, 3) := by decide +kernel
theorem dX6_found_73 : decode cX6_found 73 = .ok (.iload_n 3, 1) := by decide +kernel
theorem dX6_found_74 : decode cX6_found 74 = .ok (.invokestatic 117, 3) := by decide +kernel
theorem dX6_found_77 : decode cX6_found 77 = .ok (.iload_n 2, 1) := by decide +kernel
theorem dX6_found_78 : decode cX6_found 78 = .ok (.if_icmp .ne 25, 3) := by decide +kernel
theorem dX6_found_81 : decode cX6_found 81 = .ok (.aload_n 0, 1) := by decide +kernel
theorem dX6_found_82 : decode cX6_found 82 = .ok (.iload_n 1, 1) := by decide +kernel
theorem dX6_found_83 : decode cX6_found 83 = .ok (.iload_n 3, 1) := by decide +kernel
theorem dX6_found_84 : decode cX6_found 84 = .ok (.iconst (-1), 1) := by decide +kernel
theorem dX6_found_85 : decode cX6_found 85 = .ok (.ixor, 1) := by decide +kernel
theorem dX6_found_86 : decode cX6_found 86 = .ok (.iand, 1) := by decide +kernel
theorem dX6_found_87 : decode cX6_found 87 = .ok (.invokevirtual 100, 3) := by decide +kernel
theorem dX6_found_90 : decode cX6_found 90 = .ok (.ifCond .ne 6, 3) := by decide +kernel
theorem dX6_found_93 : decode cX6_found 93 = .ok (.goto 10, 3) := by decide +kernel
theorem dX6_found_96 : decode cX6_found 96 = .ok (.aload_n 0, 1) := by decide +kernel
theorem dX6_found_97 : decode cX6_found 97 = .ok (.iload_n 3, 1) := by decide +kernel
theorem dX6_found_98 : decode cX6_found 98 = .ok (.putfield 121, 3) := by decide +kernel
theorem dX6_found_101 : decode cX6_found 101 = .ok (.iconst 1, 1) := by decide +kernel
theorem dX6_found_102 : decode cX6_found 102 = .ok (.ireturn, 1) := by decide +kernel
theorem dX6_found_103 : decode cX6_found 103 = .ok (.iinc 3 1, 3) := by decide +kernel
end
section
theorem dX6_found_106 : decode cX6_found 106 = .ok (.goto (-45), 3) := by decide +kernel
theorem dX6_found_109 : decode cX6_found 109 = .ok (.iinc 2 1, 3) := by decide +kernel
theorem dX6_found_112 : decode cX6_found 112 = .ok (.goto (-59), 3) := by decide +kernel
theorem dX6_found_115 : decode cX6_found 115 = .ok (.iconst 0, 1) := by decide +kernel
theorem dX6_found_116 : decode cX6_found 116 = .ok (.ireturn, 1) := by decide +kernel
theorem dX6_quarrel_0 : decode cX6_quarrel 0 = .ok (.aload_n 0, 1) := by decide +kernel
theorem dX6_quarrel_1 : decode cX6_quarrel 1 = .ok (.invokevirtual 124, 3) := by decide +kernel
theorem dX6_quarrel_4 : decode cX6_quarrel 4 = .ok (.ifCond .eq 10, 3) := by decide +kernel
theorem dX6_quarrel_7 : decode cX6_quarrel 7 = .ok (.aload_n 0, 1) := by decide +kernel
theorem dX6_quarrel_8 : decode cX6_quarrel 8 = .ok (.getfield 121, 3) := by decide +kernel
theorem dX6_quarrel_11 : decode cX6_quarrel 11 = .ok (.goto 4, 3) := by decide +kernel
theorem dX6_quarrel_14 : decode cX6_quarrel 14 = .ok (.iconst (-1), 1) := by decide +kernel
theorem dX6_quarrel_15 : decode cX6_quarrel 15 = .ok (.ireturn, 1) := by decide +kernel
theorem dX6_high_0 : decode cX6_high 0 = .ok (.aload_n 0, 1) := by decide +kernel
theorem dX6_high_1 : decode cX6_high 1 = .ok (.getfield 41, 3) := by decide +kernel
theorem dX6_high_4 : decode cX6_high 4 = .ok (.sipush 1056, 3) := by decide +kernel
theorem dX6_high_7 : decode cX6_high 7 = .ok (.iload_n 1, 1) := by decide +kernel
theorem dX6_high_8 : decode cX6_high 8 = .ok (.iadd, 1) := by decide +kernel
theorem dX6_high_9 : decode cX6_high 9 = .ok (.iaload, 1) := by decide +kernel
theorem dX6_high_10 : decode cX6_high 10 = .ok (.ireturn, 1) := by decide +kernel
theorem dX6_low_0 : decode cX6_low 0 = .ok (.aload_n 0, 1) := by decide +kernel
theorem dX6_low_1 : decode cX6_low 1 = .ok (.getfield 41, 3) := by decide +kernel
theorem dX6_low_4 : decode cX6_low 4 = .ok (.bipush 33, 2) := by decide +kernel
theorem dX6_low_6 : decode cX6_low 6 = .ok (.iload_n 1, 1) := by decide +kernel
theorem dX6_low_7 : decode cX6_low 7 = .ok (.imul, 1) := by decide +kernel
theorem dX6_low_8 : decode cX6_low 8 = .ok (.bipush 33, 2) := by decide +kernel
theorem dX6_low_10 : decode cX6_low 10 = .ok (.iadd, 1) := by decide +kernel
theorem dX6_low_11 : decode cX6_low 11 = .ok (.iconst 1, 1) := by decide +kernel
theorem dX6_low_12 : decode cX6_low 12 = .ok (.isub, 1) := by decide +kernel
theorem dX6_low_13 : decode cX6_low 13 = .ok (.iaload, 1) := by decide +kernel
theorem dX6_low_14 : decode cX6_low 14 = .ok (.ineg, 1) := by decide +kernel
theorem dX6_low_15 : decode cX6_low 15 = .ok (.ireturn, 1) := by decide +kernel
theorem dX6_span_0 : decode cX6_span 0 = .ok (.aload_n 0, 1) := by decide +kernel
theorem dX6_span_1 : decode cX6_span 1 = .ok (.iload_n 1, 1) := by decide +kernel
theorem dX6_span_2 : decode cX6_span 2 = .ok (.iload_n 2, 1) := by decide +kernel
theorem dX6_span_3 : decode cX6_span 3 = .ok (.invokevirtual 65, 3) := by decide +kernel
theorem dX6_span_6 : decode cX6_span 6 = .ok (.ifCond .eq 19, 3) := by decide +kernel
theorem dX6_span_9 : decode cX6_span 9 = .ok (.iload_n 3, 1) := by decide +kernel
theorem dX6_span_10 : decode cX6_span 10 = .ok (.iconst 0, 1) := by decide +kernel
theorem dX6_span_11 : decode cX6_span 11 = .ok (.iconst 1, 1) := by decide +kernel
theorem dX6_span_12 : decode cX6_span 12 = .ok (.invokestatic 57, 3) := by decide +kernel
theorem dX6_span_15 : decode cX6_span 15 = .ok (.ifCond .eq 10, 3) := by decide +kernel
theorem dX6_span_18 : decode cX6_span 18 = .ok (.aload_n 0, 1) := by decide +kernel
theorem dX6_span_19 : decode cX6_span 19 = .ok (.invokevirtual 124, 3) := by decide +kernel
theorem dX6_span_22 : decode cX6_span 22 = .ok (.ifCond .ne 5, 3) := by decide +kernel
theorem dX6_span_25 : decode cX6_span 25 = .ok (.iconst (-1), 1) := by decide +kernel
theorem dX6_span_26 : decode cX6_span 26 = .ok (.ireturn, 1) := by decide +kernel
theorem dX6_span_27 : decode cX6_span 27 = .ok (.iload_n 3, 1) := by decide +kernel
theorem dX6_span_28 : decode cX6_span 28 = .ok (.ifCond .ne 15, 3) := by decide +kernel
theorem dX6_span_31 : decode cX6_span 31 = .ok (.aload_n 0, 1) := by decide +kernel
theorem dX6_span_32 : decode cX6_span 32 = .ok (.iload_n 1, 1) := by decide +kernel
theorem dX6_span_33 : decode cX6_span 33 = .ok (.iload_n 2, 1) := by decide +kernel
theorem dX6_span_34 : decode cX6_span 34 = .ok (.invokestatic 81, 3) := by decide +kernel
theorem dX6_span_37 : decode cX6_span 37 = .ok (.invokevirtual 127, 3) := by decide +kernel
theorem dX6_span_40 : decode cX6_span 40 = .ok (.goto 12, 3) := by decide +kernel
theorem dX6_span_43 : decode cX6_span 43 = .ok (.aload_n 0, 1) := by decide +kernel
theorem dX6_span_44 : decode cX6_span 44 = .ok (.iload_n 1, 1) := by decide +kernel
theorem dX6_span_45 : decode cX6_span 45 = .ok (.iload_n 2, 1) := by decide +kernel
theorem dX6_span_46 : decode cX6_span 46 = .ok (.invokestatic 81, 3) := by decide +kernel
theorem dX6_span_49 : decode cX6_span 49 = .ok (.invokevirtual 130, 3) := by decide +kernel
theorem dX6_span_52 : decode cX6_span 52 = .ok (.ireturn, 1) := by decide +kernel
theorem dX6_opens_0 : decode cX6_opens 0 = .ok (.iconst 0, 1) := by decide +kernel
theorem dX6_opens_1 : decode cX6_opens 1 = .ok (.istore_n 1, 1) := by decide +kernel
theorem dX6_opens_2 : decode cX6_opens 2 = .ok (.iconst 0, 1) := by decide +kernel
theorem dX6_opens_3 : decode cX6_opens 3 = .ok (.istore_n 2, 1) := by decide +kernel
theorem dX6_opens_4 : decode cX6_opens 4 = .ok (.iload_n 2, 1) := by decide +kernel
theorem dX6_opens_5 : decode cX6_opens 5 = .ok (.aload_n 0, 1) := by decide +kernel
theorem dX6_opens_6 : decode cX6_opens 6 = .ok (.getfield 54, 3) := by decide +kernel
theorem dX6_opens_9 : decode cX6_opens 9 = .ok (.if_icmp .ge 47, 3) := by decide +kernel
theorem dX6_opens_12 : decode cX6_opens 12 = .ok (.iconst 0, 1) := by decide +kernel
theorem dX6_opens_13 : decode cX6_opens 13 = .ok (.istore_n 3, 1) := by decide +kernel
theorem dX6_opens_14 : decode cX6_opens 14 = .ok (.iload_n 3, 1) := by decide +kernel
theorem dX6_opens_15 : decode cX6_opens 15 = .ok (.aload_n 0, 1) := by decide +kernel
theorem dX6_opens_16 : decode cX6_opens 16 = .ok (.getfield 50, 3) := by decide +kernel
theorem dX6_opens_19 : decode cX6_opens 19 = .ok (.if_icmp .ge 31, 3) := by decide +kernel
theorem dX6_opens_22 : decode cX6_opens 22 = .ok (.iload_n 1, 1) := by decide +kernel
theorem dX6_opens_23 : decode cX6_opens 23 = .ok (.aload_n 0, 1) := by decide +kernel
theorem dX6_opens_24 : decode cX6_opens 24 = .ok (.iload_n 2, 1) := by decide +kernel
theorem dX6_opens_25 : decode cX6_opens 25 = .ok (.iload_n 3, 1) := by decide +kernel
theorem dX6_opens_26 : decode cX6_opens 26 = .ok (.invokestatic 81, 3) := by decide +kernel
theorem dX6_opens_29 : decode cX6_opens 29 = .ok (.invokevirtual 130, 3) := by decide +kernel
theorem dX6_opens_32 : decode cX6_opens 32 = .ok (.aload_n 0, 1) := by decide +kernel
theorem dX6_opens_33 : decode cX6_opens 33 = .ok (.iload_n 2, 1) := by decide +kernel
theorem dX6_opens_34 : decode cX6_opens 34 = .ok (.iload_n 3, 1) := by decide +kernel
theorem dX6_opens_35 : decode cX6_opens 35 = .ok (.invokestatic 81, 3) := by decide +kernel
theorem dX6_opens_38 : decode cX6_opens 38 = .ok (.invokevirtual 127, 3) := by decide +kernel
theorem dX6_opens_41 : decode cX6_opens 41 = .ok (.isub, 1) := by decide +kernel
theorem dX6_opens_42 : decode cX6_opens 42 = .ok (.iadd, 1) := by decide +kernel
theorem dX6_opens_43 : decode cX6_opens 43 = .ok (.istore_n 1, 1) := by decide +kernel
theorem dX6_opens_44 : decode cX6_opens 44 = .ok (.iinc 3 1, 3) := by decide +kernel
theorem dX6_opens_47 : decode cX6_opens 47 = .ok (.goto (-33), 3) := by decide +kernel
theorem dX6_opens_50 : decode cX6_opens 50 = .ok (.iinc 2 1, 3) := by decide +kernel
theorem dX6_opens_53 : decode cX6_opens 53 = .ok (.goto (-49), 3) := by decide +kernel
theorem dX6_opens_56 : decode cX6_opens 56 = .ok (.iload_n 1, 1) := by decide +kernel
theorem dX6_opens_57 : decode cX6_opens 57 = .ok (.ireturn, 1) := by decide +kernel
theorem dX6_open_0 : decode cX6_open 0 = .ok (.aload_n 0, 1) := by decide +kernel
theorem dX6_open_1 : decode cX6_open 1 = .ok (.invokevirtual 124, 3) := by decide +kernel
theorem dX6_open_4 : decode cX6_open 4 = .ok (.ifCond .eq 10, 3) := by decide +kernel
theorem dX6_open_7 : decode cX6_open 7 = .ok (.aload_n 0, 1) := by decide +kernel
theorem dX6_open_8 : decode cX6_open 8 = .ok (.invokevirtual 133, 3) := by decide +kernel
theorem dX6_open_11 : decode cX6_open 11 = .ok (.goto 4, 3) := by decide +kernel
theorem dX6_open_14 : decode cX6_open 14 = .ok (.iconst (-1), 1) := by decide +kernel
theorem dX6_open_15 : decode cX6_open 15 = .ok (.ireturn, 1) := by decide +kernel
theorem dX6_layer_0 : decode cX6_layer 0 = .ok (.iload_n 1, 1) := by decide +kernel
theorem dX6_layer_1 : decode cX6_layer 1 = .ok (.iconst 0, 1) := by decide +kernel
theorem dX6_layer_2 : decode cX6_layer 2 = .ok (.aload_n 0, 1) := by decide +kernel
theorem dX6_layer_3 : decode cX6_layer 3 = .ok (.getfield 50, 3) := by decide +kernel
theorem dX6_layer_6 : decode cX6_layer 6 = .ok (.iconst 1, 1) := by decide +kernel
theorem dX6_layer_7 : decode cX6_layer 7 = .ok (.isub, 1) := by decide +kernel
theorem dX6_layer_8 : decode cX6_layer 8 = .ok (.invokestatic 57, 3) := by decide +kernel
theorem dX6_layer_11 : decode cX6_layer 11 = .ok (.ifCond .eq 20, 3) := by decide +kernel
theorem dX6_layer_14 : decode cX6_layer 14 = .ok (.iload_n 2, 1) := by decide +kernel
theorem dX6_layer_15 : decode cX6_layer 15 = .ok (.iconst 0, 1) := by decide +kernel
theorem dX6_layer_16 : decode cX6_layer 16 = .ok (.bipush 60, 2) := by decide +kernel
theorem dX6_layer_18 : decode cX6_layer 18 = .ok (.invokestatic 57, 3) := by decide +kernel
theorem dX6_layer_21 : decode cX6_layer 21 = .ok (.ifCond .eq 10, 3) := by decide +kernel
theorem dX6_layer_24 : decode cX6_layer 24 = .ok (.aload_n 0, 1) := by decide +kernel
theorem dX6_layer_25 : decode cX6_layer 25 = .ok (.invokevirtual 124, 3) := by decide +kernel
theorem dX6_layer_28 : decode cX6_layer 28 = .ok (.ifCond .ne 5, 3) := by decide +kernel
theorem dX6_layer_31 : decode cX6_layer 31 = .ok (.iconst (-1), 1) := by decide +kernel
theorem dX6_layer_32 : decode cX6_layer 32 = .ok (.ireturn, 1) := by decide +kernel
theorem dX6_layer_33 : decode cX6_layer 33 = .ok (.iconst 0, 1) := by decide +kernel
theorem dX6_layer_34 : decode cX6_layer 34 = .ok (.istore_n 3, 1) := by decide +kernel
theorem dX6_layer_35 : decode cX6_layer 35 = .ok (.iconst 0, 1) := by decide +kernel
theorem dX6_layer_36 : decode cX6_layer 36 = .ok (.istore 4, 2) := by decide +kernel
theorem dX6_layer_38 : decode cX6_layer 38 = .ok (.iconst 0, 1) := by decide +kernel
theorem dX6_layer_39 : decode cX6_layer 39 = .ok (.istore 5, 2) := by decide +kernel
theorem dX6_layer_41 : decode cX6_layer 41 = .ok (.iload 5, 2) := by decide +kernel
theorem dX6_layer_43 : decode cX6_layer 43 = .ok (.aload_n 0, 1) := by decide +kernel
theorem dX6_layer_44 : decode cX6_layer 44 = .ok (.getfield 54, 3) := by decide +kernel
theorem dX6_layer_47 : decode cX6_layer 47 = .ok (.if_icmp .ge 55, 3) := by decide +kernel
theorem dX6_layer_50 : decode cX6_layer 50 = .ok (.iload_n 3, 1) := by decide +kernel
theorem dX6_layer_51 : decode cX6_layer 51 = .ok (.aload_n 0, 1) := by decide +kernel
theorem dX6_layer_52 : decode cX6_layer 52 = .ok (.iload 5, 2) := by decide +kernel
theorem dX6_layer_54 : decode cX6_layer 54 = .ok (.iload_n 1, 1) := by decide +kernel
theorem dX6_layer_55 : decode cX6_layer 55 = .ok (.invokestatic 81, 3) := by decide +kernel
theorem dX6_layer_58 : decode cX6_layer 58 = .ok (.invokevirtual 130, 3) := by decide +kernel
theorem dX6_layer_61 : decode cX6_layer 61 = .ok (.iload_n 2, 1) := by decide +kernel
theorem dX6_layer_62 : decode cX6_layer 62 = .ok (.if_icmp .gt 7, 3) := by decide +kernel
theorem dX6_layer_65 : decode cX6_layer 65 = .ok (.iconst 1, 1) := by decide +kernel
theorem dX6_layer_66 : decode cX6_layer 66 = .ok (.goto 4, 3) := by decide +kernel
theorem dX6_layer_69 : decode cX6_layer 69 = .ok (.iconst 0, 1) := by decide +kernel
theorem dX6_layer_70 : decode cX6_layer 70 = .ok (.iadd, 1) := by decide +kernel
theorem dX6_layer_71 : decode cX6_layer 71 = .ok (.istore_n 3, 1) := by decide +kernel
theorem dX6_layer_72 : decode cX6_layer 72 = .ok (.iload 4, 2) := by decide +kernel
theorem dX6_layer_74 : decode cX6_layer 74 = .ok (.aload_n 0, 1) := by decide +kernel
theorem dX6_layer_75 : decode cX6_layer 75 = .ok (.iload 5, 2) := by decide +kernel
theorem dX6_layer_77 : decode cX6_layer 77 = .ok (.iload_n 1, 1) := by decide +kernel
theorem dX6_layer_78 : decode cX6_layer 78 = .ok (.invokestatic 81, 3) := by decide +kernel
theorem dX6_layer_81 : decode cX6_layer 81 = .ok (.invokevirtual 127, 3) := by decide +kernel
theorem dX6_layer_84 : decode cX6_layer 84 = .ok (.iload_n 2, 1) := by decide +kernel
theorem dX6_layer_85 : decode cX6_layer 85 = .ok (.if_icmp .gt 7, 3) := by decide +kernel
theorem dX6_layer_88 : decode cX6_layer 88 = .ok (.iconst 1, 1) := by decide +kernel
theorem dX6_layer_89 : decode cX6_layer 89 = .ok (.goto 4, 3) := by decide +kernel
theorem dX6_layer_92 : decode cX6_layer 92 = .ok (.iconst 0, 1) := by decide +kernel
theorem dX6_layer_93 : decode cX6_layer 93 = .ok (.iadd, 1) := by decide +kernel
theorem dX6_layer_94 : decode cX6_layer 94 = .ok (.istore 4, 2) := by decide +kernel
theorem dX6_layer_96 : decode cX6_layer 96 = .ok (.iinc 5 1, 3) := by decide +kernel
theorem dX6_layer_99 : decode cX6_layer 99 = .ok (.goto (-58), 3) := by decide +kernel
theorem dX6_layer_102 : decode cX6_layer 102 = .ok (.iload_n 3, 1) := by decide +kernel
theorem dX6_layer_103 : decode cX6_layer 103 = .ok (.iload 4, 2) := by decide +kernel
theorem dX6_layer_105 : decode cX6_layer 105 = .ok (.if_icmp .ne 7, 3) := by decide +kernel
theorem dX6_layer_108 : decode cX6_layer 108 = .ok (.iload_n 3, 1) := by decide +kernel
theorem dX6_layer_109 : decode cX6_layer 109 = .ok (.goto 4, 3) := by decide +kernel
theorem dX6_layer_112 : decode cX6_layer 112 = .ok (.iconst (-1), 1) := by decide +kernel
theorem dX6_layer_113 : decode cX6_layer 113 = .ok (.ireturn, 1) := by decide +kernel
theorem dX6_between_0 : decode cX6_between 0 = .ok (.iload_n 1, 1) := by decide +kernel
theorem dX6_between_1 : decode cX6_between 1 = .ok (.ifCond .lt 53, 3) := by decide +kernel
theorem dX6_between_4 : decode cX6_between 4 = .ok (.iload_n 2, 1) := by decide +kernel
theorem dX6_between_5 : decode cX6_between 5 = .ok (.ifCond .lt 49, 3) := by decide +kernel
theorem dX6_between_8 : decode cX6_between 8 = .ok (.aload_n 0, 1) := by decide +kernel
theorem dX6_between_9 : decode cX6_between 9 = .ok (.iload_n 1, 1) := by decide +kernel
theorem dX6_between_10 : decode cX6_between 10 = .ok (.bipush 10, 2) := by decide +kernel
theorem dX6_between_12 : decode cX6_between 12 = .ok (.idiv, 1) := by decide +kernel
theorem dX6_between_13 : decode cX6_between 13 = .ok (.iload_n 1, 1) := by decide +kernel
theorem dX6_between_14 : decode cX6_between 14 = .ok (.bipush 10, 2) := by decide +kernel
theorem dX6_between_16 : decode cX6_between 16 = .ok (.irem, 1) := by decide +kernel
theorem dX6_between_17 : decode cX6_between 17 = .ok (.invokevirtual 65, 3) := by decide +kernel
theorem dX6_between_20 : decode cX6_between 20 = .ok (.ifCond .eq 34, 3) := by decide +kernel
theorem dX6_between_23 : decode cX6_between 23 = .ok (.aload_n 0, 1) := by decide +kernel
theorem dX6_between_24 : decode cX6_between 24 = .ok (.iload_n 2, 1) := by decide +kernel
theorem dX6_between_25 : decode cX6_between 25 = .ok (.bipush 10, 2) := by decide +kernel
theorem dX6_between_27 : decode cX6_between 27 = .ok (.idiv, 1) := by decide +kernel
theorem dX6_between_28 : decode cX6_between 28 = .ok (.iload_n 2, 1) := by decide +kernel
theorem dX6_between_29 : decode cX6_between 29 = .ok (.bipush 10, 2) := by decide +kernel
theorem dX6_between_31 : decode cX6_between 31 = .ok (.irem, 1) := by decide +kernel
theorem dX6_between_32 : decode cX6_between 32 = .ok (.invokevirtual 65, 3) := by decide +kernel
theorem dX6_between_35 : decode cX6_between 35 = .ok (.ifCond .eq 19, 3) := by decide +kernel
theorem dX6_between_38 : decode cX6_between 38 = .ok (.iload_n 3, 1) := by decide +kernel
theorem dX6_between_39 : decode cX6_between 39 = .ok (.iconst 0, 1) := by decide +kernel
theorem dX6_between_40 : decode cX6_between 40 = .ok (.iconst 1, 1) := by decide +kernel
theorem dX6_between_41 : decode cX6_between 41 = .ok (.invokestatic 57, 3) := by decide +kernel
theorem dX6_between_44 : decode cX6_between 44 = .ok (.ifCond .eq 10, 3) := by decide +kernel
theorem dX6_between_47 : decode cX6_between 47 = .ok (.aload_n 0, 1) := by decide +kernel
theorem dX6_between_48 : decode cX6_between 48 = .ok (.invokevirtual 124, 3) := by decide +kernel
theorem dX6_between_51 : decode cX6_between 51 = .ok (.ifCond .ne 6, 3) := by decide +kernel
theorem dX6_between_54 : decode cX6_between 54 = .ok (.ldc 137, 2) := by decide +kernel
theorem dX6_between_56 : decode cX6_between 56 = .ok (.ireturn, 1) := by decide +kernel
theorem dX6_between_57 : decode cX6_between 57 = .ok (.iload_n 1, 1) := by decide +kernel
theorem dX6_between_58 : decode cX6_between 58 = .ok (.bipush 10, 2) := by decide +kernel
theorem dX6_between_60 : decode cX6_between 60 = .ok (.idiv, 1) := by decide +kernel
theorem dX6_between_61 : decode cX6_between 61 = .ok (.iload_n 1, 1) := by decide +kernel
theorem dX6_between_62 : decode cX6_between 62 = .ok (.bipush 10, 2) := by decide +kernel
theorem dX6_between_64 : decode cX6_between 64 = .ok (.irem, 1) := by decide +kernel
theorem dX6_between_65 : decode cX6_between 65 = .ok (.invokestatic 81, 3) := by decide +kernel
theorem dX6_between_68 : decode cX6_between 68 = .ok (.istore 4, 2) := by decide +kernel
theorem dX6_between_70 : decode cX6_between 70 = .ok (.iload_n 2, 1) := by decide +kernel
theorem dX6_between_71 : decode cX6_between 71 = .ok (.bipush 10, 2) := by decide +kernel
theorem dX6_between_73 : decode cX6_between 73 = .ok (.idiv, 1) := by decide +kernel
theorem dX6_between_74 : decode cX6_between 74 = .ok (.iload_n 2, 1) := by decide +kernel
theorem dX6_between_75 : decode cX6_between 75 = .ok (.bipush 10, 2) := by decide +kernel
theorem dX6_between_77 : decode cX6_between 77 = .ok (.irem, 1) := by decide +kernel
theorem dX6_between_78 : decode cX6_between 78 = .ok (.invokestatic 81, 3) := by decide +kernel
theorem dX6_between_81 : decode cX6_between 81 = .ok (.istore 5, 2) := by decide +kernel
theorem dX6_between_83 : decode cX6_between 83 = .ok (.iload_n 3, 1) := by decide +kernel
theorem dX6_between_84 : decode cX6_between 84 = .ok (.ifCond .ne 20, 3) := by decide +kernel
theorem dX6_between_87 : decode cX6_between 87 = .ok (.aload_n 0, 1) := by decide +kernel
theorem dX6_between_88 : decode cX6_between 88 = .ok (.getfield 41, 3) := by decide +kernel
theorem dX6_between_91 : decode cX6_between 91 = .ok (.bipush 33, 2) := by decide +kernel
theorem dX6_between_93 : decode cX6_between 93 = .ok (.iload 5, 2) := by decide +kernel
theorem dX6_between_95 : decode cX6_between 95 = .ok (.imul, 1) := by decide +kernel
theorem dX6_between_96 : decode cX6_between 96 = .ok (.iload 4, 2) := by decide +kernel
theorem dX6_between_98 : decode cX6_between 98 = .ok (.iadd, 1) := by decide +kernel
theorem dX6_between_99 : decode cX6_between 99 = .ok (.iaload, 1) := by decide +kernel
theorem dX6_between_100 : decode cX6_between 100 = .ok (.ineg, 1) := by decide +kernel
theorem dX6_between_101 : decode cX6_between 101 = .ok (.goto 16, 3) := by decide +kernel
theorem dX6_between_104 : decode cX6_between 104 = .ok (.aload_n 0, 1) := by decide +kernel
theorem dX6_between_105 : decode cX6_between 105 = .ok (.getfield 41, 3) := by decide +kernel
theorem dX6_between_108 : decode cX6_between 108 = .ok (.bipush 33, 2) := by decide +kernel
theorem dX6_between_110 : decode cX6_between 110 = .ok (.iload 4, 2) := by decide +kernel
theorem dX6_between_112 : decode cX6_between 112 = .ok (.imul, 1) := by decide +kernel
theorem dX6_between_113 : decode cX6_between 113 = .ok (.iload 5, 2) := by decide +kernel
theorem dX6_between_115 : decode cX6_between 115 = .ok (.iadd, 1) := by decide +kernel
theorem dX6_between_116 : decode cX6_between 116 = .ok (.iaload, 1) := by decide +kernel
theorem dX6_between_117 : decode cX6_between 117 = .ok (.ireturn, 1) := by decide +kernel
theorem dX6_worn_0 : decode cX6_worn 0 = .ok (.aload_n 0, 1) := by decide +kernel
theorem dX6_worn_1 : decode cX6_worn 1 = .ok (.iload_n 1, 1) := by decide +kernel
theorem dX6_worn_2 : decode cX6_worn 2 = .ok (.iload_n 2, 1) := by decide +kernel
theorem dX6_worn_3 : decode cX6_worn 3 = .ok (.invokevirtual 65, 3) := by decide +kernel
theorem dX6_worn_6 : decode cX6_worn 6 = .ok (.ifCond .eq 10, 3) := by decide +kernel
theorem dX6_worn_9 : decode cX6_worn 9 = .ok (.aload_n 0, 1) := by decide +kernel
theorem dX6_worn_10 : decode cX6_worn 10 = .ok (.invokevirtual 124, 3) := by decide +kernel
theorem dX6_worn_13 : decode cX6_worn 13 = .ok (.ifCond .ne 5, 3) := by decide +kernel
theorem dX6_worn_16 : decode cX6_worn 16 = .ok (.iconst (-1), 1) := by decide +kernel
theorem dX6_worn_17 : decode cX6_worn 17 = .ok (.ireturn, 1) := by decide +kernel
theorem dX6_worn_18 : decode cX6_worn 18 = .ok (.iload_n 1, 1) := by decide +kernel
theorem dX6_worn_19 : decode cX6_worn 19 = .ok (.iload_n 2, 1) := by decide +kernel
theorem dX6_worn_20 : decode cX6_worn 20 = .ok (.invokestatic 81, 3) := by decide +kernel
theorem dX6_worn_23 : decode cX6_worn 23 = .ok (.istore_n 3, 1) := by decide +kernel
theorem dX6_worn_24 : decode cX6_worn 24 = .ok (.aload_n 0, 1) := by decide +kernel
theorem dX6_worn_25 : decode cX6_worn 25 = .ok (.iload_n 3, 1) := by decide +kernel
theorem dX6_worn_26 : decode cX6_worn 26 = .ok (.invokevirtual 130, 3) := by decide +kernel
theorem dX6_worn_29 : decode cX6_worn 29 = .ok (.aload_n 0, 1) := by decide +kernel
theorem dX6_worn_30 : decode cX6_worn 30 = .ok (.getfield 26, 3) := by decide +kernel
theorem dX6_worn_33 : decode cX6_worn 33 = .ok (.iload_n 2, 1) := by decide +kernel
theorem dX6_worn_34 : decode cX6_worn 34 = .ok (.iaload, 1) := by decide +kernel
theorem dX6_worn_35 : decode cX6_worn 35 = .ok (.if_icmp .ge 7, 3) := by decide +kernel
theorem dX6_worn_38 : decode cX6_worn 38 = .ok (.iconst 2, 1) := by decide +kernel
theorem dX6_worn_39 : decode cX6_worn 39 = .ok (.goto 22, 3) := by decide +kernel
theorem dX6_worn_42 : decode cX6_worn 42 = .ok (.aload_n 0, 1) := by decide +kernel
theorem dX6_worn_43 : decode cX6_worn 43 = .ok (.iload_n 3, 1) := by decide +kernel
theorem dX6_worn_44 : decode cX6_worn 44 = .ok (.invokevirtual 127, 3) := by decide +kernel
theorem dX6_worn_47 : decode cX6_worn 47 = .ok (.aload_n 0, 1) := by decide +kernel
theorem dX6_worn_48 : decode cX6_worn 48 = .ok (.getfield 26, 3) := by decide +kernel
theorem dX6_worn_51 : decode cX6_worn 51 = .ok (.iload_n 2, 1) := by decide +kernel
theorem dX6_worn_52 : decode cX6_worn 52 = .ok (.iaload, 1) := by decide +kernel
theorem dX6_worn_53 : decode cX6_worn 53 = .ok (.if_icmp .ge 7, 3) := by decide +kernel
theorem dX6_worn_56 : decode cX6_worn 56 = .ok (.iconst 1, 1) := by decide +kernel
theorem dX6_worn_57 : decode cX6_worn 57 = .ok (.goto 4, 3) := by decide +kernel
theorem dX6_worn_60 : decode cX6_worn 60 = .ok (.iconst 0, 1) := by decide +kernel
theorem dX6_worn_61 : decode cX6_worn 61 = .ok (.ireturn, 1) := by decide +kernel
theorem dX6_opensBy_0 : decode cX6_opensBy 0 = .ok (.iconst 0, 1) := by decide +kernel
theorem dX6_opensBy_1 : decode cX6_opensBy 1 = .ok (.istore_n 3, 1) := by decide +kernel
theorem dX6_opensBy_2 : decode cX6_opensBy 2 = .ok (.iconst 0, 1) := by decide +kernel
theorem dX6_opensBy_3 : decode cX6_opensBy 3 = .ok (.istore 4, 2) := by decide +kernel
theorem dX6_opensBy_5 : decode cX6_opensBy 5 = .ok (.iload 4, 2) := by decide +kernel
theorem dX6_opensBy_7 : decode cX6_opensBy 7 = .ok (.aload_n 0, 1) := by decide +kernel
theorem dX6_opensBy_8 : decode cX6_opensBy 8 = .ok (.getfield 54, 3) := by decide +kernel
theorem dX6_opensBy_11 : decode cX6_opensBy 11 = .ok (.if_icmp .ge 124, 3) := by decide +kernel
theorem dX6_opensBy_14 : decode cX6_opensBy 14 = .ok (.iconst 0, 1) := by decide +kernel
theorem dX6_opensBy_15 : decode cX6_opensBy 15 = .ok (.istore 5, 2) := by decide +kernel
theorem dX6_opensBy_17 : decode cX6_opensBy 17 = .ok (.iload 5, 2) := by decide +kernel
theorem dX6_opensBy_19 : decode cX6_opensBy 19 = .ok (.aload_n 0, 1) := by decide +kernel
theorem dX6_opensBy_20 : decode cX6_opensBy 20 = .ok (.getfield 50, 3) := by decide +kernel
theorem dX6_opensBy_23 : decode cX6_opensBy 23 = .ok (.if_icmp .ge 106, 3) := by decide +kernel
theorem dX6_opensBy_26 : decode cX6_opensBy 26 = .ok (.iload 4, 2) := by decide +kernel
theorem dX6_opensBy_28 : decode cX6_opensBy 28 = .ok (.iload 5, 2) := by decide +kernel
theorem dX6_opensBy_30 : decode cX6_opensBy 30 = .ok (.invokestatic 81, 3) := by decide +kernel
theorem dX6_opensBy_33 : decode cX6_opensBy 33 = .ok (.istore 6, 2) := by decide +kernel
theorem dX6_opensBy_35 : decode cX6_opensBy 35 = .ok (.iload_n 2, 1) := by decide +kernel
theorem dX6_opensBy_36 : decode cX6_opensBy 36 = .ok (.aload_n 0, 1) := by decide +kernel
theorem dX6_opensBy_37 : decode cX6_opensBy 37 = .ok (.getfield 41, 3) := by decide +kernel
theorem dX6_opensBy_40 : decode cX6_opensBy 40 = .ok (.bipush 33, 2) := by decide +kernel
theorem dX6_opensBy_42 : decode cX6_opensBy 42 = .ok (.iload_n 1, 1) := by decide +kernel
theorem dX6_opensBy_43 : decode cX6_opensBy 43 = .ok (.imul, 1) := by decide +kernel
theorem dX6_opensBy_44 : decode cX6_opensBy 44 = .ok (.iload 6, 2) := by decide +kernel
theorem dX6_opensBy_46 : decode cX6_opensBy 46 = .ok (.iadd, 1) := by decide +kernel
theorem dX6_opensBy_47 : decode cX6_opensBy 47 = .ok (.iaload, 1) := by decide +kernel
theorem dX6_opensBy_48 : decode cX6_opensBy 48 = .ok (.iadd, 1) := by decide +kernel
theorem dX6_opensBy_49 : decode cX6_opensBy 49 = .ok (.istore 7, 2) := by decide +kernel
theorem dX6_opensBy_51 : decode cX6_opensBy 51 = .ok (.iload_n 2, 1) := by decide +kernel
theorem dX6_opensBy_52 : decode cX6_opensBy 52 = .ok (.aload_n 0, 1) := by decide +kernel
theorem dX6_opensBy_53 : decode cX6_opensBy 53 = .ok (.getfield 41, 3) := by decide +kernel
theorem dX6_opensBy_56 : decode cX6_opensBy 56 = .ok (.bipush 33, 2) := by decide +kernel
theorem dX6_opensBy_58 : decode cX6_opensBy 58 = .ok (.iload 6, 2) := by decide +kernel
theorem dX6_opensBy_60 : decode cX6_opensBy 60 = .ok (.imul, 1) := by decide +kernel
theorem dX6_opensBy_61 : decode cX6_opensBy 61 = .ok (.iload_n 1, 1) := by decide +kernel
theorem dX6_opensBy_62 : decode cX6_opensBy 62 = .ok (.iadd, 1) := by decide +kernel
theorem dX6_opensBy_63 : decode cX6_opensBy 63 = .ok (.iaload, 1) := by decide +kernel
theorem dX6_opensBy_64 : decode cX6_opensBy 64 = .ok (.isub, 1) := by decide +kernel
theorem dX6_opensBy_65 : decode cX6_opensBy 65 = .ok (.istore 8, 2) := by decide +kernel
theorem dX6_opensBy_67 : decode cX6_opensBy 67 = .ok (.iload 7, 2) := by decide +kernel
theorem dX6_opensBy_69 : decode cX6_opensBy 69 = .ok (.aload_n 0, 1) := by decide +kernel
theorem dX6_opensBy_70 : decode cX6_opensBy 70 = .ok (.iload 6, 2) := by decide +kernel
theorem dX6_opensBy_72 : decode cX6_opensBy 72 = .ok (.invokevirtual 130, 3) := by decide +kernel
theorem dX6_opensBy_75 : decode cX6_opensBy 75 = .ok (.if_icmp .ge 8, 3) := by decide +kernel
theorem dX6_opensBy_78 : decode cX6_opensBy 78 = .ok (.iload 7, 2) := by decide +kernel
theorem dX6_opensBy_80 : decode cX6_opensBy 80 = .ok (.goto 9, 3) := by decide +kernel
theorem dX6_opensBy_83 : decode cX6_opensBy 83 = .ok (.aload_n 0, 1) := by decide +kernel
theorem dX6_opensBy_84 : decode cX6_opensBy 84 = .ok (.iload 6, 2) := by decide +kernel
theorem dX6_opensBy_86 : decode cX6_opensBy 86 = .ok (.invokevirtual 130, 3) := by decide +kernel
theorem dX6_opensBy_89 : decode cX6_opensBy 89 = .ok (.istore 7, 2) := by decide +kernel
theorem dX6_opensBy_91 : decode cX6_opensBy 91 = .ok (.iload 8, 2) := by decide +kernel
theorem dX6_opensBy_93 : decode cX6_opensBy 93 = .ok (.aload_n 0, 1) := by decide +kernel
theorem dX6_opensBy_94 : decode cX6_opensBy 94 = .ok (.iload 6, 2) := by decide +kernel
theorem dX6_opensBy_96 : decode cX6_opensBy 96 = .ok (.invokevirtual 127, 3) := by decide +kernel
theorem dX6_opensBy_99 : decode cX6_opensBy 99 = .ok (.if_icmp .le 8, 3) := by decide +kernel
theorem dX6_opensBy_102 : decode cX6_opensBy 102 = .ok (.iload 8, 2) := by decide +kernel
theorem dX6_opensBy_104 : decode cX6_opensBy 104 = .ok (.goto 9, 3) := by decide +kernel
theorem dX6_opensBy_107 : decode cX6_opensBy 107 = .ok (.aload_n 0, 1) := by decide +kernel
theorem dX6_opensBy_108 : decode cX6_opensBy 108 = .ok (.iload 6, 2) := by decide +kernel
theorem dX6_opensBy_110 : decode cX6_opensBy 110 = .ok (.invokevirtual 127, 3) := by decide +kernel
theorem dX6_opensBy_113 : decode cX6_opensBy 113 = .ok (.istore 8, 2) := by decide +kernel
theorem dX6_opensBy_115 : decode cX6_opensBy 115 = .ok (.iload_n 3, 1) := by decide +kernel
theorem dX6_opensBy_116 : decode cX6_opensBy 116 = .ok (.iload 7, 2) := by decide +kernel
theorem dX6_opensBy_118 : decode cX6_opensBy 118 = .ok (.iload 8, 2) := by decide +kernel
theorem dX6_opensBy_120 : decode cX6_opensBy 120 = .ok (.isub, 1) := by decide +kernel
theorem dX6_opensBy_121 : decode cX6_opensBy 121 = .ok (.iadd, 1) := by decide +kernel
theorem dX6_opensBy_122 : decode cX6_opensBy 122 = .ok (.istore_n 3, 1) := by decide +kernel
theorem dX6_opensBy_123 : decode cX6_opensBy 123 = .ok (.iinc 5 1, 3) := by decide +kernel
theorem dX6_opensBy_126 : decode cX6_opensBy 126 = .ok (.goto (-109), 3) := by decide +kernel
theorem dX6_opensBy_129 : decode cX6_opensBy 129 = .ok (.iinc 4 1, 3) := by decide +kernel
theorem dX6_opensBy_132 : decode cX6_opensBy 132 = .ok (.goto (-127), 3) := by decide +kernel
theorem dX6_opensBy_135 : decode cX6_opensBy 135 = .ok (.iload_n 3, 1) := by decide +kernel
theorem dX6_opensBy_136 : decode cX6_opensBy 136 = .ok (.ireturn, 1) := by decide +kernel
theorem dX6_tellsAt_0 : decode cX6_tellsAt 0 = .ok (.iconst 0, 1) := by decide +kernel
theorem dX6_tellsAt_1 : decode cX6_tellsAt 1 = .ok (.istore_n 2, 1) := by decide +kernel
theorem dX6_tellsAt_2 : decode cX6_tellsAt 2 = .ok (.aload_n 0, 1) := by decide +kernel
theorem dX6_tellsAt_3 : decode cX6_tellsAt 3 = .ok (.iload_n 1, 1) := by decide +kernel
theorem dX6_tellsAt_4 : decode cX6_tellsAt 4 = .ok (.invokevirtual 127, 3) := by decide +kernel
theorem dX6_tellsAt_7 : decode cX6_tellsAt 7 = .ok (.istore_n 3, 1) := by decide +kernel
theorem dX6_tellsAt_8 : decode cX6_tellsAt 8 = .ok (.iload_n 3, 1) := by decide +kernel
theorem dX6_tellsAt_9 : decode cX6_tellsAt 9 = .ok (.aload_n 0, 1) := by decide +kernel
theorem dX6_tellsAt_10 : decode cX6_tellsAt 10 = .ok (.iload_n 1, 1) := by decide +kernel
theorem dX6_tellsAt_11 : decode cX6_tellsAt 11 = .ok (.invokevirtual 130, 3) := by decide +kernel
theorem dX6_tellsAt_14 : decode cX6_tellsAt 14 = .ok (.if_icmp .gt 26, 3) := by decide +kernel
theorem dX6_tellsAt_17 : decode cX6_tellsAt 17 = .ok (.aload_n 0, 1) := by decide +kernel
theorem dX6_tellsAt_18 : decode cX6_tellsAt 18 = .ok (.iload_n 1, 1) := by decide +kernel
theorem dX6_tellsAt_19 : decode cX6_tellsAt 19 = .ok (.iload_n 3, 1) := by decide +kernel
theorem dX6_tellsAt_20 : decode cX6_tellsAt 20 = .ok (.invokevirtual 138, 3) := by decide +kernel
theorem dX6_tellsAt_23 : decode cX6_tellsAt 23 = .ok (.iload_n 2, 1) := by decide +kernel
theorem dX6_tellsAt_24 : decode cX6_tellsAt 24 = .ok (.if_icmp .le 10, 3) := by decide +kernel
theorem dX6_tellsAt_27 : decode cX6_tellsAt 27 = .ok (.aload_n 0, 1) := by decide +kernel
theorem dX6_tellsAt_28 : decode cX6_tellsAt 28 = .ok (.iload_n 1, 1) := by decide +kernel
theorem dX6_tellsAt_29 : decode cX6_tellsAt 29 = .ok (.iload_n 3, 1) := by decide +kernel
theorem dX6_tellsAt_30 : decode cX6_tellsAt 30 = .ok (.invokevirtual 138, 3) := by decide +kernel
theorem dX6_tellsAt_33 : decode cX6_tellsAt 33 = .ok (.istore_n 2, 1) := by decide +kernel
theorem dX6_tellsAt_34 : decode cX6_tellsAt 34 = .ok (.iinc 3 1, 3) := by decide +kernel
theorem dX6_tellsAt_37 : decode cX6_tellsAt 37 = .ok (.goto (-29), 3) := by decide +kernel
theorem dX6_tellsAt_40 : decode cX6_tellsAt 40 = .ok (.aload_n 0, 1) := by decide +kernel
theorem dX6_tellsAt_41 : decode cX6_tellsAt 41 = .ok (.invokevirtual 133, 3) := by decide +kernel
theorem dX6_tellsAt_44 : decode cX6_tellsAt 44 = .ok (.iload_n 2, 1) := by decide +kernel
theorem dX6_tellsAt_45 : decode cX6_tellsAt 45 = .ok (.isub, 1) := by decide +kernel
theorem dX6_tellsAt_46 : decode cX6_tellsAt 46 = .ok (.ireturn, 1) := by decide +kernel
theorem dX6_tells_0 : decode cX6_tells 0 = .ok (.aload_n 0, 1) := by decide +kernel
theorem dX6_tells_1 : decode cX6_tells 1 = .ok (.iload_n 1, 1) := by decide +kernel
theorem dX6_tells_2 : decode cX6_tells 2 = .ok (.iload_n 2, 1) := by decide +kernel
theorem dX6_tells_3 : decode cX6_tells 3 = .ok (.invokevirtual 65, 3) := by decide +kernel
theorem dX6_tells_6 : decode cX6_tells 6 = .ok (.ifCond .eq 22, 3) := by decide +kernel
theorem dX6_tells_9 : decode cX6_tells 9 = .ok (.aload_n 0, 1) := by decide +kernel
theorem dX6_tells_10 : decode cX6_tells 10 = .ok (.invokevirtual 124, 3) := by decide +kernel
theorem dX6_tells_13 : decode cX6_tells 13 = .ok (.ifCond .eq 15, 3) := by decide +kernel
theorem dX6_tells_16 : decode cX6_tells 16 = .ok (.aload_n 0, 1) := by decide +kernel
theorem dX6_tells_17 : decode cX6_tells 17 = .ok (.iload_n 1, 1) := by decide +kernel
theorem dX6_tells_18 : decode cX6_tells 18 = .ok (.iload_n 2, 1) := by decide +kernel
theorem dX6_tells_19 : decode cX6_tells 19 = .ok (.invokestatic 81, 3) := by decide +kernel
theorem dX6_tells_22 : decode cX6_tells 22 = .ok (.invokevirtual 141, 3) := by decide +kernel
theorem dX6_tells_25 : decode cX6_tells 25 = .ok (.goto 4, 3) := by decide +kernel
theorem dX6_tells_28 : decode cX6_tells 28 = .ok (.iconst (-1), 1) := by decide +kernel
theorem dX6_tells_29 : decode cX6_tells 29 = .ok (.ireturn, 1) := by decide +kernel
theorem dX6_next_0 : decode cX6_next 0 = .ok (.aload_n 0, 1) := by decide +kernel
theorem dX6_next_1 : decode cX6_next 1 = .ok (.invokevirtual 124, 3) := by decide +kernel
theorem dX6_next_4 : decode cX6_next 4 = .ok (.ifCond .ne 5, 3) := by decide +kernel
theorem dX6_next_7 : decode cX6_next 7 = .ok (.iconst (-1), 1) := by decide +kernel
theorem dX6_next_8 : decode cX6_next 8 = .ok (.ireturn, 1) := by decide +kernel
theorem dX6_next_9 : decode cX6_next 9 = .ok (.iconst 0, 1) := by decide +kernel
theorem dX6_next_10 : decode cX6_next 10 = .ok (.istore_n 1, 1) := by decide +kernel
theorem dX6_next_11 : decode cX6_next 11 = .ok (.iconst (-1), 1) := by decide +kernel
theorem dX6_next_12 : decode cX6_next 12 = .ok (.istore_n 2, 1) := by decide +kernel
theorem dX6_next_13 : decode cX6_next 13 = .ok (.iconst 0, 1) := by decide +kernel
theorem dX6_next_14 : decode cX6_next 14 = .ok (.istore_n 3, 1) := by decide +kernel
theorem dX6_next_15 : decode cX6_next 15 = .ok (.iload_n 3, 1) := by decide +kernel
theorem dX6_next_16 : decode cX6_next 16 = .ok (.aload_n 0, 1) := by decide +kernel
theorem dX6_next_17 : decode cX6_next 17 = .ok (.getfield 54, 3) := by decide +kernel
theorem dX6_next_20 : decode cX6_next 20 = .ok (.if_icmp .ge 59, 3) := by decide +kernel
theorem dX6_next_23 : decode cX6_next 23 = .ok (.iconst 0, 1) := by decide +kernel
theorem dX6_next_24 : decode cX6_next 24 = .ok (.istore 4, 2) := by decide +kernel
theorem dX6_next_26 : decode cX6_next 26 = .ok (.iload 4, 2) := by decide +kernel
theorem dX6_next_28 : decode cX6_next 28 = .ok (.aload_n 0, 1) := by decide +kernel
theorem dX6_next_29 : decode cX6_next 29 = .ok (.getfield 50, 3) := by decide +kernel
theorem dX6_next_32 : decode cX6_next 32 = .ok (.if_icmp .ge 41, 3) := by decide +kernel
theorem dX6_next_35 : decode cX6_next 35 = .ok (.aload_n 0, 1) := by decide +kernel
theorem dX6_next_36 : decode cX6_next 36 = .ok (.iload_n 3, 1) := by decide +kernel
theorem dX6_next_37 : decode cX6_next 37 = .ok (.iload 4, 2) := by decide +kernel
theorem dX6_next_39 : decode cX6_next 39 = .ok (.invokestatic 81, 3) := by decide +kernel
theorem dX6_next_42 : decode cX6_next 42 = .ok (.invokevirtual 141, 3) := by decide +kernel
theorem dX6_next_45 : decode cX6_next 45 = .ok (.istore 5, 2) := by decide +kernel
theorem dX6_next_47 : decode cX6_next 47 = .ok (.iload 5, 2) := by decide +kernel
theorem dX6_next_49 : decode cX6_next 49 = .ok (.iload_n 2, 1) := by decide +kernel
theorem dX6_next_50 : decode cX6_next 50 = .ok (.if_icmp .gt 6, 3) := by decide +kernel
theorem dX6_next_53 : decode cX6_next 53 = .ok (.goto 14, 3) := by decide +kernel
theorem dX6_next_56 : decode cX6_next 56 = .ok (.iload 5, 2) := by decide +kernel
theorem dX6_next_58 : decode cX6_next 58 = .ok (.istore_n 2, 1) := by decide +kernel
theorem dX6_next_59 : decode cX6_next 59 = .ok (.bipush 10, 2) := by decide +kernel
theorem dX6_next_61 : decode cX6_next 61 = .ok (.iload_n 3, 1) := by decide +kernel
theorem dX6_next_62 : decode cX6_next 62 = .ok (.imul, 1) := by decide +kernel
theorem dX6_next_63 : decode cX6_next 63 = .ok (.iload 4, 2) := by decide +kernel
theorem dX6_next_65 : decode cX6_next 65 = .ok (.iadd, 1) := by decide +kernel
theorem dX6_next_66 : decode cX6_next 66 = .ok (.istore_n 1, 1) := by decide +kernel
theorem dX6_next_67 : decode cX6_next 67 = .ok (.iinc 4 1, 3) := by decide +kernel
theorem dX6_next_70 : decode cX6_next 70 = .ok (.goto (-44), 3) := by decide +kernel
theorem dX6_next_73 : decode cX6_next 73 = .ok (.iinc 3 1, 3) := by decide +kernel
theorem dX6_next_76 : decode cX6_next 76 = .ok (.goto (-61), 3) := by decide +kernel
theorem dX6_next_79 : decode cX6_next 79 = .ok (.iload_n 1, 1) := by decide +kernel
theorem dX6_next_80 : decode cX6_next 80 = .ok (.ireturn, 1) := by decide +kernel
theorem dX6_depth_0 : decode cX6_depth 0 = .ok (.iload_n 3, 1) := by decide +kernel
theorem dX6_depth_1 : decode cX6_depth 1 = .ok (.ifCond .ne 15, 3) := by decide +kernel
theorem dX6_depth_4 : decode cX6_depth 4 = .ok (.aload_n 0, 1) := by decide +kernel
theorem dX6_depth_5 : decode cX6_depth 5 = .ok (.iload_n 1, 1) := by decide +kernel
theorem dX6_depth_6 : decode cX6_depth 6 = .ok (.iload_n 2, 1) := by decide +kernel
theorem dX6_depth_7 : decode cX6_depth 7 = .ok (.invokestatic 81, 3) := by decide +kernel
theorem dX6_depth_10 : decode cX6_depth 10 = .ok (.invokevirtual 127, 3) := by decide +kernel
theorem dX6_depth_13 : decode cX6_depth 13 = .ok (.goto 12, 3) := by decide +kernel
theorem dX6_depth_16 : decode cX6_depth 16 = .ok (.aload_n 0, 1) := by decide +kernel
theorem dX6_depth_17 : decode cX6_depth 17 = .ok (.iload_n 1, 1) := by decide +kernel
theorem dX6_depth_18 : decode cX6_depth 18 = .ok (.iload_n 2, 1) := by decide +kernel
theorem dX6_depth_19 : decode cX6_depth 19 = .ok (.invokestatic 81, 3) := by decide +kernel
theorem dX6_depth_22 : decode cX6_depth 22 = .ok (.invokevirtual 130, 3) := by decide +kernel
theorem dX6_depth_25 : decode cX6_depth 25 = .ok (.ireturn, 1) := by decide +kernel
theorem dX6_bend_0 : decode cX6_bend 0 = .ok (.iload_n 1, 1) := by decide +kernel
theorem dX6_bend_1 : decode cX6_bend 1 = .ok (.iconst 0, 1) := by decide +kernel
theorem dX6_bend_2 : decode cX6_bend 2 = .ok (.iconst 1, 1) := by decide +kernel
theorem dX6_bend_3 : decode cX6_bend 3 = .ok (.invokestatic 57, 3) := by decide +kernel
theorem dX6_bend_6 : decode cX6_bend 6 = .ok (.ifCond .eq 10, 3) := by decide +kernel
theorem dX6_bend_9 : decode cX6_bend 9 = .ok (.aload_n 0, 1) := by decide +kernel
theorem dX6_bend_10 : decode cX6_bend 10 = .ok (.invokevirtual 124, 3) := by decide +kernel
theorem dX6_bend_13 : decode cX6_bend 13 = .ok (.ifCond .ne 5, 3) := by decide +kernel
theorem dX6_bend_16 : decode cX6_bend 16 = .ok (.iconst (-1), 1) := by decide +kernel
theorem dX6_bend_17 : decode cX6_bend 17 = .ok (.ireturn, 1) := by decide +kernel
theorem dX6_bend_18 : decode cX6_bend 18 = .ok (.iconst 0, 1) := by decide +kernel
theorem dX6_bend_19 : decode cX6_bend 19 = .ok (.istore_n 2, 1) := by decide +kernel
theorem dX6_bend_20 : decode cX6_bend 20 = .ok (.iconst 0, 1) := by decide +kernel
theorem dX6_bend_21 : decode cX6_bend 21 = .ok (.istore_n 3, 1) := by decide +kernel
theorem dX6_bend_22 : decode cX6_bend 22 = .ok (.iload_n 3, 1) := by decide +kernel
theorem dX6_bend_23 : decode cX6_bend 23 = .ok (.aload_n 0, 1) := by decide +kernel
theorem dX6_bend_24 : decode cX6_bend 24 = .ok (.getfield 54, 3) := by decide +kernel
theorem dX6_bend_27 : decode cX6_bend 27 = .ok (.if_icmp .ge 79, 3) := by decide +kernel
theorem dX6_bend_30 : decode cX6_bend 30 = .ok (.iconst 1, 1) := by decide +kernel
theorem dX6_bend_31 : decode cX6_bend 31 = .ok (.istore 4, 2) := by decide +kernel
theorem dX6_bend_33 : decode cX6_bend 33 = .ok (.iload 4, 2) := by decide +kernel
theorem dX6_bend_35 : decode cX6_bend 35 = .ok (.iconst 1, 1) := by decide +kernel
theorem dX6_bend_36 : decode cX6_bend 36 = .ok (.iadd, 1) := by decide +kernel
theorem dX6_bend_37 : decode cX6_bend 37 = .ok (.aload_n 0, 1) := by decide +kernel
theorem dX6_bend_38 : decode cX6_bend 38 = .ok (.getfield 50, 3) := by decide +kernel
theorem dX6_bend_41 : decode cX6_bend 41 = .ok (.if_icmp .ge 59, 3) := by decide +kernel
theorem dX6_bend_44 : decode cX6_bend 44 = .ok (.iconst 2, 1) := by decide +kernel
theorem dX6_bend_45 : decode cX6_bend 45 = .ok (.aload_n 0, 1) := by decide +kernel
theorem dX6_bend_46 : decode cX6_bend 46 = .ok (.iload_n 3, 1) := by decide +kernel
theorem dX6_bend_47 : decode cX6_bend 47 = .ok (.iload 4, 2) := by decide +kernel
theorem dX6_bend_49 : decode cX6_bend 49 = .ok (.iload_n 1, 1) := by decide +kernel
theorem dX6_bend_50 : decode cX6_bend 50 = .ok (.invokevirtual 144, 3) := by decide +kernel
theorem dX6_bend_53 : decode cX6_bend 53 = .ok (.imul, 1) := by decide +kernel
theorem dX6_bend_54 : decode cX6_bend 54 = .ok (.aload_n 0, 1) := by decide +kernel
theorem dX6_bend_55 : decode cX6_bend 55 = .ok (.iload_n 3, 1) := by decide +kernel
theorem dX6_bend_56 : decode cX6_bend 56 = .ok (.iload 4, 2) := by decide +kernel
theorem dX6_bend_58 : decode cX6_bend 58 = .ok (.iconst 1, 1) := by decide +kernel
theorem dX6_bend_59 : decode cX6_bend 59 = .ok (.isub, 1) := by decide +kernel
theorem dX6_bend_60 : decode cX6_bend 60 = .ok (.iload_n 1, 1) := by decide +kernel
theorem dX6_bend_61 : decode cX6_bend 61 = .ok (.invokevirtual 144, 3) := by decide +kernel
theorem dX6_bend_64 : decode cX6_bend 64 = .ok (.isub, 1) := by decide +kernel
theorem dX6_bend_65 : decode cX6_bend 65 = .ok (.aload_n 0, 1) := by decide +kernel
theorem dX6_bend_66 : decode cX6_bend 66 = .ok (.iload_n 3, 1) := by decide +kernel
theorem dX6_bend_67 : decode cX6_bend 67 = .ok (.iload 4, 2) := by decide +kernel
theorem dX6_bend_69 : decode cX6_bend 69 = .ok (.iconst 1, 1) := by decide +kernel
theorem dX6_bend_70 : decode cX6_bend 70 = .ok (.iadd, 1) := by decide +kernel
theorem dX6_bend_71 : decode cX6_bend 71 = .ok (.iload_n 1, 1) := by decide +kernel
theorem dX6_bend_72 : decode cX6_bend 72 = .ok (.invokevirtual 144, 3) := by decide +kernel
theorem dX6_bend_75 : decode cX6_bend 75 = .ok (.isub, 1) := by decide +kernel
theorem dX6_bend_76 : decode cX6_bend 76 = .ok (.istore 5, 2) := by decide +kernel
theorem dX6_bend_78 : decode cX6_bend 78 = .ok (.iload_n 2, 1) := by decide +kernel
theorem dX6_bend_79 : decode cX6_bend 79 = .ok (.iload 5, 2) := by decide +kernel
theorem dX6_bend_81 : decode cX6_bend 81 = .ok (.ifCond .ge 9, 3) := by decide +kernel
theorem dX6_bend_84 : decode cX6_bend 84 = .ok (.iload 5, 2) := by decide +kernel
theorem dX6_bend_86 : decode cX6_bend 86 = .ok (.ineg, 1) := by decide +kernel
theorem dX6_bend_87 : decode cX6_bend 87 = .ok (.goto 5, 3) := by decide +kernel
theorem dX6_bend_90 : decode cX6_bend 90 = .ok (.iload 5, 2) := by decide +kernel
theorem dX6_bend_92 : decode cX6_bend 92 = .ok (.iadd, 1) := by decide +kernel
theorem dX6_bend_93 : decode cX6_bend 93 = .ok (.istore_n 2, 1) := by decide +kernel
theorem dX6_bend_94 : decode cX6_bend 94 = .ok (.iinc 4 1, 3) := by decide +kernel
theorem dX6_bend_97 : decode cX6_bend 97 = .ok (.goto (-64), 3) := by decide +kernel
theorem dX6_bend_100 : decode cX6_bend 100 = .ok (.iinc 3 1, 3) := by decide +kernel
theorem dX6_bend_103 : decode cX6_bend 103 = .ok (.goto (-81), 3) := by decide +kernel
theorem dX6_bend_106 : decode cX6_bend 106 = .ok (.iload_n 2, 1) := by decide +kernel
theorem dX6_bend_107 : decode cX6_bend 107 = .ok (.ireturn, 1) := by decide +kernel
theorem dX6_told_0 : decode cX6_told 0 = .ok (.aload_n 0, 1) := by decide +kernel
theorem dX6_told_1 : decode cX6_told 1 = .ok (.iload_n 1, 1) := by decide +kernel
theorem dX6_told_2 : decode cX6_told 2 = .ok (.invokevirtual 72, 3) := by decide +kernel
theorem dX6_told_5 : decode cX6_told 5 = .ok (.ifCond .ne 6, 3) := by decide +kernel
theorem dX6_told_8 : decode cX6_told 8 = .ok (.ldc 137, 2) := by decide +kernel
theorem dX6_told_10 : decode cX6_told 10 = .ok (.ireturn, 1) := by decide +kernel
theorem dX6_told_11 : decode cX6_told 11 = .ok (.iload_n 2, 1) := by decide +kernel
theorem dX6_told_12 : decode cX6_told 12 = .ok (.tableswitch 108 0 5 #[40, 50, 63, 73, 80, 87], 40) := by decide +kernel
theorem dX6_told_52 : decode cX6_told 52 = .ok (.aload_n 0, 1) := by decide +kernel
theorem dX6_told_53 : decode cX6_told 53 = .ok (.getfield 29, 3) := by decide +kernel
theorem dX6_told_56 : decode cX6_told 56 = .ok (.iload_n 1, 1) := by decide +kernel
theorem dX6_told_57 : decode cX6_told 57 = .ok (.iaload, 1) := by decide +kernel
theorem dX6_told_58 : decode cX6_told 58 = .ok (.bipush 100, 2) := by decide +kernel
theorem dX6_told_60 : decode cX6_told 60 = .ok (.idiv, 1) := by decide +kernel
theorem dX6_told_61 : decode cX6_told 61 = .ok (.ireturn, 1) := by decide +kernel
theorem dX6_told_62 : decode cX6_told 62 = .ok (.aload_n 0, 1) := by decide +kernel
theorem dX6_told_63 : decode cX6_told 63 = .ok (.getfield 29, 3) := by decide +kernel
theorem dX6_told_66 : decode cX6_told 66 = .ok (.iload_n 1, 1) := by decide +kernel
theorem dX6_told_67 : decode cX6_told 67 = .ok (.iaload, 1) := by decide +kernel
theorem dX6_told_68 : decode cX6_told 68 = .ok (.bipush 10, 2) := by decide +kernel
theorem dX6_told_70 : decode cX6_told 70 = .ok (.idiv, 1) := by decide +kernel
theorem dX6_told_71 : decode cX6_told 71 = .ok (.bipush 10, 2) := by decide +kernel
theorem dX6_told_73 : decode cX6_told 73 = .ok (.irem, 1) := by decide +kernel
theorem dX6_told_74 : decode cX6_told 74 = .ok (.ireturn, 1) := by decide +kernel
theorem dX6_told_75 : decode cX6_told 75 = .ok (.aload_n 0, 1) := by decide +kernel
theorem dX6_told_76 : decode cX6_told 76 = .ok (.getfield 29, 3) := by decide +kernel
theorem dX6_told_79 : decode cX6_told 79 = .ok (.iload_n 1, 1) := by decide +kernel
theorem dX6_told_80 : decode cX6_told 80 = .ok (.iaload, 1) := by decide +kernel
theorem dX6_told_81 : decode cX6_told 81 = .ok (.bipush 10, 2) := by decide +kernel
theorem dX6_told_83 : decode cX6_told 83 = .ok (.irem, 1) := by decide +kernel
theorem dX6_told_84 : decode cX6_told 84 = .ok (.ireturn, 1) := by decide +kernel
theorem dX6_told_85 : decode cX6_told 85 = .ok (.aload_n 0, 1) := by decide +kernel
theorem dX6_told_86 : decode cX6_told 86 = .ok (.getfield 32, 3) := by decide +kernel
theorem dX6_told_89 : decode cX6_told 89 = .ok (.iload_n 1, 1) := by decide +kernel
theorem dX6_told_90 : decode cX6_told 90 = .ok (.iaload, 1) := by decide +kernel
theorem dX6_told_91 : decode cX6_told 91 = .ok (.ireturn, 1) := by decide +kernel
theorem dX6_told_92 : decode cX6_told 92 = .ok (.aload_n 0, 1) := by decide +kernel
theorem dX6_told_93 : decode cX6_told 93 = .ok (.getfield 35, 3) := by decide +kernel
theorem dX6_told_96 : decode cX6_told 96 = .ok (.iload_n 1, 1) := by decide +kernel
theorem dX6_told_97 : decode cX6_told 97 = .ok (.iaload, 1) := by decide +kernel
theorem dX6_told_98 : decode cX6_told 98 = .ok (.ireturn, 1) := by decide +kernel
theorem dX6_told_99 : decode cX6_told 99 = .ok (.aload_n 0, 1) := by decide +kernel
theorem dX6_told_100 : decode cX6_told 100 = .ok (.invokevirtual 124, 3) := by decide +kernel
theorem dX6_told_103 : decode cX6_told 103 = .ok (.ifCond .eq 14, 3) := by decide +kernel
theorem dX6_told_106 : decode cX6_told 106 = .ok (.aload_n 0, 1) := by decide +kernel
theorem dX6_told_107 : decode cX6_told 107 = .ok (.getfield 121, 3) := by decide +kernel
end
section
theorem dX6_told_110 : decode cX6_told 110 = .ok (.iload_n 1, 1) := by decide +kernel
theorem dX6_told_111 : decode cX6_told 111 = .ok (.ishr, 1) := by decide +kernel
theorem dX6_told_112 : decode cX6_told 112 = .ok (.iconst 1, 1) := by decide +kernel
theorem dX6_told_113 : decode cX6_told 113 = .ok (.iand, 1) := by decide +kernel
theorem dX6_told_114 : decode cX6_told 114 = .ok (.goto 5, 3) := by decide +kernel
theorem dX6_told_117 : decode cX6_told 117 = .ok (.ldc 137, 2) := by decide +kernel
theorem dX6_told_119 : decode cX6_told 119 = .ok (.ireturn, 1) := by decide +kernel
theorem dX6_told_120 : decode cX6_told 120 = .ok (.ldc 137, 2) := by decide +kernel
theorem dX6_told_122 : decode cX6_told 122 = .ok (.ireturn, 1) := by decide +kernel
theorem dX6_count_0 : decode cX6_count 0 = .ok (.iconst 0, 1) := by decide +kernel
theorem dX6_count_1 : decode cX6_count 1 = .ok (.istore_n 2, 1) := by decide +kernel
theorem dX6_count_2 : decode cX6_count 2 = .ok (.iload_n 1, 1) := by decide +kernel
theorem dX6_count_3 : decode cX6_count 3 = .ok (.tableswitch 109 0 3 #[29, 34, 39, 74], 29) := by decide +kernel
theorem dX6_count_32 : decode cX6_count 32 = .ok (.aload_n 0, 1) := by decide +kernel
theorem dX6_count_33 : decode cX6_count 33 = .ok (.getfield 50, 3) := by decide +kernel
theorem dX6_count_36 : decode cX6_count 36 = .ok (.ireturn, 1) := by decide +kernel
theorem dX6_count_37 : decode cX6_count 37 = .ok (.aload_n 0, 1) := by decide +kernel
theorem dX6_count_38 : decode cX6_count 38 = .ok (.getfield 54, 3) := by decide +kernel
theorem dX6_count_41 : decode cX6_count 41 = .ok (.ireturn, 1) := by decide +kernel
theorem dX6_count_42 : decode cX6_count 42 = .ok (.iconst 0, 1) := by decide +kernel
theorem dX6_count_43 : decode cX6_count 43 = .ok (.istore_n 3, 1) := by decide +kernel
theorem dX6_count_44 : decode cX6_count 44 = .ok (.iload_n 3, 1) := by decide +kernel
theorem dX6_count_45 : decode cX6_count 45 = .ok (.aload_n 0, 1) := by decide +kernel
theorem dX6_count_46 : decode cX6_count 46 = .ok (.getfield 69, 3) := by decide +kernel
theorem dX6_count_49 : decode cX6_count 49 = .ok (.if_icmp .ge 26, 3) := by decide +kernel
theorem dX6_count_52 : decode cX6_count 52 = .ok (.iload_n 2, 1) := by decide +kernel
theorem dX6_count_53 : decode cX6_count 53 = .ok (.aload_n 0, 1) := by decide +kernel
theorem dX6_count_54 : decode cX6_count 54 = .ok (.getfield 38, 3) := by decide +kernel
theorem dX6_count_57 : decode cX6_count 57 = .ok (.iload_n 3, 1) := by decide +kernel
theorem dX6_count_58 : decode cX6_count 58 = .ok (.baload, 1) := by decide +kernel
theorem dX6_count_59 : decode cX6_count 59 = .ok (.ifCond .eq 7, 3) := by decide +kernel
theorem dX6_count_62 : decode cX6_count 62 = .ok (.iconst 1, 1) := by decide +kernel
theorem dX6_count_63 : decode cX6_count 63 = .ok (.goto 4, 3) := by decide +kernel
theorem dX6_count_66 : decode cX6_count 66 = .ok (.iconst 0, 1) := by decide +kernel
theorem dX6_count_67 : decode cX6_count 67 = .ok (.iadd, 1) := by decide +kernel
theorem dX6_count_68 : decode cX6_count 68 = .ok (.istore_n 2, 1) := by decide +kernel
theorem dX6_count_69 : decode cX6_count 69 = .ok (.iinc 3 1, 3) := by decide +kernel
theorem dX6_count_72 : decode cX6_count 72 = .ok (.goto (-28), 3) := by decide +kernel
theorem dX6_count_75 : decode cX6_count 75 = .ok (.iload_n 2, 1) := by decide +kernel
theorem dX6_count_76 : decode cX6_count 76 = .ok (.ireturn, 1) := by decide +kernel
theorem dX6_count_77 : decode cX6_count 77 = .ok (.iconst 0, 1) := by decide +kernel
theorem dX6_count_78 : decode cX6_count 78 = .ok (.istore_n 3, 1) := by decide +kernel
theorem dX6_count_79 : decode cX6_count 79 = .ok (.iload_n 3, 1) := by decide +kernel
theorem dX6_count_80 : decode cX6_count 80 = .ok (.aload_n 0, 1) := by decide +kernel
theorem dX6_count_81 : decode cX6_count 81 = .ok (.getfield 50, 3) := by decide +kernel
theorem dX6_count_84 : decode cX6_count 84 = .ok (.if_icmp .ge 26, 3) := by decide +kernel
theorem dX6_count_87 : decode cX6_count 87 = .ok (.iload_n 2, 1) := by decide +kernel
theorem dX6_count_88 : decode cX6_count 88 = .ok (.aload_n 0, 1) := by decide +kernel
theorem dX6_count_89 : decode cX6_count 89 = .ok (.getfield 19, 3) := by decide +kernel
theorem dX6_count_92 : decode cX6_count 92 = .ok (.iload_n 3, 1) := by decide +kernel
theorem dX6_count_93 : decode cX6_count 93 = .ok (.baload, 1) := by decide +kernel
theorem dX6_count_94 : decode cX6_count 94 = .ok (.ifCond .eq 7, 3) := by decide +kernel
theorem dX6_count_97 : decode cX6_count 97 = .ok (.iconst 1, 1) := by decide +kernel
theorem dX6_count_98 : decode cX6_count 98 = .ok (.goto 4, 3) := by decide +kernel
theorem dX6_count_101 : decode cX6_count 101 = .ok (.iconst 0, 1) := by decide +kernel
theorem dX6_count_102 : decode cX6_count 102 = .ok (.iadd, 1) := by decide +kernel
theorem dX6_count_103 : decode cX6_count 103 = .ok (.istore_n 2, 1) := by decide +kernel
theorem dX6_count_104 : decode cX6_count 104 = .ok (.iinc 3 1, 3) := by decide +kernel
theorem dX6_count_107 : decode cX6_count 107 = .ok (.goto (-28), 3) := by decide +kernel
theorem dX6_count_110 : decode cX6_count 110 = .ok (.iload_n 2, 1) := by decide +kernel
theorem dX6_count_111 : decode cX6_count 111 = .ok (.ireturn, 1) := by decide +kernel
theorem dX6_count_112 : decode cX6_count 112 = .ok (.iconst (-1), 1) := by decide +kernel
theorem dX6_count_113 : decode cX6_count 113 = .ok (.ireturn, 1) := by decide +kernel
theorem dJ6_bitCount_0f7a4_0 : decode cJ6_bitCount_0f7a4 0 = .ok (.iload_n 0, 1) := by decide +kernel
theorem dJ6_bitCount_0f7a4_1 : decode cJ6_bitCount_0f7a4 1 = .ok (.iload_n 0, 1) := by decide +kernel
theorem dJ6_bitCount_0f7a4_2 : decode cJ6_bitCount_0f7a4 2 = .ok (.iconst 1, 1) := by decide +kernel
theorem dJ6_bitCount_0f7a4_3 : decode cJ6_bitCount_0f7a4 3 = .ok (.iushr, 1) := by decide +kernel
theorem dJ6_bitCount_0f7a4_4 : decode cJ6_bitCount_0f7a4 4 = .ok (.ldc_w 265, 3) := by decide +kernel
theorem dJ6_bitCount_0f7a4_7 : decode cJ6_bitCount_0f7a4 7 = .ok (.iand, 1) := by decide +kernel
theorem dJ6_bitCount_0f7a4_8 : decode cJ6_bitCount_0f7a4 8 = .ok (.isub, 1) := by decide +kernel
theorem dJ6_bitCount_0f7a4_9 : decode cJ6_bitCount_0f7a4 9 = .ok (.istore_n 0, 1) := by decide +kernel
theorem dJ6_bitCount_0f7a4_10 : decode cJ6_bitCount_0f7a4 10 = .ok (.iload_n 0, 1) := by decide +kernel
theorem dJ6_bitCount_0f7a4_11 : decode cJ6_bitCount_0f7a4 11 = .ok (.ldc_w 266, 3) := by decide +kernel
theorem dJ6_bitCount_0f7a4_14 : decode cJ6_bitCount_0f7a4 14 = .ok (.iand, 1) := by decide +kernel
theorem dJ6_bitCount_0f7a4_15 : decode cJ6_bitCount_0f7a4 15 = .ok (.iload_n 0, 1) := by decide +kernel
theorem dJ6_bitCount_0f7a4_16 : decode cJ6_bitCount_0f7a4 16 = .ok (.iconst 2, 1) := by decide +kernel
theorem dJ6_bitCount_0f7a4_17 : decode cJ6_bitCount_0f7a4 17 = .ok (.iushr, 1) := by decide +kernel
theorem dJ6_bitCount_0f7a4_18 : decode cJ6_bitCount_0f7a4 18 = .ok (.ldc_w 266, 3) := by decide +kernel
theorem dJ6_bitCount_0f7a4_21 : decode cJ6_bitCount_0f7a4 21 = .ok (.iand, 1) := by decide +kernel
theorem dJ6_bitCount_0f7a4_22 : decode cJ6_bitCount_0f7a4 22 = .ok (.iadd, 1) := by decide +kernel
theorem dJ6_bitCount_0f7a4_23 : decode cJ6_bitCount_0f7a4 23 = .ok (.istore_n 0, 1) := by decide +kernel
theorem dJ6_bitCount_0f7a4_24 : decode cJ6_bitCount_0f7a4 24 = .ok (.iload_n 0, 1) := by decide +kernel
theorem dJ6_bitCount_0f7a4_25 : decode cJ6_bitCount_0f7a4 25 = .ok (.iload_n 0, 1) := by decide +kernel
theorem dJ6_bitCount_0f7a4_26 : decode cJ6_bitCount_0f7a4 26 = .ok (.iconst 4, 1) := by decide +kernel
theorem dJ6_bitCount_0f7a4_27 : decode cJ6_bitCount_0f7a4 27 = .ok (.iushr, 1) := by decide +kernel
theorem dJ6_bitCount_0f7a4_28 : decode cJ6_bitCount_0f7a4 28 = .ok (.iadd, 1) := by decide +kernel
theorem dJ6_bitCount_0f7a4_29 : decode cJ6_bitCount_0f7a4 29 = .ok (.ldc_w 267, 3) := by decide +kernel
theorem dJ6_bitCount_0f7a4_32 : decode cJ6_bitCount_0f7a4 32 = .ok (.iand, 1) := by decide +kernel
theorem dJ6_bitCount_0f7a4_33 : decode cJ6_bitCount_0f7a4 33 = .ok (.istore_n 0, 1) := by decide +kernel
theorem dJ6_bitCount_0f7a4_34 : decode cJ6_bitCount_0f7a4 34 = .ok (.iload_n 0, 1) := by decide +kernel
theorem dJ6_bitCount_0f7a4_35 : decode cJ6_bitCount_0f7a4 35 = .ok (.iload_n 0, 1) := by decide +kernel
theorem dJ6_bitCount_0f7a4_36 : decode cJ6_bitCount_0f7a4 36 = .ok (.bipush 8, 2) := by decide +kernel
theorem dJ6_bitCount_0f7a4_38 : decode cJ6_bitCount_0f7a4 38 = .ok (.iushr, 1) := by decide +kernel
theorem dJ6_bitCount_0f7a4_39 : decode cJ6_bitCount_0f7a4 39 = .ok (.iadd, 1) := by decide +kernel
theorem dJ6_bitCount_0f7a4_40 : decode cJ6_bitCount_0f7a4 40 = .ok (.istore_n 0, 1) := by decide +kernel
theorem dJ6_bitCount_0f7a4_41 : decode cJ6_bitCount_0f7a4 41 = .ok (.iload_n 0, 1) := by decide +kernel
theorem dJ6_bitCount_0f7a4_42 : decode cJ6_bitCount_0f7a4 42 = .ok (.iload_n 0, 1) := by decide +kernel
theorem dJ6_bitCount_0f7a4_43 : decode cJ6_bitCount_0f7a4 43 = .ok (.bipush 16, 2) := by decide +kernel
theorem dJ6_bitCount_0f7a4_45 : decode cJ6_bitCount_0f7a4 45 = .ok (.iushr, 1) := by decide +kernel
theorem dJ6_bitCount_0f7a4_46 : decode cJ6_bitCount_0f7a4 46 = .ok (.iadd, 1) := by decide +kernel
theorem dJ6_bitCount_0f7a4_47 : decode cJ6_bitCount_0f7a4 47 = .ok (.istore_n 0, 1) := by decide +kernel
theorem dJ6_bitCount_0f7a4_48 : decode cJ6_bitCount_0f7a4 48 = .ok (.iload_n 0, 1) := by decide +kernel
theorem dJ6_bitCount_0f7a4_49 : decode cJ6_bitCount_0f7a4 49 = .ok (.bipush 63, 2) := by decide +kernel
theorem dJ6_bitCount_0f7a4_51 : decode cJ6_bitCount_0f7a4 51 = .ok (.iand, 1) := by decide +kernel
theorem dJ6_bitCount_0f7a4_52 : decode cJ6_bitCount_0f7a4 52 = .ok (.ireturn, 1) := by decide +kernel
theorem dJ9_abs_0f7a4_0 : decode cJ9_abs_0f7a4 0 = .ok (.iload_n 0, 1) := by decide +kernel
theorem dJ9_abs_0f7a4_1 : decode cJ9_abs_0f7a4 1 = .ok (.ifCond .ge 8, 3) := by decide +kernel
theorem dJ9_abs_0f7a4_4 : decode cJ9_abs_0f7a4 4 = .ok (.iload_n 0, 1) := by decide +kernel
theorem dJ9_abs_0f7a4_5 : decode cJ9_abs_0f7a4 5 = .ok (.ineg, 1) := by decide +kernel
theorem dJ9_abs_0f7a4_6 : decode cJ9_abs_0f7a4 6 = .ok (.goto 4, 3) := by decide +kernel
theorem dJ9_abs_0f7a4_9 : decode cJ9_abs_0f7a4 9 = .ok (.iload_n 0, 1) := by decide +kernel
theorem dJ9_abs_0f7a4_10 : decode cJ9_abs_0f7a4 10 = .ok (.ireturn, 1) := by decide +kernel
theorem dJ9_max_7cf53_0 : decode cJ9_max_7cf53 0 = .ok (.iload_n 0, 1) := by decide +kernel
theorem dJ9_max_7cf53_1 : decode cJ9_max_7cf53 1 = .ok (.iload_n 1, 1) := by decide +kernel
theorem dJ9_max_7cf53_2 : decode cJ9_max_7cf53 2 = .ok (.if_icmp .lt 7, 3) := by decide +kernel
theorem dJ9_max_7cf53_5 : decode cJ9_max_7cf53 5 = .ok (.iload_n 0, 1) := by decide +kernel
theorem dJ9_max_7cf53_6 : decode cJ9_max_7cf53 6 = .ok (.goto 4, 3) := by decide +kernel
theorem dJ9_max_7cf53_9 : decode cJ9_max_7cf53 9 = .ok (.iload_n 1, 1) := by decide +kernel
theorem dJ9_max_7cf53_10 : decode cJ9_max_7cf53 10 = .ok (.ireturn, 1) := by decide +kernel
theorem dJ9_min_7cf53_0 : decode cJ9_min_7cf53 0 = .ok (.iload_n 0, 1) := by decide +kernel
theorem dJ9_min_7cf53_1 : decode cJ9_min_7cf53 1 = .ok (.iload_n 1, 1) := by decide +kernel
theorem dJ9_min_7cf53_2 : decode cJ9_min_7cf53 2 = .ok (.if_icmp .gt 7, 3) := by decide +kernel
theorem dJ9_min_7cf53_5 : decode cJ9_min_7cf53 5 = .ok (.iload_n 0, 1) := by decide +kernel
theorem dJ9_min_7cf53_6 : decode cJ9_min_7cf53 6 = .ok (.goto 4, 3) := by decide +kernel
theorem dJ9_min_7cf53_9 : decode cJ9_min_7cf53 9 = .ok (.iload_n 1, 1) := by decide +kernel
theorem dJ9_min_7cf53_10 : decode cJ9_min_7cf53 10 = .ok (.ireturn, 1) := by decide +kernel
theorem dL_cell_0 : decode cL_cell 0 = .ok (.iload_n 1, 1) := by decide +kernel
theorem dL_cell_1 : decode cL_cell 1 = .ok (.aload_n 0, 1) := by decide +kernel
theorem dL_cell_2 : decode cL_cell 2 = .ok (.arraylength, 1) := by decide +kernel
theorem dL_cell_3 : decode cL_cell 3 = .ok (.if_icmp .ge 9, 3) := by decide +kernel
theorem dL_cell_6 : decode cL_cell 6 = .ok (.aload_n 0, 1) := by decide +kernel
theorem dL_cell_7 : decode cL_cell 7 = .ok (.iload_n 1, 1) := by decide +kernel
theorem dL_cell_8 : decode cL_cell 8 = .ok (.iaload, 1) := by decide +kernel
theorem dL_cell_9 : decode cL_cell 9 = .ok (.goto 4, 3) := by decide +kernel
theorem dL_cell_12 : decode cL_cell 12 = .ok (.iconst 0, 1) := by decide +kernel
theorem dL_cell_13 : decode cL_cell 13 = .ok (.ireturn, 1) := by decide +kernel
theorem dL_law_0 : decode cL_law 0 = .ok (.new 7, 3) := by decide +kernel
theorem dL_law_3 : decode cL_law 3 = .ok (.dup, 1) := by decide +kernel
theorem dL_law_4 : decode cL_law 4 = .ok (.aload_n 0, 1) := by decide +kernel
theorem dL_law_5 : decode cL_law 5 = .ok (.iconst 0, 1) := by decide +kernel
theorem dL_law_6 : decode cL_law 6 = .ok (.invokestatic 9, 3) := by decide +kernel
theorem dL_law_9 : decode cL_law 9 = .ok (.aload_n 0, 1) := by decide +kernel
theorem dL_law_10 : decode cL_law 10 = .ok (.iconst 1, 1) := by decide +kernel
theorem dL_law_11 : decode cL_law 11 = .ok (.invokestatic 9, 3) := by decide +kernel
theorem dL_law_14 : decode cL_law 14 = .ok (.invokespecial 15, 3) := by decide +kernel
theorem dL_law_17 : decode cL_law 17 = .ok (.astore_n 1, 1) := by decide +kernel
theorem dL_law_18 : decode cL_law 18 = .ok (.new 18, 3) := by decide +kernel
theorem dL_law_21 : decode cL_law 21 = .ok (.dup, 1) := by decide +kernel
theorem dL_law_22 : decode cL_law 22 = .ok (.aload_n 0, 1) := by decide +kernel
theorem dL_law_23 : decode cL_law 23 = .ok (.iconst 0, 1) := by decide +kernel
theorem dL_law_24 : decode cL_law 24 = .ok (.invokestatic 9, 3) := by decide +kernel
theorem dL_law_27 : decode cL_law 27 = .ok (.aload_n 0, 1) := by decide +kernel
theorem dL_law_28 : decode cL_law 28 = .ok (.iconst 1, 1) := by decide +kernel
theorem dL_law_29 : decode cL_law 29 = .ok (.invokestatic 9, 3) := by decide +kernel
theorem dL_law_32 : decode cL_law 32 = .ok (.invokespecial 20, 3) := by decide +kernel
theorem dL_law_35 : decode cL_law 35 = .ok (.astore_n 2, 1) := by decide +kernel
theorem dL_law_36 : decode cL_law 36 = .ok (.iconst 2, 1) := by decide +kernel
theorem dL_law_37 : decode cL_law 37 = .ok (.istore_n 3, 1) := by decide +kernel
theorem dL_law_38 : decode cL_law 38 = .ok (.iload_n 3, 1) := by decide +kernel
theorem dL_law_39 : decode cL_law 39 = .ok (.aload_n 0, 1) := by decide +kernel
theorem dL_law_40 : decode cL_law 40 = .ok (.arraylength, 1) := by decide +kernel
theorem dL_law_41 : decode cL_law 41 = .ok (.iconst 4, 1) := by decide +kernel
theorem dL_law_42 : decode cL_law 42 = .ok (.isub, 1) := by decide +kernel
theorem dL_law_43 : decode cL_law 43 = .ok (.if_icmp .gt 637, 3) := by decide +kernel
theorem dL_law_46 : decode cL_law 46 = .ok (.aload_n 0, 1) := by decide +kernel
theorem dL_law_47 : decode cL_law 47 = .ok (.iload_n 3, 1) := by decide +kernel
theorem dL_law_48 : decode cL_law 48 = .ok (.iaload, 1) := by decide +kernel
theorem dL_law_49 : decode cL_law 49 = .ok (.bipush 31, 2) := by decide +kernel
theorem dL_law_51 : decode cL_law 51 = .ok (.iand, 1) := by decide +kernel
theorem dL_law_52 : decode cL_law 52 = .ok (.tableswitch 622 0 17 #[88, 131, 164, 197, 220, 253, 296, 319, 332, 375, 388, 421, 464, 497, 530, 543, 566, 599], 88) := by decide +kernel
theorem dL_law_140 : decode cL_law 140 = .ok (.aload_n 1, 1) := by decide +kernel
theorem dL_law_141 : decode cL_law 141 = .ok (.aload_n 0, 1) := by decide +kernel
theorem dL_law_142 : decode cL_law 142 = .ok (.iload_n 3, 1) := by decide +kernel
theorem dL_law_143 : decode cL_law 143 = .ok (.iconst 1, 1) := by decide +kernel
theorem dL_law_144 : decode cL_law 144 = .ok (.iadd, 1) := by decide +kernel
theorem dL_law_145 : decode cL_law 145 = .ok (.iaload, 1) := by decide +kernel
theorem dL_law_146 : decode cL_law 146 = .ok (.aload_n 0, 1) := by decide +kernel
theorem dL_law_147 : decode cL_law 147 = .ok (.iload_n 3, 1) := by decide +kernel
theorem dL_law_148 : decode cL_law 148 = .ok (.iconst 2, 1) := by decide +kernel
theorem dL_law_149 : decode cL_law 149 = .ok (.iadd, 1) := by decide +kernel
theorem dL_law_150 : decode cL_law 150 = .ok (.iaload, 1) := by decide +kernel
theorem dL_law_151 : decode cL_law 151 = .ok (.aload_n 0, 1) := by decide +kernel
theorem dL_law_152 : decode cL_law 152 = .ok (.iload_n 3, 1) := by decide +kernel
theorem dL_law_153 : decode cL_law 153 = .ok (.iconst 3, 1) := by decide +kernel
theorem dL_law_154 : decode cL_law 154 = .ok (.iadd, 1) := by decide +kernel
theorem dL_law_155 : decode cL_law 155 = .ok (.iaload, 1) := by decide +kernel
theorem dL_law_156 : decode cL_law 156 = .ok (.invokevirtual 21, 3) := by decide +kernel
theorem dL_law_159 : decode cL_law 159 = .ok (.aload_n 2, 1) := by decide +kernel
theorem dL_law_160 : decode cL_law 160 = .ok (.aload_n 0, 1) := by decide +kernel
theorem dL_law_161 : decode cL_law 161 = .ok (.iload_n 3, 1) := by decide +kernel
theorem dL_law_162 : decode cL_law 162 = .ok (.iconst 1, 1) := by decide +kernel
theorem dL_law_163 : decode cL_law 163 = .ok (.iadd, 1) := by decide +kernel
theorem dL_law_164 : decode cL_law 164 = .ok (.iaload, 1) := by decide +kernel
theorem dL_law_165 : decode cL_law 165 = .ok (.aload_n 0, 1) := by decide +kernel
theorem dL_law_166 : decode cL_law 166 = .ok (.iload_n 3, 1) := by decide +kernel
theorem dL_law_167 : decode cL_law 167 = .ok (.iconst 2, 1) := by decide +kernel
theorem dL_law_168 : decode cL_law 168 = .ok (.iadd, 1) := by decide +kernel
theorem dL_law_169 : decode cL_law 169 = .ok (.iaload, 1) := by decide +kernel
theorem dL_law_170 : decode cL_law 170 = .ok (.aload_n 0, 1) := by decide +kernel
theorem dL_law_171 : decode cL_law 171 = .ok (.iload_n 3, 1) := by decide +kernel
theorem dL_law_172 : decode cL_law 172 = .ok (.iconst 3, 1) := by decide +kernel
theorem dL_law_173 : decode cL_law 173 = .ok (.iadd, 1) := by decide +kernel
theorem dL_law_174 : decode cL_law 174 = .ok (.iaload, 1) := by decide +kernel
theorem dL_law_175 : decode cL_law 175 = .ok (.invokevirtual 25, 3) := by decide +kernel
theorem dL_law_178 : decode cL_law 178 = .ok (.if_icmp .eq 496, 3) := by decide +kernel
theorem dL_law_181 : decode cL_law 181 = .ok (.iconst 0, 1) := by decide +kernel
theorem dL_law_182 : decode cL_law 182 = .ok (.ireturn, 1) := by decide +kernel
theorem dL_law_183 : decode cL_law 183 = .ok (.aload_n 1, 1) := by decide +kernel
theorem dL_law_184 : decode cL_law 184 = .ok (.aload_n 0, 1) := by decide +kernel
theorem dL_law_185 : decode cL_law 185 = .ok (.iload_n 3, 1) := by decide +kernel
theorem dL_law_186 : decode cL_law 186 = .ok (.iconst 1, 1) := by decide +kernel
theorem dL_law_187 : decode cL_law 187 = .ok (.iadd, 1) := by decide +kernel
theorem dL_law_188 : decode cL_law 188 = .ok (.iaload, 1) := by decide +kernel
theorem dL_law_189 : decode cL_law 189 = .ok (.aload_n 0, 1) := by decide +kernel
theorem dL_law_190 : decode cL_law 190 = .ok (.iload_n 3, 1) := by decide +kernel
theorem dL_law_191 : decode cL_law 191 = .ok (.iconst 2, 1) := by decide +kernel
theorem dL_law_192 : decode cL_law 192 = .ok (.iadd, 1) := by decide +kernel
theorem dL_law_193 : decode cL_law 193 = .ok (.iaload, 1) := by decide +kernel
theorem dL_law_194 : decode cL_law 194 = .ok (.invokevirtual 26, 3) := by decide +kernel
theorem dL_law_197 : decode cL_law 197 = .ok (.aload_n 2, 1) := by decide +kernel
theorem dL_law_198 : decode cL_law 198 = .ok (.aload_n 0, 1) := by decide +kernel
theorem dL_law_199 : decode cL_law 199 = .ok (.iload_n 3, 1) := by decide +kernel
theorem dL_law_200 : decode cL_law 200 = .ok (.iconst 1, 1) := by decide +kernel
theorem dL_law_201 : decode cL_law 201 = .ok (.iadd, 1) := by decide +kernel
theorem dL_law_202 : decode cL_law 202 = .ok (.iaload, 1) := by decide +kernel
theorem dL_law_203 : decode cL_law 203 = .ok (.aload_n 0, 1) := by decide +kernel
theorem dL_law_204 : decode cL_law 204 = .ok (.iload_n 3, 1) := by decide +kernel
theorem dL_law_205 : decode cL_law 205 = .ok (.iconst 2, 1) := by decide +kernel
theorem dL_law_206 : decode cL_law 206 = .ok (.iadd, 1) := by decide +kernel
theorem dL_law_207 : decode cL_law 207 = .ok (.iaload, 1) := by decide +kernel
theorem dL_law_208 : decode cL_law 208 = .ok (.invokevirtual 30, 3) := by decide +kernel
theorem dL_law_211 : decode cL_law 211 = .ok (.if_icmp .eq 463, 3) := by decide +kernel
theorem dL_law_214 : decode cL_law 214 = .ok (.iconst 0, 1) := by decide +kernel
theorem dL_law_215 : decode cL_law 215 = .ok (.ireturn, 1) := by decide +kernel
theorem dL_law_216 : decode cL_law 216 = .ok (.aload_n 1, 1) := by decide +kernel
theorem dL_law_217 : decode cL_law 217 = .ok (.aload_n 0, 1) := by decide +kernel
theorem dL_law_218 : decode cL_law 218 = .ok (.iload_n 3, 1) := by decide +kernel
theorem dL_law_219 : decode cL_law 219 = .ok (.iconst 1, 1) := by decide +kernel
theorem dL_law_220 : decode cL_law 220 = .ok (.iadd, 1) := by decide +kernel
theorem dL_law_221 : decode cL_law 221 = .ok (.iaload, 1) := by decide +kernel
theorem dL_law_222 : decode cL_law 222 = .ok (.aload_n 0, 1) := by decide +kernel
theorem dL_law_223 : decode cL_law 223 = .ok (.iload_n 3, 1) := by decide +kernel
theorem dL_law_224 : decode cL_law 224 = .ok (.iconst 2, 1) := by decide +kernel
theorem dL_law_225 : decode cL_law 225 = .ok (.iadd, 1) := by decide +kernel
theorem dL_law_226 : decode cL_law 226 = .ok (.iaload, 1) := by decide +kernel
theorem dL_law_227 : decode cL_law 227 = .ok (.invokevirtual 31, 3) := by decide +kernel
theorem dL_law_230 : decode cL_law 230 = .ok (.aload_n 2, 1) := by decide +kernel
theorem dL_law_231 : decode cL_law 231 = .ok (.aload_n 0, 1) := by decide +kernel
theorem dL_law_232 : decode cL_law 232 = .ok (.iload_n 3, 1) := by decide +kernel
theorem dL_law_233 : decode cL_law 233 = .ok (.iconst 1, 1) := by decide +kernel
theorem dL_law_234 : decode cL_law 234 = .ok (.iadd, 1) := by decide +kernel
theorem dL_law_235 : decode cL_law 235 = .ok (.iaload, 1) := by decide +kernel
theorem dL_law_236 : decode cL_law 236 = .ok (.aload_n 0, 1) := by decide +kernel
theorem dL_law_237 : decode cL_law 237 = .ok (.iload_n 3, 1) := by decide +kernel
theorem dL_law_238 : decode cL_law 238 = .ok (.iconst 2, 1) := by decide +kernel
theorem dL_law_239 : decode cL_law 239 = .ok (.iadd, 1) := by decide +kernel
theorem dL_law_240 : decode cL_law 240 = .ok (.iaload, 1) := by decide +kernel
theorem dL_law_241 : decode cL_law 241 = .ok (.invokevirtual 34, 3) := by decide +kernel
theorem dL_law_244 : decode cL_law 244 = .ok (.if_icmp .eq 430, 3) := by decide +kernel
theorem dL_law_247 : decode cL_law 247 = .ok (.iconst 0, 1) := by decide +kernel
theorem dL_law_248 : decode cL_law 248 = .ok (.ireturn, 1) := by decide +kernel
theorem dL_law_249 : decode cL_law 249 = .ok (.aload_n 1, 1) := by decide +kernel
theorem dL_law_250 : decode cL_law 250 = .ok (.aload_n 0, 1) := by decide +kernel
theorem dL_law_251 : decode cL_law 251 = .ok (.iload_n 3, 1) := by decide +kernel
theorem dL_law_252 : decode cL_law 252 = .ok (.iconst 1, 1) := by decide +kernel
theorem dL_law_253 : decode cL_law 253 = .ok (.iadd, 1) := by decide +kernel
theorem dL_law_254 : decode cL_law 254 = .ok (.iaload, 1) := by decide +kernel
theorem dL_law_255 : decode cL_law 255 = .ok (.invokevirtual 35, 3) := by decide +kernel
theorem dL_law_258 : decode cL_law 258 = .ok (.aload_n 2, 1) := by decide +kernel
theorem dL_law_259 : decode cL_law 259 = .ok (.aload_n 0, 1) := by decide +kernel
theorem dL_law_260 : decode cL_law 260 = .ok (.iload_n 3, 1) := by decide +kernel
theorem dL_law_261 : decode cL_law 261 = .ok (.iconst 1, 1) := by decide +kernel
theorem dL_law_262 : decode cL_law 262 = .ok (.iadd, 1) := by decide +kernel
theorem dL_law_263 : decode cL_law 263 = .ok (.iaload, 1) := by decide +kernel
theorem dL_law_264 : decode cL_law 264 = .ok (.invokevirtual 39, 3) := by decide +kernel
theorem dL_law_267 : decode cL_law 267 = .ok (.if_icmp .eq 407, 3) := by decide +kernel
theorem dL_law_270 : decode cL_law 270 = .ok (.iconst 0, 1) := by decide +kernel
theorem dL_law_271 : decode cL_law 271 = .ok (.ireturn, 1) := by decide +kernel
theorem dL_law_272 : decode cL_law 272 = .ok (.aload_n 1, 1) := by decide +kernel
theorem dL_law_273 : decode cL_law 273 = .ok (.aload_n 0, 1) := by decide +kernel
theorem dL_law_274 : decode cL_law 274 = .ok (.iload_n 3, 1) := by decide +kernel
theorem dL_law_275 : decode cL_law 275 = .ok (.iconst 1, 1) := by decide +kernel
theorem dL_law_276 : decode cL_law 276 = .ok (.iadd, 1) := by decide +kernel
theorem dL_law_277 : decode cL_law 277 = .ok (.iaload, 1) := by decide +kernel
theorem dL_law_278 : decode cL_law 278 = .ok (.aload_n 0, 1) := by decide +kernel
theorem dL_law_279 : decode cL_law 279 = .ok (.iload_n 3, 1) := by decide +kernel
theorem dL_law_280 : decode cL_law 280 = .ok (.iconst 2, 1) := by decide +kernel
theorem dL_law_281 : decode cL_law 281 = .ok (.iadd, 1) := by decide +kernel
theorem dL_law_282 : decode cL_law 282 = .ok (.iaload, 1) := by decide +kernel
theorem dL_law_283 : decode cL_law 283 = .ok (.invokevirtual 40, 3) := by decide +kernel
theorem dL_law_286 : decode cL_law 286 = .ok (.aload_n 2, 1) := by decide +kernel
theorem dL_law_287 : decode cL_law 287 = .ok (.aload_n 0, 1) := by decide +kernel
theorem dL_law_288 : decode cL_law 288 = .ok (.iload_n 3, 1) := by decide +kernel
theorem dL_law_289 : decode cL_law 289 = .ok (.iconst 1, 1) := by decide +kernel
theorem dL_law_290 : decode cL_law 290 = .ok (.iadd, 1) := by decide +kernel
theorem dL_law_291 : decode cL_law 291 = .ok (.iaload, 1) := by decide +kernel
theorem dL_law_292 : decode cL_law 292 = .ok (.aload_n 0, 1) := by decide +kernel
theorem dL_law_293 : decode cL_law 293 = .ok (.iload_n 3, 1) := by decide +kernel
theorem dL_law_294 : decode cL_law 294 = .ok (.iconst 2, 1) := by decide +kernel
theorem dL_law_295 : decode cL_law 295 = .ok (.iadd, 1) := by decide +kernel
theorem dL_law_296 : decode cL_law 296 = .ok (.iaload, 1) := by decide +kernel
theorem dL_law_297 : decode cL_law 297 = .ok (.invokevirtual 43, 3) := by decide +kernel
theorem dL_law_300 : decode cL_law 300 = .ok (.if_icmp .eq 374, 3) := by decide +kernel
theorem dL_law_303 : decode cL_law 303 = .ok (.iconst 0, 1) := by decide +kernel
theorem dL_law_304 : decode cL_law 304 = .ok (.ireturn, 1) := by decide +kernel
theorem dL_law_305 : decode cL_law 305 = .ok (.aload_n 1, 1) := by decide +kernel
theorem dL_law_306 : decode cL_law 306 = .ok (.aload_n 0, 1) := by decide +kernel
theorem dL_law_307 : decode cL_law 307 = .ok (.iload_n 3, 1) := by decide +kernel
theorem dL_law_308 : decode cL_law 308 = .ok (.iconst 1, 1) := by decide +kernel
theorem dL_law_309 : decode cL_law 309 = .ok (.iadd, 1) := by decide +kernel
theorem dL_law_310 : decode cL_law 310 = .ok (.iaload, 1) := by decide +kernel
theorem dL_law_311 : decode cL_law 311 = .ok (.aload_n 0, 1) := by decide +kernel
theorem dL_law_312 : decode cL_law 312 = .ok (.iload_n 3, 1) := by decide +kernel
theorem dL_law_313 : decode cL_law 313 = .ok (.iconst 2, 1) := by decide +kernel
theorem dL_law_314 : decode cL_law 314 = .ok (.iadd, 1) := by decide +kernel
theorem dL_law_315 : decode cL_law 315 = .ok (.iaload, 1) := by decide +kernel
theorem dL_law_316 : decode cL_law 316 = .ok (.aload_n 0, 1) := by decide +kernel
theorem dL_law_317 : decode cL_law 317 = .ok (.iload_n 3, 1) := by decide +kernel
theorem dL_law_318 : decode cL_law 318 = .ok (.iconst 3, 1) := by decide +kernel
theorem dL_law_319 : decode cL_law 319 = .ok (.iadd, 1) := by decide +kernel
theorem dL_law_320 : decode cL_law 320 = .ok (.iaload, 1) := by decide +kernel
theorem dL_law_321 : decode cL_law 321 = .ok (.invokevirtual 44, 3) := by decide +kernel
theorem dL_law_324 : decode cL_law 324 = .ok (.aload_n 2, 1) := by decide +kernel
theorem dL_law_325 : decode cL_law 325 = .ok (.aload_n 0, 1) := by decide +kernel
theorem dL_law_326 : decode cL_law 326 = .ok (.iload_n 3, 1) := by decide +kernel
theorem dL_law_327 : decode cL_law 327 = .ok (.iconst 1, 1) := by decide +kernel
theorem dL_law_328 : decode cL_law 328 = .ok (.iadd, 1) := by decide +kernel
theorem dL_law_329 : decode cL_law 329 = .ok (.iaload, 1) := by decide +kernel
theorem dL_law_330 : decode cL_law 330 = .ok (.aload_n 0, 1) := by decide +kernel
theorem dL_law_331 : decode cL_law 331 = .ok (.iload_n 3, 1) := by decide +kernel
theorem dL_law_332 : decode cL_law 332 = .ok (.iconst 2, 1) := by decide +kernel
theorem dL_law_333 : decode cL_law 333 = .ok (.iadd, 1) := by decide +kernel
theorem dL_law_334 : decode cL_law 334 = .ok (.iaload, 1) := by decide +kernel
theorem dL_law_335 : decode cL_law 335 = .ok (.aload_n 0, 1) := by decide +kernel
theorem dL_law_336 : decode cL_law 336 = .ok (.iload_n 3, 1) := by decide +kernel
theorem dL_law_337 : decode cL_law 337 = .ok (.iconst 3, 1) := by decide +kernel
theorem dL_law_338 : decode cL_law 338 = .ok (.iadd, 1) := by decide +kernel
theorem dL_law_339 : decode cL_law 339 = .ok (.iaload, 1) := by decide +kernel
theorem dL_law_340 : decode cL_law 340 = .ok (.invokevirtual 48, 3) := by decide +kernel
theorem dL_law_343 : decode cL_law 343 = .ok (.if_icmp .eq 331, 3) := by decide +kernel
theorem dL_law_346 : decode cL_law 346 = .ok (.iconst 0, 1) := by decide +kernel
theorem dL_law_347 : decode cL_law 347 = .ok (.ireturn, 1) := by decide +kernel
theorem dL_law_348 : decode cL_law 348 = .ok (.aload_n 1, 1) := by decide +kernel
theorem dL_law_349 : decode cL_law 349 = .ok (.aload_n 0, 1) := by decide +kernel
theorem dL_law_350 : decode cL_law 350 = .ok (.iload_n 3, 1) := by decide +kernel
theorem dL_law_351 : decode cL_law 351 = .ok (.iconst 1, 1) := by decide +kernel
theorem dL_law_352 : decode cL_law 352 = .ok (.iadd, 1) := by decide +kernel
theorem dL_law_353 : decode cL_law 353 = .ok (.iaload, 1) := by decide +kernel
theorem dL_law_354 : decode cL_law 354 = .ok (.invokevirtual 49, 3) := by decide +kernel
theorem dL_law_357 : decode cL_law 357 = .ok (.aload_n 2, 1) := by decide +kernel
theorem dL_law_358 : decode cL_law 358 = .ok (.aload_n 0, 1) := by decide +kernel
theorem dL_law_359 : decode cL_law 359 = .ok (.iload_n 3, 1) := by decide +kernel
theorem dL_law_360 : decode cL_law 360 = .ok (.iconst 1, 1) := by decide +kernel
theorem dL_law_361 : decode cL_law 361 = .ok (.iadd, 1) := by decide +kernel
theorem dL_law_362 : decode cL_law 362 = .ok (.iaload, 1) := by decide +kernel
theorem dL_law_363 : decode cL_law 363 = .ok (.invokevirtual 52, 3) := by decide +kernel
theorem dL_law_366 : decode cL_law 366 = .ok (.if_icmp .eq 308, 3) := by decide +kernel
theorem dL_law_369 : decode cL_law 369 = .ok (.iconst 0, 1) := by decide +kernel
theorem dL_law_370 : decode cL_law 370 = .ok (.ireturn, 1) := by decide +kernel
theorem dL_law_371 : decode cL_law 371 = .ok (.aload_n 1, 1) := by decide +kernel
theorem dL_law_372 : decode cL_law 372 = .ok (.invokevirtual 53, 3) := by decide +kernel
theorem dL_law_375 : decode cL_law 375 = .ok (.aload_n 2, 1) := by decide +kernel
theorem dL_law_376 : decode cL_law 376 = .ok (.invokevirtual 57, 3) := by decide +kernel
theorem dL_law_379 : decode cL_law 379 = .ok (.if_icmp .eq 295, 3) := by decide +kernel
theorem dL_law_382 : decode cL_law 382 = .ok (.iconst 0, 1) := by decide +kernel
theorem dL_law_383 : decode cL_law 383 = .ok (.ireturn, 1) := by decide +kernel
theorem dL_law_384 : decode cL_law 384 = .ok (.aload_n 1, 1) := by decide +kernel
theorem dL_law_385 : decode cL_law 385 = .ok (.aload_n 0, 1) := by decide +kernel
theorem dL_law_386 : decode cL_law 386 = .ok (.iload_n 3, 1) := by decide +kernel
theorem dL_law_387 : decode cL_law 387 = .ok (.iconst 1, 1) := by decide +kernel
theorem dL_law_388 : decode cL_law 388 = .ok (.iadd, 1) := by decide +kernel
theorem dL_law_389 : decode cL_law 389 = .ok (.iaload, 1) := by decide +kernel
theorem dL_law_390 : decode cL_law 390 = .ok (.aload_n 0, 1) := by decide +kernel
theorem dL_law_391 : decode cL_law 391 = .ok (.iload_n 3, 1) := by decide +kernel
theorem dL_law_392 : decode cL_law 392 = .ok (.iconst 2, 1) := by decide +kernel
theorem dL_law_393 : decode cL_law 393 = .ok (.iadd, 1) := by decide +kernel
theorem dL_law_394 : decode cL_law 394 = .ok (.iaload, 1) := by decide +kernel
theorem dL_law_395 : decode cL_law 395 = .ok (.aload_n 0, 1) := by decide +kernel
theorem dL_law_396 : decode cL_law 396 = .ok (.iload_n 3, 1) := by decide +kernel
theorem dL_law_397 : decode cL_law 397 = .ok (.iconst 3, 1) := by decide +kernel
theorem dL_law_398 : decode cL_law 398 = .ok (.iadd, 1) := by decide +kernel
theorem dL_law_399 : decode cL_law 399 = .ok (.iaload, 1) := by decide +kernel
theorem dL_law_400 : decode cL_law 400 = .ok (.invokevirtual 58, 3) := by decide +kernel
theorem dL_law_403 : decode cL_law 403 = .ok (.aload_n 2, 1) := by decide +kernel
theorem dL_law_404 : decode cL_law 404 = .ok (.aload_n 0, 1) := by decide +kernel
theorem dL_law_405 : decode cL_law 405 = .ok (.iload_n 3, 1) := by decide +kernel
theorem dL_law_406 : decode cL_law 406 = .ok (.iconst 1, 1) := by decide +kernel
theorem dL_law_407 : decode cL_law 407 = .ok (.iadd, 1) := by decide +kernel
theorem dL_law_408 : decode cL_law 408 = .ok (.iaload, 1) := by decide +kernel
theorem dL_law_409 : decode cL_law 409 = .ok (.aload_n 0, 1) := by decide +kernel
theorem dL_law_410 : decode cL_law 410 = .ok (.iload_n 3, 1) := by decide +kernel
theorem dL_law_411 : decode cL_law 411 = .ok (.iconst 2, 1) := by decide +kernel
theorem dL_law_412 : decode cL_law 412 = .ok (.iadd, 1) := by decide +kernel
theorem dL_law_413 : decode cL_law 413 = .ok (.iaload, 1) := by decide +kernel
theorem dL_law_414 : decode cL_law 414 = .ok (.aload_n 0, 1) := by decide +kernel
theorem dL_law_415 : decode cL_law 415 = .ok (.iload_n 3, 1) := by decide +kernel
theorem dL_law_416 : decode cL_law 416 = .ok (.iconst 3, 1) := by decide +kernel
theorem dL_law_417 : decode cL_law 417 = .ok (.iadd, 1) := by decide +kernel
theorem dL_law_418 : decode cL_law 418 = .ok (.iaload, 1) := by decide +kernel
theorem dL_law_419 : decode cL_law 419 = .ok (.invokevirtual 61, 3) := by decide +kernel
theorem dL_law_422 : decode cL_law 422 = .ok (.if_icmp .eq 252, 3) := by decide +kernel
theorem dL_law_425 : decode cL_law 425 = .ok (.iconst 0, 1) := by decide +kernel
theorem dL_law_426 : decode cL_law 426 = .ok (.ireturn, 1) := by decide +kernel
theorem dL_law_427 : decode cL_law 427 = .ok (.aload_n 1, 1) := by decide +kernel
theorem dL_law_428 : decode cL_law 428 = .ok (.invokevirtual 62, 3) := by decide +kernel
theorem dL_law_431 : decode cL_law 431 = .ok (.aload_n 2, 1) := by decide +kernel
theorem dL_law_432 : decode cL_law 432 = .ok (.invokevirtual 65, 3) := by decide +kernel
theorem dL_law_435 : decode cL_law 435 = .ok (.if_icmp .eq 239, 3) := by decide +kernel
theorem dL_law_438 : decode cL_law 438 = .ok (.iconst 0, 1) := by decide +kernel
theorem dL_law_439 : decode cL_law 439 = .ok (.ireturn, 1) := by decide +kernel
theorem dL_law_440 : decode cL_law 440 = .ok (.aload_n 1, 1) := by decide +kernel
theorem dL_law_441 : decode cL_law 441 = .ok (.aload_n 0, 1) := by decide +kernel
theorem dL_law_442 : decode cL_law 442 = .ok (.iload_n 3, 1) := by decide +kernel
theorem dL_law_443 : decode cL_law 443 = .ok (.iconst 1, 1) := by decide +kernel
theorem dL_law_444 : decode cL_law 444 = .ok (.iadd, 1) := by decide +kernel
theorem dL_law_445 : decode cL_law 445 = .ok (.iaload, 1) := by decide +kernel
theorem dL_law_446 : decode cL_law 446 = .ok (.aload_n 0, 1) := by decide +kernel
theorem dL_law_447 : decode cL_law 447 = .ok (.iload_n 3, 1) := by decide +kernel
theorem dL_law_448 : decode cL_law 448 = .ok (.iconst 2, 1) := by decide +kernel
theorem dL_law_449 : decode cL_law 449 = .ok (.iadd, 1) := by decide +kernel
theorem dL_law_450 : decode cL_law 450 = .ok (.iaload, 1) := by decide +kernel
theorem dL_law_451 : decode cL_law 451 = .ok (.invokevirtual 66, 3) := by decide +kernel
theorem dL_law_454 : decode cL_law 454 = .ok (.aload_n 2, 1) := by decide +kernel
theorem dL_law_455 : decode cL_law 455 = .ok (.aload_n 0, 1) := by decide +kernel
theorem dL_law_456 : decode cL_law 456 = .ok (.iload_n 3, 1) := by decide +kernel
theorem dL_law_457 : decode cL_law 457 = .ok (.iconst 1, 1) := by decide +kernel
theorem dL_law_458 : decode cL_law 458 = .ok (.iadd, 1) := by decide +kernel
theorem dL_law_459 : decode cL_law 459 = .ok (.iaload, 1) := by decide +kernel
theorem dL_law_460 : decode cL_law 460 = .ok (.aload_n 0, 1) := by decide +kernel
theorem dL_law_461 : decode cL_law 461 = .ok (.iload_n 3, 1) := by decide +kernel
theorem dL_law_462 : decode cL_law 462 = .ok (.iconst 2, 1) := by decide +kernel
theorem dL_law_463 : decode cL_law 463 = .ok (.iadd, 1) := by decide +kernel
theorem dL_law_464 : decode cL_law 464 = .ok (.iaload, 1) := by decide +kernel
theorem dL_law_465 : decode cL_law 465 = .ok (.invokevirtual 70, 3) := by decide +kernel
theorem dL_law_468 : decode cL_law 468 = .ok (.if_icmp .eq 206, 3) := by decide +kernel
theorem dL_law_471 : decode cL_law 471 = .ok (.iconst 0, 1) := by decide +kernel
theorem dL_law_472 : decode cL_law 472 = .ok (.ireturn, 1) := by decide +kernel
theorem dL_law_473 : decode cL_law 473 = .ok (.aload_n 1, 1) := by decide +kernel
theorem dL_law_474 : decode cL_law 474 = .ok (.aload_n 0, 1) := by decide +kernel
theorem dL_law_475 : decode cL_law 475 = .ok (.iload_n 3, 1) := by decide +kernel
theorem dL_law_476 : decode cL_law 476 = .ok (.iconst 1, 1) := by decide +kernel
theorem dL_law_477 : decode cL_law 477 = .ok (.iadd, 1) := by decide +kernel
theorem dL_law_478 : decode cL_law 478 = .ok (.iaload, 1) := by decide +kernel
theorem dL_law_479 : decode cL_law 479 = .ok (.aload_n 0, 1) := by decide +kernel
theorem dL_law_480 : decode cL_law 480 = .ok (.iload_n 3, 1) := by decide +kernel
theorem dL_law_481 : decode cL_law 481 = .ok (.iconst 2, 1) := by decide +kernel
theorem dL_law_482 : decode cL_law 482 = .ok (.iadd, 1) := by decide +kernel
theorem dL_law_483 : decode cL_law 483 = .ok (.iaload, 1) := by decide +kernel
theorem dL_law_484 : decode cL_law 484 = .ok (.aload_n 0, 1) := by decide +kernel
theorem dL_law_485 : decode cL_law 485 = .ok (.iload_n 3, 1) := by decide +kernel
theorem dL_law_486 : decode cL_law 486 = .ok (.iconst 3, 1) := by decide +kernel
theorem dL_law_487 : decode cL_law 487 = .ok (.iadd, 1) := by decide +kernel
theorem dL_law_488 : decode cL_law 488 = .ok (.iaload, 1) := by decide +kernel
theorem dL_law_489 : decode cL_law 489 = .ok (.invokevirtual 71, 3) := by decide +kernel
theorem dL_law_492 : decode cL_law 492 = .ok (.aload_n 2, 1) := by decide +kernel
theorem dL_law_493 : decode cL_law 493 = .ok (.aload_n 0, 1) := by decide +kernel
theorem dL_law_494 : decode cL_law 494 = .ok (.iload_n 3, 1) := by decide +kernel
theorem dL_law_495 : decode cL_law 495 = .ok (.iconst 1, 1) := by decide +kernel
theorem dL_law_496 : decode cL_law 496 = .ok (.iadd, 1) := by decide +kernel
theorem dL_law_497 : decode cL_law 497 = .ok (.iaload, 1) := by decide +kernel
theorem dL_law_498 : decode cL_law 498 = .ok (.aload_n 0, 1) := by decide +kernel
theorem dL_law_499 : decode cL_law 499 = .ok (.iload_n 3, 1) := by decide +kernel
theorem dL_law_500 : decode cL_law 500 = .ok (.iconst 2, 1) := by decide +kernel
theorem dL_law_501 : decode cL_law 501 = .ok (.iadd, 1) := by decide +kernel
theorem dL_law_502 : decode cL_law 502 = .ok (.iaload, 1) := by decide +kernel
theorem dL_law_503 : decode cL_law 503 = .ok (.aload_n 0, 1) := by decide +kernel
theorem dL_law_504 : decode cL_law 504 = .ok (.iload_n 3, 1) := by decide +kernel
theorem dL_law_505 : decode cL_law 505 = .ok (.iconst 3, 1) := by decide +kernel
theorem dL_law_506 : decode cL_law 506 = .ok (.iadd, 1) := by decide +kernel
theorem dL_law_507 : decode cL_law 507 = .ok (.iaload, 1) := by decide +kernel
theorem dL_law_508 : decode cL_law 508 = .ok (.invokevirtual 74, 3) := by decide +kernel
theorem dL_law_511 : decode cL_law 511 = .ok (.if_icmp .eq 163, 3) := by decide +kernel
theorem dL_law_514 : decode cL_law 514 = .ok (.iconst 0, 1) := by decide +kernel
theorem dL_law_515 : decode cL_law 515 = .ok (.ireturn, 1) := by decide +kernel
theorem dL_law_516 : decode cL_law 516 = .ok (.aload_n 1, 1) := by decide +kernel
theorem dL_law_517 : decode cL_law 517 = .ok (.aload_n 0, 1) := by decide +kernel
theorem dL_law_518 : decode cL_law 518 = .ok (.iload_n 3, 1) := by decide +kernel
theorem dL_law_519 : decode cL_law 519 = .ok (.iconst 1, 1) := by decide +kernel
theorem dL_law_520 : decode cL_law 520 = .ok (.iadd, 1) := by decide +kernel
theorem dL_law_521 : decode cL_law 521 = .ok (.iaload, 1) := by decide +kernel
theorem dL_law_522 : decode cL_law 522 = .ok (.aload_n 0, 1) := by decide +kernel
theorem dL_law_523 : decode cL_law 523 = .ok (.iload_n 3, 1) := by decide +kernel
theorem dL_law_524 : decode cL_law 524 = .ok (.iconst 2, 1) := by decide +kernel
theorem dL_law_525 : decode cL_law 525 = .ok (.iadd, 1) := by decide +kernel
theorem dL_law_526 : decode cL_law 526 = .ok (.iaload, 1) := by decide +kernel
theorem dL_law_527 : decode cL_law 527 = .ok (.invokevirtual 75, 3) := by decide +kernel
theorem dL_law_530 : decode cL_law 530 = .ok (.aload_n 2, 1) := by decide +kernel
theorem dL_law_531 : decode cL_law 531 = .ok (.aload_n 0, 1) := by decide +kernel
theorem dL_law_532 : decode cL_law 532 = .ok (.iload_n 3, 1) := by decide +kernel
theorem dL_law_533 : decode cL_law 533 = .ok (.iconst 1, 1) := by decide +kernel
theorem dL_law_534 : decode cL_law 534 = .ok (.iadd, 1) := by decide +kernel
theorem dL_law_535 : decode cL_law 535 = .ok (.iaload, 1) := by decide +kernel
theorem dL_law_536 : decode cL_law 536 = .ok (.aload_n 0, 1) := by decide +kernel
theorem dL_law_537 : decode cL_law 537 = .ok (.iload_n 3, 1) := by decide +kernel
theorem dL_law_538 : decode cL_law 538 = .ok (.iconst 2, 1) := by decide +kernel
theorem dL_law_539 : decode cL_law 539 = .ok (.iadd, 1) := by decide +kernel
theorem dL_law_540 : decode cL_law 540 = .ok (.iaload, 1) := by decide +kernel
theorem dL_law_541 : decode cL_law 541 = .ok (.invokevirtual 78, 3) := by decide +kernel
theorem dL_law_544 : decode cL_law 544 = .ok (.if_icmp .eq 130, 3) := by decide +kernel
theorem dL_law_547 : decode cL_law 547 = .ok (.iconst 0, 1) := by decide +kernel
theorem dL_law_548 : decode cL_law 548 = .ok (.ireturn, 1) := by decide +kernel
theorem dL_law_549 : decode cL_law 549 = .ok (.aload_n 1, 1) := by decide +kernel
theorem dL_law_550 : decode cL_law 550 = .ok (.aload_n 0, 1) := by decide +kernel
theorem dL_law_551 : decode cL_law 551 = .ok (.iload_n 3, 1) := by decide +kernel
theorem dL_law_552 : decode cL_law 552 = .ok (.iconst 1, 1) := by decide +kernel
theorem dL_law_553 : decode cL_law 553 = .ok (.iadd, 1) := by decide +kernel
theorem dL_law_554 : decode cL_law 554 = .ok (.iaload, 1) := by decide +kernel
theorem dL_law_555 : decode cL_law 555 = .ok (.aload_n 0, 1) := by decide +kernel
theorem dL_law_556 : decode cL_law 556 = .ok (.iload_n 3, 1) := by decide +kernel
theorem dL_law_557 : decode cL_law 557 = .ok (.iconst 2, 1) := by decide +kernel
theorem dL_law_558 : decode cL_law 558 = .ok (.iadd, 1) := by decide +kernel
theorem dL_law_559 : decode cL_law 559 = .ok (.iaload, 1) := by decide +kernel
theorem dL_law_560 : decode cL_law 560 = .ok (.invokevirtual 79, 3) := by decide +kernel
theorem dL_law_563 : decode cL_law 563 = .ok (.aload_n 2, 1) := by decide +kernel
theorem dL_law_564 : decode cL_law 564 = .ok (.aload_n 0, 1) := by decide +kernel
theorem dL_law_565 : decode cL_law 565 = .ok (.iload_n 3, 1) := by decide +kernel
theorem dL_law_566 : decode cL_law 566 = .ok (.iconst 1, 1) := by decide +kernel
theorem dL_law_567 : decode cL_law 567 = .ok (.iadd, 1) := by decide +kernel
theorem dL_law_568 : decode cL_law 568 = .ok (.iaload, 1) := by decide +kernel
theorem dL_law_569 : decode cL_law 569 = .ok (.aload_n 0, 1) := by decide +kernel
theorem dL_law_570 : decode cL_law 570 = .ok (.iload_n 3, 1) := by decide +kernel
theorem dL_law_571 : decode cL_law 571 = .ok (.iconst 2, 1) := by decide +kernel
theorem dL_law_572 : decode cL_law 572 = .ok (.iadd, 1) := by decide +kernel
theorem dL_law_573 : decode cL_law 573 = .ok (.iaload, 1) := by decide +kernel
theorem dL_law_574 : decode cL_law 574 = .ok (.invokevirtual 82, 3) := by decide +kernel
theorem dL_law_577 : decode cL_law 577 = .ok (.if_icmp .eq 97, 3) := by decide +kernel
theorem dL_law_580 : decode cL_law 580 = .ok (.iconst 0, 1) := by decide +kernel
theorem dL_law_581 : decode cL_law 581 = .ok (.ireturn, 1) := by decide +kernel
theorem dL_law_582 : decode cL_law 582 = .ok (.aload_n 1, 1) := by decide +kernel
theorem dL_law_583 : decode cL_law 583 = .ok (.invokevirtual 83, 3) := by decide +kernel
theorem dL_law_586 : decode cL_law 586 = .ok (.aload_n 2, 1) := by decide +kernel
theorem dL_law_587 : decode cL_law 587 = .ok (.invokevirtual 86, 3) := by decide +kernel
theorem dL_law_590 : decode cL_law 590 = .ok (.if_icmp .eq 84, 3) := by decide +kernel
theorem dL_law_593 : decode cL_law 593 = .ok (.iconst 0, 1) := by decide +kernel
theorem dL_law_594 : decode cL_law 594 = .ok (.ireturn, 1) := by decide +kernel
theorem dL_law_595 : decode cL_law 595 = .ok (.aload_n 1, 1) := by decide +kernel
theorem dL_law_596 : decode cL_law 596 = .ok (.aload_n 0, 1) := by decide +kernel
theorem dL_law_597 : decode cL_law 597 = .ok (.iload_n 3, 1) := by decide +kernel
theorem dL_law_598 : decode cL_law 598 = .ok (.iconst 1, 1) := by decide +kernel
theorem dL_law_599 : decode cL_law 599 = .ok (.iadd, 1) := by decide +kernel
theorem dL_law_600 : decode cL_law 600 = .ok (.iaload, 1) := by decide +kernel
theorem dL_law_601 : decode cL_law 601 = .ok (.invokevirtual 87, 3) := by decide +kernel
theorem dL_law_604 : decode cL_law 604 = .ok (.aload_n 2, 1) := by decide +kernel
theorem dL_law_605 : decode cL_law 605 = .ok (.aload_n 0, 1) := by decide +kernel
theorem dL_law_606 : decode cL_law 606 = .ok (.iload_n 3, 1) := by decide +kernel
theorem dL_law_607 : decode cL_law 607 = .ok (.iconst 1, 1) := by decide +kernel
theorem dL_law_608 : decode cL_law 608 = .ok (.iadd, 1) := by decide +kernel
theorem dL_law_609 : decode cL_law 609 = .ok (.iaload, 1) := by decide +kernel
theorem dL_law_610 : decode cL_law 610 = .ok (.invokevirtual 91, 3) := by decide +kernel
theorem dL_law_613 : decode cL_law 613 = .ok (.if_icmp .eq 61, 3) := by decide +kernel
theorem dL_law_616 : decode cL_law 616 = .ok (.iconst 0, 1) := by decide +kernel
theorem dL_law_617 : decode cL_law 617 = .ok (.ireturn, 1) := by decide +kernel
theorem dL_law_618 : decode cL_law 618 = .ok (.aload_n 1, 1) := by decide +kernel
theorem dL_law_619 : decode cL_law 619 = .ok (.aload_n 0, 1) := by decide +kernel
theorem dL_law_620 : decode cL_law 620 = .ok (.iload_n 3, 1) := by decide +kernel
theorem dL_law_621 : decode cL_law 621 = .ok (.iconst 1, 1) := by decide +kernel
theorem dL_law_622 : decode cL_law 622 = .ok (.iadd, 1) := by decide +kernel
theorem dL_law_623 : decode cL_law 623 = .ok (.iaload, 1) := by decide +kernel
theorem dL_law_624 : decode cL_law 624 = .ok (.aload_n 0, 1) := by decide +kernel
theorem dL_law_625 : decode cL_law 625 = .ok (.iload_n 3, 1) := by decide +kernel
end
section
theorem dL_law_626 : decode cL_law 626 = .ok (.iconst 2, 1) := by decide +kernel
theorem dL_law_627 : decode cL_law 627 = .ok (.iadd, 1) := by decide +kernel
theorem dL_law_628 : decode cL_law 628 = .ok (.iaload, 1) := by decide +kernel
theorem dL_law_629 : decode cL_law 629 = .ok (.invokevirtual 92, 3) := by decide +kernel
theorem dL_law_632 : decode cL_law 632 = .ok (.aload_n 2, 1) := by decide +kernel
theorem dL_law_633 : decode cL_law 633 = .ok (.aload_n 0, 1) := by decide +kernel
theorem dL_law_634 : decode cL_law 634 = .ok (.iload_n 3, 1) := by decide +kernel
theorem dL_law_635 : decode cL_law 635 = .ok (.iconst 1, 1) := by decide +kernel
theorem dL_law_636 : decode cL_law 636 = .ok (.iadd, 1) := by decide +kernel
theorem dL_law_637 : decode cL_law 637 = .ok (.iaload, 1) := by decide +kernel
theorem dL_law_638 : decode cL_law 638 = .ok (.aload_n 0, 1) := by decide +kernel
theorem dL_law_639 : decode cL_law 639 = .ok (.iload_n 3, 1) := by decide +kernel
theorem dL_law_640 : decode cL_law 640 = .ok (.iconst 2, 1) := by decide +kernel
theorem dL_law_641 : decode cL_law 641 = .ok (.iadd, 1) := by decide +kernel
theorem dL_law_642 : decode cL_law 642 = .ok (.iaload, 1) := by decide +kernel
theorem dL_law_643 : decode cL_law 643 = .ok (.invokevirtual 95, 3) := by decide +kernel
theorem dL_law_646 : decode cL_law 646 = .ok (.if_icmp .eq 28, 3) := by decide +kernel
theorem dL_law_649 : decode cL_law 649 = .ok (.iconst 0, 1) := by decide +kernel
theorem dL_law_650 : decode cL_law 650 = .ok (.ireturn, 1) := by decide +kernel
theorem dL_law_651 : decode cL_law 651 = .ok (.aload_n 1, 1) := by decide +kernel
theorem dL_law_652 : decode cL_law 652 = .ok (.aload_n 0, 1) := by decide +kernel
theorem dL_law_653 : decode cL_law 653 = .ok (.iload_n 3, 1) := by decide +kernel
theorem dL_law_654 : decode cL_law 654 = .ok (.iconst 1, 1) := by decide +kernel
theorem dL_law_655 : decode cL_law 655 = .ok (.iadd, 1) := by decide +kernel
theorem dL_law_656 : decode cL_law 656 = .ok (.iaload, 1) := by decide +kernel
theorem dL_law_657 : decode cL_law 657 = .ok (.invokevirtual 96, 3) := by decide +kernel
theorem dL_law_660 : decode cL_law 660 = .ok (.aload_n 2, 1) := by decide +kernel
theorem dL_law_661 : decode cL_law 661 = .ok (.aload_n 0, 1) := by decide +kernel
theorem dL_law_662 : decode cL_law 662 = .ok (.iload_n 3, 1) := by decide +kernel
theorem dL_law_663 : decode cL_law 663 = .ok (.iconst 1, 1) := by decide +kernel
theorem dL_law_664 : decode cL_law 664 = .ok (.iadd, 1) := by decide +kernel
theorem dL_law_665 : decode cL_law 665 = .ok (.iaload, 1) := by decide +kernel
theorem dL_law_666 : decode cL_law 666 = .ok (.invokevirtual 99, 3) := by decide +kernel
theorem dL_law_669 : decode cL_law 669 = .ok (.if_icmp .eq 5, 3) := by decide +kernel
theorem dL_law_672 : decode cL_law 672 = .ok (.iconst 0, 1) := by decide +kernel
theorem dL_law_673 : decode cL_law 673 = .ok (.ireturn, 1) := by decide +kernel
theorem dL_law_674 : decode cL_law 674 = .ok (.iinc 3 4, 3) := by decide +kernel
theorem dL_law_677 : decode cL_law 677 = .ok (.goto (-639), 3) := by decide +kernel
theorem dL_law_680 : decode cL_law 680 = .ok (.iconst 1, 1) := by decide +kernel
theorem dL_law_681 : decode cL_law 681 = .ok (.ireturn, 1) := by decide +kernel
end
section
/-! worlds by roles: role r is the cell ct r at the address ad r -/
def ww (N : Nat) (ad : Nat → Nat) (ct : Nat → va_E) : va_W := (List.range N).map (fun r => (ad r, ct r))
theorem ww_len {N : Nat} {ad : Nat → Nat} {ct : Nat → va_E} : (ww N ad ct).length = N := by simp [ww]
theorem ww_get {N : Nat} {ad : Nat → Nat} {ct : Nat → va_E} {r : Nat} (h : r < N) : (ww N ad ct)[r]? = some (ad r, ct r) := by
  simp [ww, h]
theorem ww_at {N : Nat} {ad : Nat → Nat} {ct : Nat → va_E} {r a : Nat} {x : va_E} (h : r < N) (ha : ad r = a) (hx : ct r = x) : (ww N ad ct)[r]? = some (a, x) := by
  rw [ww_get h, ha, hx]
theorem ww_of {N : Nat} {ad : Nat → Nat} {ct : Nat → va_E} {k : Nat} {q : Nat × va_E} (h : (ww N ad ct)[k]? = some q) : k < N ∧ q = (ad k, ct k) := by
  have hk : k < (ww N ad ct).length := (List.getElem?_eq_some_iff.mp h).1
  rw [ww_len] at hk
  rw [ww_get hk] at h
  exact ⟨hk, (Option.some.inj h).symm⟩
theorem ww_set {N : Nat} {ad : Nat → Nat} {ct : Nat → va_E} {r a : Nat} {x : va_E} (h : r < N) (ha : ad r = a) : (ww N ad ct).set r (a, x) = ww N ad (va_up ct r x) := by
  subst ha
  apply List.ext_getElem?
  intro k
  by_cases hk : k = r
  · subst hk
    rw [List.getElem?_set_self (by rw [ww_len]; exact h), ww_get h, va_up_self]
  · rw [List.getElem?_set_ne (Ne.symm hk)]
    by_cases hN : k < N
    · rw [ww_get hN, ww_get hN, va_up_ne _ _ hk]
    · rw [List.getElem?_eq_none (by rw [ww_len]; omega), List.getElem?_eq_none (by rw [ww_len]; omega)]
theorem ww_push {N : Nat} {ad : Nat → Nat} {ct : Nat → va_E} {a : Nat} {x : va_E} : ww N ad ct ++ [(a, x)] = ww (N + 1) (va_up ad N a) (va_up ct N x) := by
  apply List.ext_getElem?
  intro k
  rcases Nat.lt_trichotomy k N with h | h | h
  · rw [List.getElem?_append_left (by rw [ww_len]; exact h), ww_get h, ww_get (by omega), va_up_ne _ _ (by omega), va_up_ne _ _ (by omega)]
  · subst h
    rw [List.getElem?_append_right (by rw [ww_len]; omega), ww_len, ww_get (by omega), va_up_self, va_up_self, Nat.sub_self]
    rfl
  · rw [List.getElem?_eq_none (by simp [ww_len]; omega), List.getElem?_eq_none (by rw [ww_len]; omega)]
theorem ww_congr {N : Nat} {ad : Nat → Nat} {ct ct' : Nat → va_E} (h : ∀ r, r < N → ct r = ct' r) : ww N ad ct = ww N ad ct' := by
  apply List.ext_getElem?
  intro k
  by_cases hN : k < N
  · rw [ww_get hN, ww_get hN, h k hN]
  · rw [List.getElem?_eq_none (by rw [ww_len]; omega), List.getElem?_eq_none (by rw [ww_len]; omega)]
theorem ww_congrA {N : Nat} {ad ad' : Nat → Nat} {ct ct' : Nat → va_E} (ha : ∀ r, r < N → ad r = ad' r) (h : ∀ r, r < N → ct r = ct' r) : ww N ad ct = ww N ad' ct' := by
  apply List.ext_getElem?
  intro k
  by_cases hN : k < N
  · rw [ww_get hN, ww_get hN, h k hN, ha k hN]
  · rw [List.getElem?_eq_none (by rw [ww_len]; omega), List.getElem?_eq_none (by rw [ww_len]; omega)]
/-- what a method may change: its world, and what it makes -/
def wA (N : Nat) (ad : Nat → Nat) (sz : Nat) : Nat → Prop := fun q => (∃ r, r < N ∧ q = ad r) ∨ sz ≤ q
/-- what the tables say, of a state -/
def KX (D : va_G) (tys : List (ClassId × FieldType)) (U : State) : Prop := va_K D vwCl tys U ∧ va_AO RX1 U ∧ va_AO RX3 U ∧ va_Nw (.methodLinkNest RX5 29 yX4_init RX5) U
theorem KX.warm {D : va_G} {tys : List (ClassId × FieldType)} {s U : State} (hW : s.WarmedH U.vm) (h : KX D tys s) : KX D tys U :=
  ⟨va_K.moved hW.alike h.1, va_AO.moved hW.alike h.2.1, va_AO.moved hW.alike h.2.2.1, va_Nw.warmM hW h.2.2.2⟩
theorem KX.call {D : va_G} {tys : List (ClassId × FieldType)} {U : State} {g : JFrame} {mk : MethodId} {a : Array Value} (h : KX D tys U) : KX D tys (U.calling g mk a) :=
  ⟨va_K.moved (u := U) (U := U.calling g mk a) (Vm.Alike.refl U.vm) h.1, va_AO.moved (u := U) (U := U.calling g mk a) (Vm.Alike.refl U.vm) h.2.1, va_AO.moved (u := U) (U := U.calling g mk a) (Vm.Alike.refl U.vm) h.2.2.1, va_Nw.same rfl (u := U) (U := U.calling g mk a) rfl h.2.2.2⟩
def hwd (D : va_G) (A : Nat → Prop) (N : Nat) (ad : Nat → Nat) (ct : Nat → va_E) (H : Heap) : Prop := va_P D vwCl (ww N ad ct) H ∧ va_D A (ww N ad ct)
def WD (D : va_G) (A : Nat → Prop) (H0 : Heap) (N : Nat) (ad : Nat → Nat) (ct : Nat → va_E) (H : Heap) (locs : List Loc) : Prop := hwd D A N ad ct H ∧ va_S A H0 H locs
def MPre (D : va_G) (tys : List (ClassId × FieldType)) (N : Nat) (ad : Nat → Nat) (ct : Nat → va_E) (sz : Nat) (av : List Value) : Array Value → State → Prop := va_Pc av (fun U => U.heap.size = sz ∧ KX D tys U ∧ hwd D (fun _ => True) N ad ct U.heap)
/-- a method's end: the answer v, the world N' ad' ct', of which B holds -/
def QC (D : va_G) (A : Nat → Prop) (B : Option Value → Nat → (Nat → Nat) → (Nat → va_E) → Prop) : Array Value → State → Outcome → State → Prop := fun _ st oc t =>
  (∃ v N' ad' ct', oc = .returned v ∧ B v N' ad' ct' ∧ hwd D A N' ad' ct' t.heap) ∧ va_F A st t
abbrev wsM (y : MethodName) (b : ByteArray) (nL : Nat) (ret : Option FieldType) : List Cond := .code y b nL ret :: TG
/-- a method's contract -/
def MC (l : Launch) (y : MethodName) (b : ByteArray) (nL : Nat) (ret : Option FieldType) (rm : Room) (D : va_G) (tys : List (ClassId × FieldType)) (N : Nat) (ad : Nat → Nat) (ct : Nat → va_E) (av : List Value) (B : Option Value → Nat → (Nat → Nat) → (Nat → va_E) → Prop) : Prop :=
  ∀ sz, Met l y (wsM y b nL ret) rm (MPre D tys N ad ct sz av) (QC D (wA N ad sz) B) rm.cells rm.slots (wA N ad sz)
/-- the simple end: this answer, this world, no cell made; E holds too -/
def BS (V : Option Value) (N : Nat) (ad : Nat → Nat) (ct : Nat → va_E) (E : Prop) : Option Value → Nat → (Nat → Nat) → (Nat → va_E) → Prop := fun v N' ad' ct' => v = V ∧ N' = N ∧ ad' = ad ∧ ct' = ct ∧ E
/-- what stays while a body runs -/
def Cx (p : Program) (s : State) (m : MethodId) (args : Array Value) (meth : Method) (c : Code) (cc : ByteArray) (own : String) (nL : Nat) (D : va_G) (tys : List (ClassId × FieldType)) (A : Nat → Prop) (H0 : Heap) : Prop :=
  CallFix p m c cc nL s args TG own ∧ KX D tys s ∧ (∀ q, H0.size ≤ q → A q) ∧ meth.locks = false
/-- where a body ends -/
def RX (s : State) (args : Array Value) (below : List Frame) (meth : Method) (Q : State → Prop) (D : va_G) (A : Nat → Prop) (H0 : Heap) (mc ms : Nat) (ret : Option FieldType) (nm : String) (B : Option Value → Nat → (Nat → Nat) → (Nat → va_E) → Prop) : Prop :=
  Q = MQ below (QC D A B) args s mc ms A ∧ s.heap = H0 ∧ meth.sig.returnType = ret ∧ meth.name = nm
/-- the machine at pc, with these locals, this stack, this world, comes to Q -/
def J (p : Program) (l : Launch) (e : Env) (R : Room) (s : State) (m : MethodId) (args : Array Value) (below : List Frame) (meth : Method) (c : Code) (Q : State → Prop) (D : va_G) (A : Nat → Prop) (H0 : Heap) (nL k n N : Nat) (ad : Nat → Nat) (ct : Nat → va_E) (pc : Nat) (lv : List (Nat × Value)) (st : List Value) : Prop :=
  ∀ (H : Heap) (locs : List Loc) (ls : Array Slot), WD D A H0 N ad ct H locs → lv_has ls nL lv → W p l e R s m args below meth c H locs k n Q (F0 m pc ls st)
theorem wA_of {D : va_G} {A : Nat → Prop} {H0 H : Heap} {N : Nat} {ad : Nat → Nat} {ct : Nat → va_E} {locs : List Loc} (hA : ∀ q, H0.size ≤ q → A q) (w : WD D A H0 N ad ct H locs) : ∀ q, wA N ad H.size q → A q := by
  intro q h
  rcases h with ⟨r, hr, rfl⟩ | h
  · exact w.1.2.2 r _ (ww_get hr)
  · exact hA q (Nat.le_trans w.2.1 h)
theorem good_TG {y : MethodName} {b : ByteArray} {nL : Nat} {ret : Option FieldType} (hc : Cond.code y b nL ret ∈ TG) : GoodIn TG (wsM y b nL ret) := by
  intro w h
  rcases List.mem_cons.mp h with rfl | h
  · exact ⟨hc, good_of_word (TG_good hc)⟩
  · exact ⟨h, good_of_word (TG_good h)⟩
theorem MPre_blind {D : va_G} {tys : List (ClassId × FieldType)} {N : Nat} {ad : Nat → Nat} {ct : Nat → va_E} {sz : Nat} {av : List Value} : FrameBlind (MPre D tys N ad ct sz av) := fun _ _ _ _ h => ⟨h.1, h.2.1, h.2.2.1.call, h.2.2.2⟩
section JR
variable {p : Program} {l : Launch} {e : Env} {R : Room} {s : State} {m : MethodId} {args : Array Value} {below : List Frame} {meth : Method} {c : Code} {Q : State → Prop} {D : va_G} {A : Nat → Prop} {H0 : Heap} {nL k n N : Nat} {ad : Nat → Nat} {ct : Nat → va_E} {pc : Nat} {lv : List (Nat × Value)} {st : List Value} {cc : ByteArray} {own : String} {tys : List (ClassId × FieldType)}
theorem j_lv (is : List Nat) {lv' : List (Nat × Value)} (h : lv_pick lv is = lv') (kk : J p l e R s m args below meth c Q D A H0 nL k n N ad ct pc lv' st) : J p l e R s m args below meth c Q D A H0 nL k n N ad ct pc lv st := fun H locs ls w hl => kk H locs ls w (lv_sub hl is h)
theorem j_ct {ct' : Nat → va_E} (h : ∀ r, r < N → ct r = ct' r) (kk : J p l e R s m args below meth c Q D A H0 nL k n N ad ct' pc lv st) : J p l e R s m args below meth c Q D A H0 nL k n N ad ct pc lv st := by
  intro H locs ls w hl
  refine kk H locs ls ?_ hl
  unfold WD hwd at w ⊢
  rw [← ww_congr h]
  exact w
theorem j_widen (k' n' : Nat) (h1 : k ≤ k') (h2 : n ≤ n') (kk : J p l e R s m args below meth c Q D A H0 nL k' n' N ad ct pc lv st) : J p l e R s m args below meth c Q D A H0 nL k n N ad ct pc lv st := fun H locs ls w hl => W.widen h1 h2 (kk H locs ls w hl)
theorem j_st {st' : List Value} (h : st = st') (kk : J p l e R s m args below meth c Q D A H0 nL k n N ad ct pc lv st') : J p l e R s m args below meth c Q D A H0 nL k n N ad ct pc lv st := h ▸ kk
theorem j_iconst (pc' : Nat) (C : Cx p s m args meth c cc own nL D tys A H0) {v : Int} {x : Int32} (hd : decode cc pc = .ok (.iconst v, 1)) (hp : pc + 1 = pc') (hv : Int32.ofInt v = x) (kk : J p l e R s m args below meth c Q D A H0 nL k n N ad ct pc' lv (.int x :: st)) : J p l e R s m args below meth c Q D A H0 nL k n N ad ct pc lv st := fun H locs ls w hl => lv_iconst C.1.1 C.1.2.1 hd hv (hp ▸ kk H locs ls w hl)
theorem j_bipush (pc' : Nat) (C : Cx p s m args meth c cc own nL D tys A H0) {v : Int} {x : Int32} (hd : decode cc pc = .ok (.bipush v, 2)) (hp : pc + 2 = pc') (hv : (Int8.ofInt v).toInt32 = x) (kk : J p l e R s m args below meth c Q D A H0 nL k n N ad ct pc' lv (.int x :: st)) : J p l e R s m args below meth c Q D A H0 nL k n N ad ct pc lv st := fun H locs ls w hl => lv_bipush C.1.1 C.1.2.1 hd hv (hp ▸ kk H locs ls w hl)
theorem j_sipush (pc' : Nat) (C : Cx p s m args meth c cc own nL D tys A H0) {v : Int} {x : Int32} (hd : decode cc pc = .ok (.sipush v, 3)) (hp : pc + 3 = pc') (hv : (Int16.ofInt v).toInt32 = x) (kk : J p l e R s m args below meth c Q D A H0 nL k n N ad ct pc' lv (.int x :: st)) : J p l e R s m args below meth c Q D A H0 nL k n N ad ct pc lv st := fun H locs ls w hl => lv_sipush C.1.1 C.1.2.1 hd hv (hp ▸ kk H locs ls w hl)
theorem j_ldc (pc' : Nat) (C : Cx p s m args meth c cc own nL D tys A H0) {index : Nat} {x x' : Int32} (hw : Cond.constant own index x ∈ TG) (hd : decode cc pc = .ok (.ldc index, 2)) (hp : pc + 2 = pc') (hv : x = x') (kk : J p l e R s m args below meth c Q D A H0 nL k n N ad ct pc' lv (.int x' :: st)) : J p l e R s m args below meth c Q D A H0 nL k n N ad ct pc lv st := fun H locs ls w hl => lv_ldc C.1.1 C.1.2.1 C.1.2.2.2.1 (C.1.2.2.2.2 _ hw) hd (by rw [hp, hv]; exact kk H locs ls w hl)
theorem j_ldcw (pc' : Nat) (C : Cx p s m args meth c cc own nL D tys A H0) {index : Nat} {x x' : Int32} (hw : Cond.constant own index x ∈ TG) (hd : decode cc pc = .ok (.ldc_w index, 3)) (hp : pc + 3 = pc') (hv : x = x') (kk : J p l e R s m args below meth c Q D A H0 nL k n N ad ct pc' lv (.int x' :: st)) : J p l e R s m args below meth c Q D A H0 nL k n N ad ct pc lv st := fun H locs ls w hl => lv_ldcw C.1.1 C.1.2.1 C.1.2.2.2.1 (C.1.2.2.2.2 _ hw) hd (by rw [hp, hv]; exact kk H locs ls w hl)
theorem j_iload_n (pc' : Nat) (C : Cx p s m args meth c cc own nL D tys A H0) {i : Fin 4} {j : Nat} {x : Int32} (hd : decode cc pc = .ok (.iload_n i, 1)) (hp : pc + 1 = pc') (hi : (i : Nat) = j) (q : Nat) (hq : lv[q]? = some (j, .int x)) (kk : J p l e R s m args below meth c Q D A H0 nL k n N ad ct pc' lv (.int x :: st)) : J p l e R s m args below meth c Q D A H0 nL k n N ad ct pc lv st := fun H locs ls w hl => lv_iload_n C.1.1 C.1.2.1 hd hi (lv_at hl q hq) (hp ▸ kk H locs ls w hl)
theorem j_iload (pc' : Nat) (C : Cx p s m args meth c cc own nL D tys A H0) {j : Nat} {x : Int32} (hd : decode cc pc = .ok (.iload j, 2)) (hp : pc + 2 = pc') (q : Nat) (hq : lv[q]? = some (j, .int x)) (kk : J p l e R s m args below meth c Q D A H0 nL k n N ad ct pc' lv (.int x :: st)) : J p l e R s m args below meth c Q D A H0 nL k n N ad ct pc lv st := fun H locs ls w hl => lv_iload C.1.1 C.1.2.1 hd (lv_at hl q hq) (hp ▸ kk H locs ls w hl)
theorem j_aload_n (pc' : Nat) (C : Cx p s m args meth c cc own nL D tys A H0) {i : Fin 4} {j : Nat} {x : Nat} (hd : decode cc pc = .ok (.aload_n i, 1)) (hp : pc + 1 = pc') (hi : (i : Nat) = j) (q : Nat) (hq : lv[q]? = some (j, .ref x)) (kk : J p l e R s m args below meth c Q D A H0 nL k n N ad ct pc' lv (.ref x :: st)) : J p l e R s m args below meth c Q D A H0 nL k n N ad ct pc lv st := fun H locs ls w hl => lv_aload_n C.1.1 C.1.2.1 hd hi (lv_at hl q hq) (hp ▸ kk H locs ls w hl)
theorem j_aload (pc' : Nat) (C : Cx p s m args meth c cc own nL D tys A H0) {j : Nat} {x : Nat} (hd : decode cc pc = .ok (.aload j, 2)) (hp : pc + 2 = pc') (q : Nat) (hq : lv[q]? = some (j, .ref x)) (kk : J p l e R s m args below meth c Q D A H0 nL k n N ad ct pc' lv (.ref x :: st)) : J p l e R s m args below meth c Q D A H0 nL k n N ad ct pc lv st := fun H locs ls w hl => lv_aload C.1.1 C.1.2.1 hd (lv_at hl q hq) (hp ▸ kk H locs ls w hl)
theorem j_aload_nN (pc' : Nat) (C : Cx p s m args meth c cc own nL D tys A H0) {i : Fin 4} {j : Nat} (hd : decode cc pc = .ok (.aload_n i, 1)) (hp : pc + 1 = pc') (hi : (i : Nat) = j) (q : Nat) (hq : lv[q]? = some (j, .null)) (kk : J p l e R s m args below meth c Q D A H0 nL k n N ad ct pc' lv (.null :: st)) : J p l e R s m args below meth c Q D A H0 nL k n N ad ct pc lv st := fun H locs ls w hl => lv_aload_nN C.1.1 C.1.2.1 hd hi (lv_at hl q hq) (hp ▸ kk H locs ls w hl)
theorem j_aloadN (pc' : Nat) (C : Cx p s m args meth c cc own nL D tys A H0) {j : Nat} (hd : decode cc pc = .ok (.aload j, 2)) (hp : pc + 2 = pc') (q : Nat) (hq : lv[q]? = some (j, .null)) (kk : J p l e R s m args below meth c Q D A H0 nL k n N ad ct pc' lv (.null :: st)) : J p l e R s m args below meth c Q D A H0 nL k n N ad ct pc lv st := fun H locs ls w hl => lv_aloadN C.1.1 C.1.2.1 hd (lv_at hl q hq) (hp ▸ kk H locs ls w hl)
theorem j_istore_n (pc' : Nat) (C : Cx p s m args meth c cc own nL D tys A H0) {i : Fin 4} {j : Nat} {x : Int32} (lv' : List (Nat × Value)) (hd : decode cc pc = .ok (.istore_n i, 1)) (hp : pc + 1 = pc') (hi : (i : Nat) = j) (hn : j < nL) (hl' : (j, Value.int x) :: lv.filter (fun q => !(q.1 == j) && !(q.1 + 1 == j && q.2.category == 2)) = lv') (kk : J p l e R s m args below meth c Q D A H0 nL k n N ad ct pc' lv' st) : J p l e R s m args below meth c Q D A H0 nL k n N ad ct pc lv (.int x :: st) := fun H locs ls w hl => lv_istore_n C.1.1 C.1.2.1 hd hi hl hn hl' (fun ls' hl2 => hp ▸ kk H locs ls' w hl2)
theorem j_istore (pc' : Nat) (C : Cx p s m args meth c cc own nL D tys A H0) {j : Nat} {x : Int32} (lv' : List (Nat × Value)) (hd : decode cc pc = .ok (.istore j, 2)) (hp : pc + 2 = pc') (hn : j < nL) (hl' : (j, Value.int x) :: lv.filter (fun q => !(q.1 == j) && !(q.1 + 1 == j && q.2.category == 2)) = lv') (kk : J p l e R s m args below meth c Q D A H0 nL k n N ad ct pc' lv' st) : J p l e R s m args below meth c Q D A H0 nL k n N ad ct pc lv (.int x :: st) := fun H locs ls w hl => lv_istore C.1.1 C.1.2.1 hd hl hn hl' (fun ls' hl2 => hp ▸ kk H locs ls' w hl2)
theorem j_astore_n (pc' : Nat) (C : Cx p s m args meth c cc own nL D tys A H0) {i : Fin 4} {j : Nat} {x : Nat} (lv' : List (Nat × Value)) (hd : decode cc pc = .ok (.astore_n i, 1)) (hp : pc + 1 = pc') (hi : (i : Nat) = j) (hn : j < nL) (hl' : (j, Value.ref x) :: lv.filter (fun q => !(q.1 == j) && !(q.1 + 1 == j && q.2.category == 2)) = lv') (kk : J p l e R s m args below meth c Q D A H0 nL k n N ad ct pc' lv' st) : J p l e R s m args below meth c Q D A H0 nL k n N ad ct pc lv (.ref x :: st) := fun H locs ls w hl => lv_astore_n C.1.1 C.1.2.1 hd hi hl hn hl' (fun ls' hl2 => hp ▸ kk H locs ls' w hl2)
theorem j_astore (pc' : Nat) (C : Cx p s m args meth c cc own nL D tys A H0) {j : Nat} {x : Nat} (lv' : List (Nat × Value)) (hd : decode cc pc = .ok (.astore j, 2)) (hp : pc + 2 = pc') (hn : j < nL) (hl' : (j, Value.ref x) :: lv.filter (fun q => !(q.1 == j) && !(q.1 + 1 == j && q.2.category == 2)) = lv') (kk : J p l e R s m args below meth c Q D A H0 nL k n N ad ct pc' lv' st) : J p l e R s m args below meth c Q D A H0 nL k n N ad ct pc lv (.ref x :: st) := fun H locs ls w hl => lv_astore C.1.1 C.1.2.1 hd hl hn hl' (fun ls' hl2 => hp ▸ kk H locs ls' w hl2)
theorem j_astore_nN (pc' : Nat) (C : Cx p s m args meth c cc own nL D tys A H0) {i : Fin 4} {j : Nat} (lv' : List (Nat × Value)) (hd : decode cc pc = .ok (.astore_n i, 1)) (hp : pc + 1 = pc') (hi : (i : Nat) = j) (hn : j < nL) (hl' : (j, Value.null) :: lv.filter (fun q => !(q.1 == j) && !(q.1 + 1 == j && q.2.category == 2)) = lv') (kk : J p l e R s m args below meth c Q D A H0 nL k n N ad ct pc' lv' st) : J p l e R s m args below meth c Q D A H0 nL k n N ad ct pc lv (.null :: st) := fun H locs ls w hl => lv_astore_nN C.1.1 C.1.2.1 hd hi hl hn hl' (fun ls' hl2 => hp ▸ kk H locs ls' w hl2)
theorem j_astoreN (pc' : Nat) (C : Cx p s m args meth c cc own nL D tys A H0) {j : Nat} (lv' : List (Nat × Value)) (hd : decode cc pc = .ok (.astore j, 2)) (hp : pc + 2 = pc') (hn : j < nL) (hl' : (j, Value.null) :: lv.filter (fun q => !(q.1 == j) && !(q.1 + 1 == j && q.2.category == 2)) = lv') (kk : J p l e R s m args below meth c Q D A H0 nL k n N ad ct pc' lv' st) : J p l e R s m args below meth c Q D A H0 nL k n N ad ct pc lv (.null :: st) := fun H locs ls w hl => lv_astoreN C.1.1 C.1.2.1 hd hl hn hl' (fun ls' hl2 => hp ▸ kk H locs ls' w hl2)
theorem va_rf_cat (x : Option Nat) : (va_rf x).category = 1 := by cases x <;> rfl
theorem j_astore_o (pc' : Nat) (C : Cx p s m args meth c cc own nL D tys A H0) {j : Nat} {x : Option Nat} (lv' : List (Nat × Value)) (hd : decode cc pc = .ok (.astore j, 2)) (hp : pc + 2 = pc') (hn : j < nL) (hl' : (j, va_rf x) :: lv.filter (fun q => !(q.1 == j) && !(q.1 + 1 == j && q.2.category == 2)) = lv') (kk : J p l e R s m args below meth c Q D A H0 nL k n N ad ct pc' lv' st) : J p l e R s m args below meth c Q D A H0 nL k n N ad ct pc lv (va_rf x :: st) := by
  cases x with
  | none => exact j_astoreN pc' C lv' hd hp hn hl' kk
  | some a => exact j_astore pc' C lv' hd hp hn hl' kk
theorem j_astore_no (pc' : Nat) (C : Cx p s m args meth c cc own nL D tys A H0) {i : Fin 4} {j : Nat} {x : Option Nat} (lv' : List (Nat × Value)) (hd : decode cc pc = .ok (.astore_n i, 1)) (hp : pc + 1 = pc') (hi : (i : Nat) = j) (hn : j < nL) (hl' : (j, va_rf x) :: lv.filter (fun q => !(q.1 == j) && !(q.1 + 1 == j && q.2.category == 2)) = lv') (kk : J p l e R s m args below meth c Q D A H0 nL k n N ad ct pc' lv' st) : J p l e R s m args below meth c Q D A H0 nL k n N ad ct pc lv (va_rf x :: st) := by
  cases x with
  | none => exact j_astore_nN pc' C lv' hd hp hi hn hl' kk
  | some a => exact j_astore_n pc' C lv' hd hp hi hn hl' kk
theorem j_aload_o (pc' : Nat) (C : Cx p s m args meth c cc own nL D tys A H0) {j : Nat} {x : Option Nat} (hd : decode cc pc = .ok (.aload j, 2)) (hp : pc + 2 = pc') (q : Nat) (hq : lv[q]? = some (j, va_rf x)) (kk : J p l e R s m args below meth c Q D A H0 nL k n N ad ct pc' lv (va_rf x :: st)) : J p l e R s m args below meth c Q D A H0 nL k n N ad ct pc lv st := by
  cases x with
  | none => exact j_aloadN pc' C hd hp q hq kk
  | some a => exact j_aload pc' C hd hp q hq kk
theorem j_aload_no (pc' : Nat) (C : Cx p s m args meth c cc own nL D tys A H0) {i : Fin 4} {j : Nat} {x : Option Nat} (hd : decode cc pc = .ok (.aload_n i, 1)) (hp : pc + 1 = pc') (hi : (i : Nat) = j) (q : Nat) (hq : lv[q]? = some (j, va_rf x)) (kk : J p l e R s m args below meth c Q D A H0 nL k n N ad ct pc' lv (va_rf x :: st)) : J p l e R s m args below meth c Q D A H0 nL k n N ad ct pc lv st := by
  cases x with
  | none => exact j_aload_nN pc' C hd hp hi q hq kk
  | some a => exact j_aload_n pc' C hd hp hi q hq kk
theorem j_iinc (pc' : Nat) (C : Cx p s m args meth c cc own nL D tys A H0) {j : Nat} {d : Int} {x x' : Int32} (lv' : List (Nat × Value)) (hd : decode cc pc = .ok (.iinc j d, 3)) (hp : pc + 3 = pc') (q : Nat) (hq : lv[q]? = some (j, .int x)) (hv : x + Int32.ofInt d = x') (hn : j < nL) (hl' : (j, Value.int x') :: lv.filter (fun q => !(q.1 == j) && !(q.1 + 1 == j && q.2.category == 2)) = lv') (kk : J p l e R s m args below meth c Q D A H0 nL k n N ad ct pc' lv' st) : J p l e R s m args below meth c Q D A H0 nL k n N ad ct pc lv st := fun H locs ls w hl => lv_iinc C.1.1 C.1.2.1 hd hl hq hv hn hl' (fun ls' hl2 => hp ▸ kk H locs ls' w hl2)
theorem j_iadd (pc' : Nat) (C : Cx p s m args meth c cc own nL D tys A H0) {x y z : Int32} (hd : decode cc pc = .ok (.iadd, 1)) (hp : pc + 1 = pc') (hz : x + y = z) (kk : J p l e R s m args below meth c Q D A H0 nL k n N ad ct pc' lv (.int z :: st)) : J p l e R s m args below meth c Q D A H0 nL k n N ad ct pc lv (.int y :: .int x :: st) := fun H locs ls w hl => lv_iadd C.1.1 C.1.2.1 hd (by rw [hp, hz]; exact kk H locs ls w hl)
theorem j_isub (pc' : Nat) (C : Cx p s m args meth c cc own nL D tys A H0) {x y z : Int32} (hd : decode cc pc = .ok (.isub, 1)) (hp : pc + 1 = pc') (hz : x - y = z) (kk : J p l e R s m args below meth c Q D A H0 nL k n N ad ct pc' lv (.int z :: st)) : J p l e R s m args below meth c Q D A H0 nL k n N ad ct pc lv (.int y :: .int x :: st) := fun H locs ls w hl => lv_isub C.1.1 C.1.2.1 hd (by rw [hp, hz]; exact kk H locs ls w hl)
theorem j_imul (pc' : Nat) (C : Cx p s m args meth c cc own nL D tys A H0) {x y z : Int32} (hd : decode cc pc = .ok (.imul, 1)) (hp : pc + 1 = pc') (hz : x * y = z) (kk : J p l e R s m args below meth c Q D A H0 nL k n N ad ct pc' lv (.int z :: st)) : J p l e R s m args below meth c Q D A H0 nL k n N ad ct pc lv (.int y :: .int x :: st) := fun H locs ls w hl => lv_imul C.1.1 C.1.2.1 hd (by rw [hp, hz]; exact kk H locs ls w hl)
theorem j_iand (pc' : Nat) (C : Cx p s m args meth c cc own nL D tys A H0) {x y z : Int32} (hd : decode cc pc = .ok (.iand, 1)) (hp : pc + 1 = pc') (hz : x &&& y = z) (kk : J p l e R s m args below meth c Q D A H0 nL k n N ad ct pc' lv (.int z :: st)) : J p l e R s m args below meth c Q D A H0 nL k n N ad ct pc lv (.int y :: .int x :: st) := fun H locs ls w hl => lv_iand C.1.1 C.1.2.1 hd (by rw [hp, hz]; exact kk H locs ls w hl)
theorem j_ior (pc' : Nat) (C : Cx p s m args meth c cc own nL D tys A H0) {x y z : Int32} (hd : decode cc pc = .ok (.ior, 1)) (hp : pc + 1 = pc') (hz : x ||| y = z) (kk : J p l e R s m args below meth c Q D A H0 nL k n N ad ct pc' lv (.int z :: st)) : J p l e R s m args below meth c Q D A H0 nL k n N ad ct pc lv (.int y :: .int x :: st) := fun H locs ls w hl => lv_ior C.1.1 C.1.2.1 hd (by rw [hp, hz]; exact kk H locs ls w hl)
theorem j_ixor (pc' : Nat) (C : Cx p s m args meth c cc own nL D tys A H0) {x y z : Int32} (hd : decode cc pc = .ok (.ixor, 1)) (hp : pc + 1 = pc') (hz : x ^^^ y = z) (kk : J p l e R s m args below meth c Q D A H0 nL k n N ad ct pc' lv (.int z :: st)) : J p l e R s m args below meth c Q D A H0 nL k n N ad ct pc lv (.int y :: .int x :: st) := fun H locs ls w hl => lv_ixor C.1.1 C.1.2.1 hd (by rw [hp, hz]; exact kk H locs ls w hl)
theorem j_idiv (pc' : Nat) (C : Cx p s m args meth c cc own nL D tys A H0) {x y z : Int32} (hd : decode cc pc = .ok (.idiv, 1)) (hp : pc + 1 = pc') (h0 : ¬ y = 0) (hz : x / y = z) (kk : J p l e R s m args below meth c Q D A H0 nL k n N ad ct pc' lv (.int z :: st)) : J p l e R s m args below meth c Q D A H0 nL k n N ad ct pc lv (.int y :: .int x :: st) := fun H locs ls w hl => lv_idiv C.1.1 C.1.2.1 hd h0 (by rw [hp, hz]; exact kk H locs ls w hl)
theorem j_irem (pc' : Nat) (C : Cx p s m args meth c cc own nL D tys A H0) {x y z : Int32} (hd : decode cc pc = .ok (.irem, 1)) (hp : pc + 1 = pc') (h0 : ¬ y = 0) (hz : x - x / y * y = z) (kk : J p l e R s m args below meth c Q D A H0 nL k n N ad ct pc' lv (.int z :: st)) : J p l e R s m args below meth c Q D A H0 nL k n N ad ct pc lv (.int y :: .int x :: st) := fun H locs ls w hl => lv_irem C.1.1 C.1.2.1 hd h0 (by rw [hp, hz]; exact kk H locs ls w hl)
theorem j_ineg (pc' : Nat) (C : Cx p s m args meth c cc own nL D tys A H0) {x z : Int32} (hd : decode cc pc = .ok (.ineg, 1)) (hp : pc + 1 = pc') (hz : -x = z) (kk : J p l e R s m args below meth c Q D A H0 nL k n N ad ct pc' lv (.int z :: st)) : J p l e R s m args below meth c Q D A H0 nL k n N ad ct pc lv (.int x :: st) := fun H locs ls w hl => lv_ineg C.1.1 C.1.2.1 hd (by rw [hp, hz]; exact kk H locs ls w hl)
theorem j_ishl (pc' : Nat) (C : Cx p s m args meth c cc own nL D tys A H0) {x y z : Int32} (hd : decode cc pc = .ok (.ishl, 1)) (hp : pc + 1 = pc') (hz : x <<< (y &&& 31) = z) (kk : J p l e R s m args below meth c Q D A H0 nL k n N ad ct pc' lv (.int z :: st)) : J p l e R s m args below meth c Q D A H0 nL k n N ad ct pc lv (.int y :: .int x :: st) := fun H locs ls w hl => lv_ishl C.1.1 C.1.2.1 hd (by rw [hp, hz]; exact kk H locs ls w hl)
theorem j_ishr (pc' : Nat) (C : Cx p s m args meth c cc own nL D tys A H0) {x y z : Int32} (hd : decode cc pc = .ok (.ishr, 1)) (hp : pc + 1 = pc') (hz : x >>> (y &&& 31) = z) (kk : J p l e R s m args below meth c Q D A H0 nL k n N ad ct pc' lv (.int z :: st)) : J p l e R s m args below meth c Q D A H0 nL k n N ad ct pc lv (.int y :: .int x :: st) := fun H locs ls w hl => lv_ishr C.1.1 C.1.2.1 hd (by rw [hp, hz]; exact kk H locs ls w hl)
theorem j_iushr (pc' : Nat) (C : Cx p s m args meth c cc own nL D tys A H0) {x y z : Int32} (hd : decode cc pc = .ok (.iushr, 1)) (hp : pc + 1 = pc') (hz : (x.toUInt32 >>> (y.toUInt32 &&& Int32.toUInt32 31)).toInt32 = z) (kk : J p l e R s m args below meth c Q D A H0 nL k n N ad ct pc' lv (.int z :: st)) : J p l e R s m args below meth c Q D A H0 nL k n N ad ct pc lv (.int y :: .int x :: st) := fun H locs ls w hl => lv_iushr C.1.1 C.1.2.1 hd hz (by rw [hp]; exact kk H locs ls w hl)
theorem j_dup (pc' : Nat) (C : Cx p s m args meth c cc own nL D tys A H0) {v : Value} (hd : decode cc pc = .ok (.dup, 1)) (hp : pc + 1 = pc') (hc : v.category = 1) (kk : J p l e R s m args below meth c Q D A H0 nL k n N ad ct pc' lv (v :: v :: st)) : J p l e R s m args below meth c Q D A H0 nL k n N ad ct pc lv (v :: st) := fun H locs ls w hl => lv_dup C.1.1 C.1.2.1 hd hc (hp ▸ kk H locs ls w hl)
theorem j_dup2 (pc' : Nat) (C : Cx p s m args meth c cc own nL D tys A H0) {v u : Value} (hd : decode cc pc = .ok (.dup2, 1)) (hp : pc + 1 = pc') (hc : v.category = 1) (hu : u.category = 1) (kk : J p l e R s m args below meth c Q D A H0 nL k n N ad ct pc' lv (v :: u :: v :: u :: st)) : J p l e R s m args below meth c Q D A H0 nL k n N ad ct pc lv (v :: u :: st) := fun H locs ls w hl => lv_dup2_11 C.1.1 C.1.2.1 hd hc hu (hp ▸ kk H locs ls w hl)
theorem j_null (pc' : Nat) (C : Cx p s m args meth c cc own nL D tys A H0) (hd : decode cc pc = .ok (.aconst_null, 1)) (hp : pc + 1 = pc') (kk : J p l e R s m args below meth c Q D A H0 nL k n N ad ct pc' lv (.null :: st)) : J p l e R s m args below meth c Q D A H0 nL k n N ad ct pc lv st := fun H locs ls w hl => lv_null C.1.1 C.1.2.1 hd (hp ▸ kk H locs ls w hl)
theorem j_goto (pc' : Nat) (C : Cx p s m args meth c cc own nL D tys A H0) {o : Int} (hd : decode cc pc = .ok (.goto o, 3)) (hp : (pc : Int) + o = (pc' : Int)) (kk : J p l e R s m args below meth c Q D A H0 nL k n N ad ct pc' lv st) : J p l e R s m args below meth c Q D A H0 nL k n N ad ct pc lv st := fun H locs ls w hl => lv_goto C.1.1 C.1.2.1 hd hp (kk H locs ls w hl)
theorem j_if_eq (pt pc' : Nat) (C : Cx p s m args meth c cc own nL D tys A H0) {o : Int} {x : Int32} (hd : decode cc pc = .ok (.ifCond .eq o, 3)) (ht : (pc : Int) + o = (pt : Int)) (hp : pc + 3 = pc') (kt : x = 0 → J p l e R s m args below meth c Q D A H0 nL k n N ad ct pt lv st) (kf : ¬ x = 0 → J p l e R s m args below meth c Q D A H0 nL k n N ad ct pc' lv st) : J p l e R s m args below meth c Q D A H0 nL k n N ad ct pc lv (.int x :: st) := fun H locs ls w hl => lv_if_eq C.1.1 C.1.2.1 hd ht (fun h => kt h H locs ls w hl) (fun h => hp ▸ kf h H locs ls w hl)
theorem j_ic_eq (pt pc' : Nat) (C : Cx p s m args meth c cc own nL D tys A H0) {o : Int} {x y : Int32} (hd : decode cc pc = .ok (.if_icmp .eq o, 3)) (ht : (pc : Int) + o = (pt : Int)) (hp : pc + 3 = pc') (kt : x = y → J p l e R s m args below meth c Q D A H0 nL k n N ad ct pt lv st) (kf : ¬ x = y → J p l e R s m args below meth c Q D A H0 nL k n N ad ct pc' lv st) : J p l e R s m args below meth c Q D A H0 nL k n N ad ct pc lv (.int y :: .int x :: st) := fun H locs ls w hl => lv_icmp_eq C.1.1 C.1.2.1 hd ht (fun h => kt h H locs ls w hl) (fun h => hp ▸ kf h H locs ls w hl)
theorem j_in_eq (pt pc' : Nat) (C : Cx p s m args meth c cc own nL D tys A H0) {o : Int} {x y : Nat} (hx : x < 2 ^ 31) (hy : y < 2 ^ 31) (hd : decode cc pc = .ok (.if_icmp .eq o, 3)) (ht : (pc : Int) + o = (pt : Int)) (hp : pc + 3 = pc') (kt : x = y → J p l e R s m args below meth c Q D A H0 nL k n N ad ct pt lv st) (kf : ¬ x = y → J p l e R s m args below meth c Q D A H0 nL k n N ad ct pc' lv st) : J p l e R s m args below meth c Q D A H0 nL k n N ad ct pc lv (.int (nI y) :: .int (nI x) :: st) := j_ic_eq pt pc' C hd ht hp (fun h => kt ((nI_eq hx hy).mp h)) (fun h => kf (fun q => h ((nI_eq hx hy).mpr q)))
theorem j_if_ne (pt pc' : Nat) (C : Cx p s m args meth c cc own nL D tys A H0) {o : Int} {x : Int32} (hd : decode cc pc = .ok (.ifCond .ne o, 3)) (ht : (pc : Int) + o = (pt : Int)) (hp : pc + 3 = pc') (kt : ¬ x = 0 → J p l e R s m args below meth c Q D A H0 nL k n N ad ct pt lv st) (kf : x = 0 → J p l e R s m args below meth c Q D A H0 nL k n N ad ct pc' lv st) : J p l e R s m args below meth c Q D A H0 nL k n N ad ct pc lv (.int x :: st) := fun H locs ls w hl => lv_if_ne C.1.1 C.1.2.1 hd ht (fun h => kt h H locs ls w hl) (fun h => hp ▸ kf h H locs ls w hl)
theorem j_ic_ne (pt pc' : Nat) (C : Cx p s m args meth c cc own nL D tys A H0) {o : Int} {x y : Int32} (hd : decode cc pc = .ok (.if_icmp .ne o, 3)) (ht : (pc : Int) + o = (pt : Int)) (hp : pc + 3 = pc') (kt : ¬ x = y → J p l e R s m args below meth c Q D A H0 nL k n N ad ct pt lv st) (kf : x = y → J p l e R s m args below meth c Q D A H0 nL k n N ad ct pc' lv st) : J p l e R s m args below meth c Q D A H0 nL k n N ad ct pc lv (.int y :: .int x :: st) := fun H locs ls w hl => lv_icmp_ne C.1.1 C.1.2.1 hd ht (fun h => kt h H locs ls w hl) (fun h => hp ▸ kf h H locs ls w hl)
theorem j_in_ne (pt pc' : Nat) (C : Cx p s m args meth c cc own nL D tys A H0) {o : Int} {x y : Nat} (hx : x < 2 ^ 31) (hy : y < 2 ^ 31) (hd : decode cc pc = .ok (.if_icmp .ne o, 3)) (ht : (pc : Int) + o = (pt : Int)) (hp : pc + 3 = pc') (kt : ¬ x = y → J p l e R s m args below meth c Q D A H0 nL k n N ad ct pt lv st) (kf : x = y → J p l e R s m args below meth c Q D A H0 nL k n N ad ct pc' lv st) : J p l e R s m args below meth c Q D A H0 nL k n N ad ct pc lv (.int (nI y) :: .int (nI x) :: st) := j_ic_ne pt pc' C hd ht hp (fun h => kt (((not_congr (nI_eq hx hy))).mp h)) (fun h => kf ((nI_eq hx hy).mp h))
theorem j_if_lt (pt pc' : Nat) (C : Cx p s m args meth c cc own nL D tys A H0) {o : Int} {x : Int32} (hd : decode cc pc = .ok (.ifCond .lt o, 3)) (ht : (pc : Int) + o = (pt : Int)) (hp : pc + 3 = pc') (kt : x < 0 → J p l e R s m args below meth c Q D A H0 nL k n N ad ct pt lv st) (kf : ¬ x < 0 → J p l e R s m args below meth c Q D A H0 nL k n N ad ct pc' lv st) : J p l e R s m args below meth c Q D A H0 nL k n N ad ct pc lv (.int x :: st) := fun H locs ls w hl => lv_if_lt C.1.1 C.1.2.1 hd ht (fun h => kt h H locs ls w hl) (fun h => hp ▸ kf h H locs ls w hl)
theorem j_ic_lt (pt pc' : Nat) (C : Cx p s m args meth c cc own nL D tys A H0) {o : Int} {x y : Int32} (hd : decode cc pc = .ok (.if_icmp .lt o, 3)) (ht : (pc : Int) + o = (pt : Int)) (hp : pc + 3 = pc') (kt : x < y → J p l e R s m args below meth c Q D A H0 nL k n N ad ct pt lv st) (kf : ¬ x < y → J p l e R s m args below meth c Q D A H0 nL k n N ad ct pc' lv st) : J p l e R s m args below meth c Q D A H0 nL k n N ad ct pc lv (.int y :: .int x :: st) := fun H locs ls w hl => lv_icmp_lt C.1.1 C.1.2.1 hd ht (fun h => kt h H locs ls w hl) (fun h => hp ▸ kf h H locs ls w hl)
theorem j_in_lt (pt pc' : Nat) (C : Cx p s m args meth c cc own nL D tys A H0) {o : Int} {x y : Nat} (hx : x < 2 ^ 31) (hy : y < 2 ^ 31) (hd : decode cc pc = .ok (.if_icmp .lt o, 3)) (ht : (pc : Int) + o = (pt : Int)) (hp : pc + 3 = pc') (kt : x < y → J p l e R s m args below meth c Q D A H0 nL k n N ad ct pt lv st) (kf : ¬ x < y → J p l e R s m args below meth c Q D A H0 nL k n N ad ct pc' lv st) : J p l e R s m args below meth c Q D A H0 nL k n N ad ct pc lv (.int (nI y) :: .int (nI x) :: st) := j_ic_lt pt pc' C hd ht hp (fun h => kt ((nI_ltI hx hy).mp h)) (fun h => kf (fun q => h ((nI_ltI hx hy).mpr q)))
theorem j_if_ge (pt pc' : Nat) (C : Cx p s m args meth c cc own nL D tys A H0) {o : Int} {x : Int32} (hd : decode cc pc = .ok (.ifCond .ge o, 3)) (ht : (pc : Int) + o = (pt : Int)) (hp : pc + 3 = pc') (kt : 0 ≤ x → J p l e R s m args below meth c Q D A H0 nL k n N ad ct pt lv st) (kf : ¬ 0 ≤ x → J p l e R s m args below meth c Q D A H0 nL k n N ad ct pc' lv st) : J p l e R s m args below meth c Q D A H0 nL k n N ad ct pc lv (.int x :: st) := fun H locs ls w hl => lv_if_ge C.1.1 C.1.2.1 hd ht (fun h => kt h H locs ls w hl) (fun h => hp ▸ kf h H locs ls w hl)
theorem j_ic_ge (pt pc' : Nat) (C : Cx p s m args meth c cc own nL D tys A H0) {o : Int} {x y : Int32} (hd : decode cc pc = .ok (.if_icmp .ge o, 3)) (ht : (pc : Int) + o = (pt : Int)) (hp : pc + 3 = pc') (kt : y ≤ x → J p l e R s m args below meth c Q D A H0 nL k n N ad ct pt lv st) (kf : ¬ y ≤ x → J p l e R s m args below meth c Q D A H0 nL k n N ad ct pc' lv st) : J p l e R s m args below meth c Q D A H0 nL k n N ad ct pc lv (.int y :: .int x :: st) := fun H locs ls w hl => lv_icmp_ge C.1.1 C.1.2.1 hd ht (fun h => kt h H locs ls w hl) (fun h => hp ▸ kf h H locs ls w hl)
theorem j_in_ge (pt pc' : Nat) (C : Cx p s m args meth c cc own nL D tys A H0) {o : Int} {x y : Nat} (hx : x < 2 ^ 31) (hy : y < 2 ^ 31) (hd : decode cc pc = .ok (.if_icmp .ge o, 3)) (ht : (pc : Int) + o = (pt : Int)) (hp : pc + 3 = pc') (kt : y ≤ x → J p l e R s m args below meth c Q D A H0 nL k n N ad ct pt lv st) (kf : ¬ y ≤ x → J p l e R s m args below meth c Q D A H0 nL k n N ad ct pc' lv st) : J p l e R s m args below meth c Q D A H0 nL k n N ad ct pc lv (.int (nI y) :: .int (nI x) :: st) := j_ic_ge pt pc' C hd ht hp (fun h => kt ((nI_leI hy hx).mp h)) (fun h => kf (fun q => h ((nI_leI hy hx).mpr q)))
theorem j_if_gt (pt pc' : Nat) (C : Cx p s m args meth c cc own nL D tys A H0) {o : Int} {x : Int32} (hd : decode cc pc = .ok (.ifCond .gt o, 3)) (ht : (pc : Int) + o = (pt : Int)) (hp : pc + 3 = pc') (kt : 0 < x → J p l e R s m args below meth c Q D A H0 nL k n N ad ct pt lv st) (kf : ¬ 0 < x → J p l e R s m args below meth c Q D A H0 nL k n N ad ct pc' lv st) : J p l e R s m args below meth c Q D A H0 nL k n N ad ct pc lv (.int x :: st) := fun H locs ls w hl => lv_if_gt C.1.1 C.1.2.1 hd ht (fun h => kt h H locs ls w hl) (fun h => hp ▸ kf h H locs ls w hl)
theorem j_ic_gt (pt pc' : Nat) (C : Cx p s m args meth c cc own nL D tys A H0) {o : Int} {x y : Int32} (hd : decode cc pc = .ok (.if_icmp .gt o, 3)) (ht : (pc : Int) + o = (pt : Int)) (hp : pc + 3 = pc') (kt : y < x → J p l e R s m args below meth c Q D A H0 nL k n N ad ct pt lv st) (kf : ¬ y < x → J p l e R s m args below meth c Q D A H0 nL k n N ad ct pc' lv st) : J p l e R s m args below meth c Q D A H0 nL k n N ad ct pc lv (.int y :: .int x :: st) := fun H locs ls w hl => lv_icmp_gt C.1.1 C.1.2.1 hd ht (fun h => kt h H locs ls w hl) (fun h => hp ▸ kf h H locs ls w hl)
theorem j_in_gt (pt pc' : Nat) (C : Cx p s m args meth c cc own nL D tys A H0) {o : Int} {x y : Nat} (hx : x < 2 ^ 31) (hy : y < 2 ^ 31) (hd : decode cc pc = .ok (.if_icmp .gt o, 3)) (ht : (pc : Int) + o = (pt : Int)) (hp : pc + 3 = pc') (kt : y < x → J p l e R s m args below meth c Q D A H0 nL k n N ad ct pt lv st) (kf : ¬ y < x → J p l e R s m args below meth c Q D A H0 nL k n N ad ct pc' lv st) : J p l e R s m args below meth c Q D A H0 nL k n N ad ct pc lv (.int (nI y) :: .int (nI x) :: st) := j_ic_gt pt pc' C hd ht hp (fun h => kt ((nI_ltI hy hx).mp h)) (fun h => kf (fun q => h ((nI_ltI hy hx).mpr q)))
theorem j_if_le (pt pc' : Nat) (C : Cx p s m args meth c cc own nL D tys A H0) {o : Int} {x : Int32} (hd : decode cc pc = .ok (.ifCond .le o, 3)) (ht : (pc : Int) + o = (pt : Int)) (hp : pc + 3 = pc') (kt : x ≤ 0 → J p l e R s m args below meth c Q D A H0 nL k n N ad ct pt lv st) (kf : ¬ x ≤ 0 → J p l e R s m args below meth c Q D A H0 nL k n N ad ct pc' lv st) : J p l e R s m args below meth c Q D A H0 nL k n N ad ct pc lv (.int x :: st) := fun H locs ls w hl => lv_if_le C.1.1 C.1.2.1 hd ht (fun h => kt h H locs ls w hl) (fun h => hp ▸ kf h H locs ls w hl)
theorem j_ic_le (pt pc' : Nat) (C : Cx p s m args meth c cc own nL D tys A H0) {o : Int} {x y : Int32} (hd : decode cc pc = .ok (.if_icmp .le o, 3)) (ht : (pc : Int) + o = (pt : Int)) (hp : pc + 3 = pc') (kt : x ≤ y → J p l e R s m args below meth c Q D A H0 nL k n N ad ct pt lv st) (kf : ¬ x ≤ y → J p l e R s m args below meth c Q D A H0 nL k n N ad ct pc' lv st) : J p l e R s m args below meth c Q D A H0 nL k n N ad ct pc lv (.int y :: .int x :: st) := fun H locs ls w hl => lv_icmp_le C.1.1 C.1.2.1 hd ht (fun h => kt h H locs ls w hl) (fun h => hp ▸ kf h H locs ls w hl)
theorem j_in_le (pt pc' : Nat) (C : Cx p s m args meth c cc own nL D tys A H0) {o : Int} {x y : Nat} (hx : x < 2 ^ 31) (hy : y < 2 ^ 31) (hd : decode cc pc = .ok (.if_icmp .le o, 3)) (ht : (pc : Int) + o = (pt : Int)) (hp : pc + 3 = pc') (kt : x ≤ y → J p l e R s m args below meth c Q D A H0 nL k n N ad ct pt lv st) (kf : ¬ x ≤ y → J p l e R s m args below meth c Q D A H0 nL k n N ad ct pc' lv st) : J p l e R s m args below meth c Q D A H0 nL k n N ad ct pc lv (.int (nI y) :: .int (nI x) :: st) := j_ic_le pt pc' C hd ht hp (fun h => kt ((nI_leI hx hy).mp h)) (fun h => kf (fun q => h ((nI_leI hx hy).mpr q)))
theorem j_ifnull (pt pc' : Nat) (C : Cx p s m args meth c cc own nL D tys A H0) {o : Int} {x : Option Nat} (hd : decode cc pc = .ok (.ifnull o, 3)) (ht : (pc : Int) + o = (pt : Int)) (hp : pc + 3 = pc') (kt : x = none → J p l e R s m args below meth c Q D A H0 nL k n N ad ct pt lv st) (kf : ∀ a, x = some a → J p l e R s m args below meth c Q D A H0 nL k n N ad ct pc' lv st) : J p l e R s m args below meth c Q D A H0 nL k n N ad ct pc lv (va_rf x :: st) := by
  intro H locs ls w hl
  cases x with
  | none => exact lv_ifnullN C.1.1 C.1.2.1 hd ht (kt rfl H locs ls w hl)
  | some a => exact lv_ifnull C.1.1 C.1.2.1 hd (hp ▸ kf a rfl H locs ls w hl)
theorem j_ifnonnull (pt pc' : Nat) (C : Cx p s m args meth c cc own nL D tys A H0) {o : Int} {x : Option Nat} (hd : decode cc pc = .ok (.ifnonnull o, 3)) (ht : (pc : Int) + o = (pt : Int)) (hp : pc + 3 = pc') (kt : ∀ a, x = some a → J p l e R s m args below meth c Q D A H0 nL k n N ad ct pt lv st) (kf : x = none → J p l e R s m args below meth c Q D A H0 nL k n N ad ct pc' lv st) : J p l e R s m args below meth c Q D A H0 nL k n N ad ct pc lv (va_rf x :: st) := by
  intro H locs ls w hl
  cases x with
  | none => exact lv_ifnonnullN C.1.1 C.1.2.1 hd (hp ▸ kf rfl H locs ls w hl)
  | some a => exact lv_ifnonnull C.1.1 C.1.2.1 hd ht (kt a rfl H locs ls w hl)
theorem j_swIn (pt : Nat) (C : Cx p s m args meth c cc own nL D tys A H0) {dflt lo hi : Int} {offs : Array Int} {len : Nat} {x : Int32} {off : Int} (hd : decode cc pc = .ok (.tableswitch dflt lo hi offs, len)) (h1 : ¬ x.toInt < lo) (h2 : ¬ hi < x.toInt) (ho : offs[(x.toInt - lo).toNat]? = some off) (ht : (pc : Int) + off = (pt : Int)) (kk : J p l e R s m args below meth c Q D A H0 nL k n N ad ct pt lv st) : J p l e R s m args below meth c Q D A H0 nL k n N ad ct pc lv (.int x :: st) := fun H locs ls w hl => lv_tableIn C.1.1 C.1.2.1 hd h1 h2 ho ht (kk H locs ls w hl)
theorem j_swOut (pt : Nat) (C : Cx p s m args meth c cc own nL D tys A H0) {dflt lo hi : Int} {offs : Array Int} {len : Nat} {x : Int32} (hd : decode cc pc = .ok (.tableswitch dflt lo hi offs, len)) (h : x.toInt < lo ∨ hi < x.toInt) (ht : (pc : Int) + dflt = (pt : Int)) (kk : J p l e R s m args below meth c Q D A H0 nL k n N ad ct pt lv st) : J p l e R s m args below meth c Q D A H0 nL k n N ad ct pc lv (.int x :: st) := fun H locs ls w hl => lv_tableOut C.1.1 C.1.2.1 hd h ht (kk H locs ls w hl)
/-- a field's words -/
def FL (own : String) (index ci i : Nat) (C : String) (T : u_T) (NN : Nat) : Prop := vwCl[ci]? = some (C, T, NN) ∧ (∀ w ∈ u_ws C T NN, w ∈ TG) ∧ i < NN ∧ Cond.fieldLink own index (T i).1 (T i).2.1 (T i).2.2.1 ∈ TG
def FP (C : String) (T : u_T) (NN : Nat) (ty : Nat → FieldType) : Prop := (∀ i, i < NN → parseFieldDescriptor (T i).2.2.1 = some (ty i)) ∧ (∀ a, a < NN → ∀ b, b < NN → a ≠ b → (T a).2.1 ≠ (T b).2.1)
theorem j_get (pc' : Nat) (C : Cx p s m args meth c cc own nL D tys A H0) {index ci i : Nat} {Cn : String} {T : u_T} {NN : Nat} (F : FL own index ci i Cn T NN) (hd : decode cc pc = .ok (.getfield index, 3)) (hp : pc + 3 = pc') (r : Nat) (hr : r < N) {a : Nat} (ha : ad r = a) {fs : List Value} (he : ct r = .inr (ci, fs)) {v : Value} (hv : fs[i]? = some v) (kk : J p l e R s m args below meth c Q D A H0 nL k n N ad ct pc' lv (v :: st)) : J p l e R s m args below meth c Q D A H0 nL k n N ad ct pc lv (.ref a :: st) := fun H locs ls w hl =>
  va_get C.1.1 C.1.2.1 C.1.2.2.2.2 F.2.1 C.1.2.2.2.1 C.2.1.1 w.1.1 r (ww_at hr ha he) F.1 i F.2.2.1 (C.1.2.2.2.2 _ F.2.2.2) (fun _ h => h) hv hd (hp ▸ kk H locs ls w hl)
theorem j_put (pc' : Nat) (C : Cx p s m args meth c cc own nL D tys A H0) {index ci i : Nat} {Cn : String} {T : u_T} {NN : Nat} {ty : Nat → FieldType} (F : FL own index ci i Cn T NN) (P : FP Cn T NN ty) (hfin : (T i).2.2.2 = false) (hd : decode cc pc = .ok (.putfield index, 3)) (hp : pc + 3 = pc') (r : Nat) (hr : r < N) {a : Nat} (ha : ad r = a) {fs : List Value} (he : ct r = .inr (ci, fs)) {v : Value} (hn : narrow (ty i) v = v) (hfit : fits (ty i) v = true) (hl0 : i < fs.length) (kk : J p l e R s m args below meth c Q D A H0 nL k n N ad (va_up ct r (.inr (ci, fs.set i v))) pc' lv st) : J p l e R s m args below meth c Q D A H0 nL k n N ad ct pc lv (v :: .ref a :: st) := fun H locs ls w hl =>
  va_put C.1.1 C.1.2.1 C.1.2.2.2.2 F.2.1 ty P.1 P.2 C.1.2.2.2.1 C.2.1.1 w.1.1 w.1.2 w.2 r (ww_at hr ha he) F.1 i F.2.2.1 (C.1.2.2.2.2 _ F.2.2.2) (fun _ h => h) hfin (P.1 i F.2.2.1) hn hfit hl0 hd (fun H1 locs1 a1 a2 a3 => by
    rw [ww_set hr ha] at a1 a2
    exact hp ▸ kk H1 locs1 ls ⟨⟨a1, a2⟩, a3⟩ hl)
theorem j_putF (pc' : Nat) (C : Cx p s m args meth c cc own nL D tys A H0) {index ci i : Nat} {Cn : String} {T : u_T} {NN : Nat} {ty : Nat → FieldType} (F : FL own index ci i Cn T NN) (P : FP Cn T NN ty) (hfin : (T i).2.2.2 = true) (hin : meth.name = "<init>") (hdecl : (T i).1 = own) (hd : decode cc pc = .ok (.putfield index, 3)) (hp : pc + 3 = pc') (r : Nat) (hr : r < N) {a : Nat} (ha : ad r = a) {fs : List Value} (he : ct r = .inr (ci, fs)) {v : Value} (hn : narrow (ty i) v = v) (hfit : fits (ty i) v = true) (hl0 : i < fs.length) (kk : J p l e R s m args below meth c Q D A H0 nL k n N ad (va_up ct r (.inr (ci, fs.set i v))) pc' lv st) : J p l e R s m args below meth c Q D A H0 nL k n N ad ct pc lv (v :: .ref a :: st) := fun H locs ls w hl =>
  va_putF C.1.1 C.1.2.1 C.1.2.2.2.2 F.2.1 ty P.1 P.2 C.1.2.2.2.1 C.2.1.1 w.1.1 w.1.2 w.2 r (ww_at hr ha he) F.1 i F.2.2.1 (C.1.2.2.2.2 _ F.2.2.2) (fun _ h => h) hfin hin hdecl (P.1 i F.2.2.1) hn hfit hl0 hd (fun H1 locs1 a1 a2 a3 => by
    rw [ww_set hr ha] at a1 a2
    exact hp ▸ kk H1 locs1 ls ⟨⟨a1, a2⟩, a3⟩ hl)
theorem j_iald (pc' : Nat) (C : Cx p s m args meth c cc own nL D tys A H0) (hd : decode cc pc = .ok (.iaload, 1)) (hp : pc + 1 = pc') (r : Nat) (hr : r < N) {a : Nat} (ha : ad r = a) {cA : ClassId} {z : Nat} {f : Nat → Int32} (he : ct r = .inl (cA, z, .inl f)) (t0 : Nat) (ht : tys[t0]? = some (cA, .int)) {i : Int32} (hin : vp_in i z) {j : Nat} (hj : i.toNatClampNeg = j) (kk : J p l e R s m args below meth c Q D A H0 nL k n N ad ct pc' lv (.int (f j) :: st)) : J p l e R s m args below meth c Q D A H0 nL k n N ad ct pc lv (.int i :: .ref a :: st) := fun H locs ls w hl =>
  va_iald C.1.1 C.1.2.1 C.2.1.1 w.1.1 r t0 (ww_at hr ha he) ht hin hd (by rw [hp, hj]; exact kk H locs ls w hl)
theorem j_zald (pc' : Nat) (C : Cx p s m args meth c cc own nL D tys A H0) (hd : decode cc pc = .ok (.baload, 1)) (hp : pc + 1 = pc') (r : Nat) (hr : r < N) {a : Nat} (ha : ad r = a) {cA : ClassId} {z : Nat} {f : Nat → Int32} (he : ct r = .inl (cA, z, .inl f)) (t0 : Nat) (ht : tys[t0]? = some (cA, .boolean)) {i : Int32} (hin : vp_in i z) {j : Nat} (hj : i.toNatClampNeg = j) (kk : J p l e R s m args below meth c Q D A H0 nL k n N ad ct pc' lv (.int (f j) :: st)) : J p l e R s m args below meth c Q D A H0 nL k n N ad ct pc lv (.int i :: .ref a :: st) := fun H locs ls w hl =>
  va_zald C.1.1 C.1.2.1 C.2.1.1 w.1.1 r t0 (ww_at hr ha he) ht hin hd (by rw [hp, hj]; exact kk H locs ls w hl)
theorem j_iast (pc' : Nat) (C : Cx p s m args meth c cc own nL D tys A H0) (hd : decode cc pc = .ok (.iastore, 1)) (hp : pc + 1 = pc') (r : Nat) (hr : r < N) {a : Nat} (ha : ad r = a) {cA : ClassId} {z : Nat} {f : Nat → Int32} (he : ct r = .inl (cA, z, .inl f)) (t0 : Nat) (ht : tys[t0]? = some (cA, .int)) {i x : Int32} (hin : vp_in i z) {j : Nat} (hj : i.toNatClampNeg = j) (kk : J p l e R s m args below meth c Q D A H0 nL k n N ad (va_up ct r (.inl (cA, z, .inl (upd f j x)))) pc' lv st) : J p l e R s m args below meth c Q D A H0 nL k n N ad ct pc lv (.int x :: .int i :: .ref a :: st) := fun H locs ls w hl =>
  va_iast C.1.1 C.1.2.1 C.2.1.1 w.1.1 w.1.2 w.2 r t0 (ww_at hr ha he) ht hin hd (fun H1 locs1 a1 a2 a3 => by
    rw [ww_set hr ha, hj] at a1 a2
    exact hp ▸ kk H1 locs1 ls ⟨⟨a1, a2⟩, a3⟩ hl)
theorem j_zast (pc' : Nat) (C : Cx p s m args meth c cc own nL D tys A H0) (hd : decode cc pc = .ok (.bastore, 1)) (hp : pc + 1 = pc') (r : Nat) (hr : r < N) {a : Nat} (ha : ad r = a) {cA : ClassId} {z : Nat} {f : Nat → Int32} (he : ct r = .inl (cA, z, .inl f)) (t0 : Nat) (ht : tys[t0]? = some (cA, .boolean)) {i x : Int32} (hin : vp_in i z) {j : Nat} (hj : i.toNatClampNeg = j) (hb : vp_nar .boolean x = x) (kk : J p l e R s m args below meth c Q D A H0 nL k n N ad (va_up ct r (.inl (cA, z, .inl (upd f j x)))) pc' lv st) : J p l e R s m args below meth c Q D A H0 nL k n N ad ct pc lv (.int x :: .int i :: .ref a :: st) := fun H locs ls w hl =>
  va_zast C.1.1 C.1.2.1 C.2.1.1 w.1.1 w.1.2 w.2 r t0 (ww_at hr ha he) ht hin hd (fun H1 locs1 a1 a2 a3 => by
    rw [ww_set hr ha, hj, hb] at a1 a2
    exact hp ▸ kk H1 locs1 ls ⟨⟨a1, a2⟩, a3⟩ hl)
theorem j_alen (pc' : Nat) (C : Cx p s m args meth c cc own nL D tys A H0) (hd : decode cc pc = .ok (.arraylength, 1)) (hp : pc + 1 = pc') (r : Nat) (hr : r < N) {a : Nat} (ha : ad r = a) {cA : ClassId} {x : vp_A} (he : ct r = .inl (cA, x)) (t0 : Nat) {ty : FieldType} (ht : tys[t0]? = some (cA, ty)) (kk : J p l e R s m args below meth c Q D A H0 nL k n N ad ct pc' lv (.int (nI x.1) :: st)) : J p l e R s m args below meth c Q D A H0 nL k n N ad ct pc lv (.ref a :: st) := fun H locs ls w hl =>
  va_alen C.1.1 C.1.2.1 C.2.1.1 w.1.1 r t0 (ww_at hr ha he) ht rfl hd (hp ▸ kk H locs ls w hl)
theorem j_aldq (pc' : Nat) (C : Cx p s m args meth c cc own nL D tys A H0) (hd : decode cc pc = .ok (.aaload, 1)) (hp : pc + 1 = pc') (r : Nat) (hr : r < N) {a : Nat} (ha : ad r = a) {cA : ClassId} {Cn : String} {z : Nat} {f : Nat → Option Nat} (he : ct r = .inl (cA, z, .inr (.inr (.inr (.inr f))))) (t0 : Nat) (ht : tys[t0]? = some (cA, .object Cn)) {i : Int32} (hin : vp_in i z) {j : Nat} (hj : i.toNatClampNeg = j) {v : Value} (hv : va_rf (f j) = v) (kk : J p l e R s m args below meth c Q D A H0 nL k n N ad ct pc' lv (v :: st)) : J p l e R s m args below meth c Q D A H0 nL k n N ad ct pc lv (.int i :: .ref a :: st) := fun H locs ls w hl =>
  va_aldq C.1.1 C.1.2.1 C.2.1.1 w.1.1 r t0 (ww_at hr ha he) ht hin hd (by rw [hp, hj, hv]; exact kk H locs ls w hl)
theorem j_astq (pc' : Nat) (C : Cx p s m args meth c cc own nL D tys A H0) (hd : decode cc pc = .ok (.aastore, 1)) (hp : pc + 1 = pc') (r : Nat) (hr : r < N) {a : Nat} (ha : ad r = a) {cA : ClassId} {z : Nat} {f : Nat → Option Nat} (he : ct r = .inl (cA, z, .inr (.inr (.inr (.inr f))))) (ci : Nat) {rc : vw_C} (hc : vwCl[ci]? = some rc) (t0 : Nat) (ht : tys[t0]? = some (cA, .object rc.1)) (rv : Nat) (hrv : rv < N) {v : Nat} (hav : ad rv = v) {vs : List Value} (hev : ct rv = .inr (ci, vs)) {i : Int32} (hin : vp_in i z) {j : Nat} (hj : i.toNatClampNeg = j) (kk : J p l e R s m args below meth c Q D A H0 nL k n N ad (va_up ct r (.inl (cA, z, .inr (.inr (.inr (.inr (va_up f j (some v)))))))) pc' lv st) : J p l e R s m args below meth c Q D A H0 nL k n N ad ct pc lv (.ref v :: .int i :: .ref a :: st) := fun H locs ls w hl =>
  va_astq C.1.1 C.1.2.1 C.2.1.1 w.1.1 w.1.2 w.2 r t0 rv ci (ww_at hr ha he) ht (ww_at hrv hav hev) hc hin hd (fun H1 locs1 a1 a2 a3 => by
    rw [ww_set hr ha, hj] at a1 a2
    exact hp ▸ kk H1 locs1 ls ⟨⟨a1, a2⟩, a3⟩ hl)
theorem j_astqN (pc' : Nat) (C : Cx p s m args meth c cc own nL D tys A H0) (hd : decode cc pc = .ok (.aastore, 1)) (hp : pc + 1 = pc') (r : Nat) (hr : r < N) {a : Nat} (ha : ad r = a) {cA : ClassId} {Cn : String} {z : Nat} {f : Nat → Option Nat} (he : ct r = .inl (cA, z, .inr (.inr (.inr (.inr f))))) (t0 : Nat) (ht : tys[t0]? = some (cA, .object Cn)) {i : Int32} (hin : vp_in i z) {j : Nat} (hj : i.toNatClampNeg = j) (kk : J p l e R s m args below meth c Q D A H0 nL k n N ad (va_up ct r (.inl (cA, z, .inr (.inr (.inr (.inr (va_up f j none))))))) pc' lv st) : J p l e R s m args below meth c Q D A H0 nL k n N ad ct pc lv (.null :: .int i :: .ref a :: st) := fun H locs ls w hl =>
  va_astqN C.1.1 C.1.2.1 C.2.1.1 w.1.1 w.1.2 w.2 r t0 (ww_at hr ha he) ht hin hd (fun H1 locs1 a1 a2 a3 => by
    rw [ww_set hr ha, hj] at a1 a2
    exact hp ▸ kk H1 locs1 ls ⟨⟨a1, a2⟩, a3⟩ hl)
/-- behind a call -/
theorem j_run (C : Cx p s m args meth c cc own nL D tys A H0) {B : Option Value → Nat → (Nat → Nat) → (Nat → va_E) → Prop} {mc ms pc' : Nat} {av : Array Value} {st0 : List Value} (hp : pc + 3 = pc')
    (hrun : ∀ (H : Heap) (locs : List Loc) (ls : Array Slot), WD D A H0 N ad ct H locs → lv_has ls nL lv → va_Run p l e R s m args below meth c H locs k n mc ms (F0 m pc ls st0) st (QC D (wA N ad H.size) B av) (wA N ad H.size))
    (kk : ∀ v N' ad' ct', B v N' ad' ct' → J p l e R s m args below meth c Q D A H0 nL (k + mc) (n + ms) N' ad' ct' pc' lv (v.toList ++ st)) : J p l e R s m args below meth c Q D A H0 nL k n N ad ct pc lv st0 := by
  intro H locs ls w hl T hT X
  have hA := wA_of C.2.2.1 w
  obtain ⟨v, st₀, t, T', L, h0, X', hL, e1, e2, ⟨⟨v', N', ad', ct', hv, hB, hP, hD⟩, hz, hk⟩, st'⟩ := hrun H locs ls w hl T hT X
  cases hv
  rw [h0] at hz hk
  have wd : WD D A H0 N' ad' ct' T'.heap (locs ++ L) := by
    refine ⟨⟨by rw [e1]; exact hP, hD.weaken (fun _ _ _ h => hA _ h)⟩, Nat.le_trans w.2.1 (by rw [e1]; exact hz), fun q h1 h2 => ?_, fun q hq => ?_⟩
    · rw [e1, hk q (Nat.lt_of_lt_of_le h1 w.2.1) (fun z => h2 (hA q z))]
      exact w.2.2.1 q h1 h2
    · rcases List.mem_append.mp hq with h | h
      · exact w.2.2.2 q h
      · exact hA _ (hL q h)
  obtain ⟨t2, a1, b1⟩ := kk _ N' ad' ct' hB T'.heap (locs ++ L) ls wd hl T' rfl X'
  subst hp
  exact ⟨t2, st' t2 a1, b1⟩
theorem MPre_in {H : Heap} {locs : List Loc} (C : Cx p s m args meth c cc own nL D tys A H0) (w : WD D A H0 N ad ct H locs) {av : List Value} : ∀ U : State, U.heap = H → s.WarmedH U.vm → MPre D tys N ad ct H.size av av.toArray U := fun U hU hW => ⟨rfl, by rw [hU], C.2.1.warm hW, by rw [hU]; exact w.1.1, w.1.2.weaken (fun _ _ _ _ => trivial)⟩
/-- a virtual call's words -/
def CV (own : String) (index : Nat) (y : MethodName) (b : ByteArray) (nL2 : Nat) (ret : Option FieldType) (na : Nat) : Prop := Cond.methodLink own index y ∈ TG ∧ Cond.instanceMethod y ∈ TG ∧ Cond.selects y.cls y y ∈ TG ∧ Cond.initialized y.cls ∈ TG ∧ Cond.code y b nL2 ret ∈ TG ∧ (y.cls ≠ "java/lang/invoke/MethodHandle" ∧ y.cls ≠ "java/lang/invoke/VarHandle" ∧ (parseMethodDescriptor y.desc).map (fun d => d.parameters.length) = some na)
def RM (R rm : Room) (nL2 k n : Nat) : Prop := (rm.frames + 1 ≤ R.frames ∧ 8 + (nL2 + 11) + rm.locals ≤ R.locals) ∧ (k + rm.cells ≤ R.cells ∧ n + rm.slots ≤ R.slots)
theorem j_callV (pc' : Nat) (C : Cx p s m args meth c cc own nL D tys A H0) {index : Nat} {y : MethodName} {b : ByteArray} {nL2 na : Nat} {ret : Option FieldType} {rm : Room} {B : Option Value → Nat → (Nat → Nat) → (Nat → va_E) → Prop} {As : List Value} {a : Nat} {st0 : List Value} (cv : CV own index y b nL2 ret na) (hM : MC l y b nL2 ret rm D tys N ad ct (.ref a :: As) B) (hd : decode cc pc = .ok (.invokevirtual index, 3)) (hp : pc + 3 = pc') (r ci : Nat) (hr : r < N) (ha : ad r = a) {fs : List Value} (he : ct r = .inr (ci, fs)) {rc : vw_C} (hc : vwCl[ci]? = some rc) (hy : rc.1 = y.cls) (hna : As.length = na) (hst : st0 = As.reverse ++ .ref a :: st) (hR : RM R rm nL2 k n) (hcat : (st.map fun v => v.category).sum ≤ 8)
    (kk : ∀ v N' ad' ct', B v N' ad' ct' → J p l e R s m args below meth c Q D A H0 nL (k + rm.cells) (n + rm.slots) N' ad' ct' pc' lv (v.toList ++ st)) : J p l e R s m args below meth c Q D A H0 nL k n N ad ct pc lv st0 := by
  refine j_run C (av := (Value.ref a :: As).toArray) hp (fun H locs ls w hl => ?_) kk
  have hts := C.1.2.2.2.2
  refine va_runV (As := As) (rest := st) C.1 (hM H.size) (C := y.cls) (n := na) ⟨callB_of na hts (good_TG cv.2.2.2.2.1) rfl rfl rfl (hts _ cv.2.2.2.1) (hts _ cv.1) cv.2.2.2.2.2 hR.1, hts _ cv.2.1, hts _ cv.2.2.1⟩ ⟨MPre_blind, ?_, MPre_in C w⟩ rfl hna hl.1 hst (lv_room hcat) hd hR.2
  have h := va_recv C.2.1.1 w.1.1 hc (ww_at hr ha he)
  rw [hy] at h
  exact h
/-- a static call's words -/
def CS (own : String) (index : Nat) (y : MethodName) (b : ByteArray) (nL2 : Nat) (ret : Option FieldType) (na : Nat) : Prop := Cond.methodLink own index y ∈ TG ∧ Cond.static y ∈ TG ∧ Cond.initialized y.cls ∈ TG ∧ Cond.code y b nL2 ret ∈ TG ∧ (y.cls ≠ "java/lang/invoke/MethodHandle" ∧ y.cls ≠ "java/lang/invoke/VarHandle" ∧ (parseMethodDescriptor y.desc).map (fun d => d.parameters.length) = some na)
theorem j_callS (pc' : Nat) (C : Cx p s m args meth c cc own nL D tys A H0) {index : Nat} {y : MethodName} {b : ByteArray} {nL2 na : Nat} {ret : Option FieldType} {rm : Room} {B : Option Value → Nat → (Nat → Nat) → (Nat → va_E) → Prop} {As : List Value} {st0 : List Value} (cv : CS own index y b nL2 ret na) (hM : MC l y b nL2 ret rm D tys N ad ct As B) (hd : decode cc pc = .ok (.invokestatic index, 3)) (hp : pc + 3 = pc') (hna : As.length = na) (hst : st0 = As.reverse ++ st) (hR : RM R rm nL2 k n) (hcat : (st.map fun v => v.category).sum ≤ 8)
    (kk : ∀ v N' ad' ct', B v N' ad' ct' → J p l e R s m args below meth c Q D A H0 nL (k + rm.cells) (n + rm.slots) N' ad' ct' pc' lv (v.toList ++ st)) : J p l e R s m args below meth c Q D A H0 nL k n N ad ct pc lv st0 := by
  refine j_run C (av := As.toArray) hp (fun H locs ls w hl => ?_) kk
  have hts := C.1.2.2.2.2
  exact va_runS (As := As) (rest := st) C.1 (hM H.size) (n := na) ⟨callB_of na hts (good_TG cv.2.2.2.1) rfl rfl rfl (hts _ cv.2.2.1) (hts _ cv.1) cv.2.2.2.2 hR.1, hts _ cv.2.1⟩ ⟨MPre_blind, MPre_in C w⟩ rfl hna hl.1 hst (lv_room hcat) hd hR.2
/-- a constructor call's words -/
def CI (own : String) (index : Nat) (y : MethodName) (b : ByteArray) (nL2 : Nat) (na : Nat) : Prop := Cond.methodLink own index y ∈ TG ∧ Cond.instanceMethod y ∈ TG ∧ Cond.initialized y.cls ∈ TG ∧ Cond.code y b nL2 none ∈ TG ∧ y.name = "<init>" ∧ (y.cls ≠ "java/lang/invoke/MethodHandle" ∧ y.cls ≠ "java/lang/invoke/VarHandle" ∧ (parseMethodDescriptor y.desc).map (fun d => d.parameters.length) = some na)
theorem j_callI (pc' : Nat) (C : Cx p s m args meth c cc own nL D tys A H0) {index : Nat} {y : MethodName} {b : ByteArray} {nL2 na : Nat} {rm : Room} {B : Option Value → Nat → (Nat → Nat) → (Nat → va_E) → Prop} {As : List Value} {a : Nat} {st0 : List Value} (cv : CI own index y b nL2 na) (hM : MC l y b nL2 none rm D tys N ad ct (.ref a :: As) B) (hd : decode cc pc = .ok (.invokespecial index, 3)) (hp : pc + 3 = pc') (hna : As.length = na) (hst : st0 = As.reverse ++ .ref a :: st) (hR : RM R rm nL2 k n) (hcat : (st.map fun v => v.category).sum ≤ 8)
    (kk : ∀ v N' ad' ct', B v N' ad' ct' → J p l e R s m args below meth c Q D A H0 nL (k + rm.cells) (n + rm.slots) N' ad' ct' pc' lv (v.toList ++ st)) : J p l e R s m args below meth c Q D A H0 nL k n N ad ct pc lv st0 := by
  refine j_run C (av := (Value.ref a :: As).toArray) hp (fun H locs ls w hl => ?_) kk
  have hts := C.1.2.2.2.2
  exact va_runI (As := As) (rest := st) C.1 (hM H.size) (n := na) ⟨callB_of na hts (good_TG cv.2.2.2.1) rfl rfl rfl (hts _ cv.2.2.1) (hts _ cv.1) cv.2.2.2.2.2 hR.1, cv.2.2.2.2.1, hts _ cv.2.1⟩ ⟨MPre_blind, MPre_in C w⟩ rfl hna hl.1 hst (lv_room hcat) hd hR.2
theorem j_callIN (pc' : Nat) (C : Cx p s m args meth c cc RX5 nL D tys A H0) {b : ByteArray} {nL2 na : Nat} {rm : Room} {B : Option Value → Nat → (Nat → Nat) → (Nat → va_E) → Prop} {As : List Value} {a : Nat} {st0 : List Value} (cv : Cond.instanceMethod yX4_init ∈ TG ∧ Cond.initialized yX4_init.cls ∈ TG ∧ Cond.code yX4_init b nL2 none ∈ TG ∧ yX4_init.name = "<init>" ∧ (yX4_init.cls ≠ "java/lang/invoke/MethodHandle" ∧ yX4_init.cls ≠ "java/lang/invoke/VarHandle" ∧ (parseMethodDescriptor yX4_init.desc).map (fun d => d.parameters.length) = some na)) (hM : MC l yX4_init b nL2 none rm D tys N ad ct (.ref a :: As) B) (hd : decode cc pc = .ok (.invokespecial 29, 3)) (hp : pc + 3 = pc') (hna : As.length = na) (hst : st0 = As.reverse ++ .ref a :: st) (hR : RM R rm nL2 k n) (hcat : (st.map fun v => v.category).sum ≤ 8)
    (kk : ∀ v N' ad' ct', B v N' ad' ct' → J p l e R s m args below meth c Q D A H0 nL (k + rm.cells) (n + rm.slots) N' ad' ct' pc' lv (v.toList ++ st)) : J p l e R s m args below meth c Q D A H0 nL k n N ad ct pc lv st0 := by
  refine j_run C (av := (Value.ref a :: As).toArray) hp (fun H locs ls w hl => ?_) kk
  have hts := C.1.2.2.2.2
  exact va_runIN (As := As) (rest := st) C.1 (hM H.size) (n := na) ⟨va_cnB na hts (good_TG cv.2.2.1) rfl rfl rfl C.2.1.2.2.2 (hts _ cv.2.1) cv.2.2.2.2 hR.1, cv.2.2.2.1, hts _ cv.1⟩ ⟨MPre_blind, MPre_in C w⟩ rfl hna hl.1 hst (lv_room hcat) hd hR.2
theorem j_objInit (pc' : Nat) (C : Cx p s m args meth c cc own nL D tys A H0) {index : Nat} {a : Nat} (hw : Cond.methodLink own index objectInit ∈ TG) (hd : decode cc pc = .ok (.invokespecial index, 3)) (hp : pc + 3 = pc') (hR : 1 ≤ R.frames) (hR2 : (st.map fun v => v.category).sum + 12 ≤ R.locals) (kk : J p l e R s m args below meth c Q D A H0 nL k n N ad ct pc' lv st) : J p l e R s m args below meth c Q D A H0 nL k n N ad ct pc lv (.ref a :: st) := by
  intro H locs ls w hl
  have hts := C.1.2.2.2.2
  exact W.objInit C.1.1 C.1.2.1 C.1.2.2.2.1 (hts _ hw) (hts _ wi_objinit) (hts _ wc_objinit) rfl (by rw [C.1.2.2.1]; exact hl.1) rfl hd hR (by show 2 * 0 + _ + 12 ≤ _; omega) (hp ▸ kk H locs ls w hl)
theorem j_mmax (pc' : Nat) (C : Cx p s m args meth c cc own nL D tys A H0) {index : Nat} (hw : Cond.methodLink own index Lib.Math.max.name ∈ TG) {x y : Int32} {z : Int32} (hz : (if x < y then y else x) = z) (hd : decode cc pc = .ok (.invokestatic index, 3)) (hp : pc + 3 = pc') (hR : 1 ≤ R.frames) (hR2 : (st.map fun v => v.category).sum + 13 ≤ R.locals) (hk : k ≤ R.cells) (hn : n ≤ R.slots) (kk : J p l e R s m args below meth c Q D A H0 nL k n N ad ct pc' lv (.int z :: st)) : J p l e R s m args below meth c Q D A H0 nL k n N ad ct pc lv (.int y :: .int x :: st) := by
  intro H locs ls w hl
  have hts := C.1.2.2.2.2
  exact va_mmax C.1.1 C.1.2.1 (by rw [C.1.2.2.1]; exact hl.1.symm) C.1.2.2.2.1 (hts _ hw) (hts _ ws_Math_max) (hts _ wI_Math) (hts _ wc_Math_max) hR hR2 hk hn hd (by rw [hp, hz]; exact kk H locs ls w hl)
theorem j_mmin (pc' : Nat) (C : Cx p s m args meth c cc own nL D tys A H0) {index : Nat} (hw : Cond.methodLink own index Lib.Math.min.name ∈ TG) {x y : Int32} {z : Int32} (hz : (if y < x then y else x) = z) (hd : decode cc pc = .ok (.invokestatic index, 3)) (hp : pc + 3 = pc') (hR : 1 ≤ R.frames) (hR2 : (st.map fun v => v.category).sum + 13 ≤ R.locals) (hk : k ≤ R.cells) (hn : n ≤ R.slots) (kk : J p l e R s m args below meth c Q D A H0 nL k n N ad ct pc' lv (.int z :: st)) : J p l e R s m args below meth c Q D A H0 nL k n N ad ct pc lv (.int y :: .int x :: st) := by
  intro H locs ls w hl
  have hts := C.1.2.2.2.2
  exact va_mmin C.1.1 C.1.2.1 (by rw [C.1.2.2.1]; exact hl.1.symm) C.1.2.2.2.1 (hts _ hw) (hts _ ws_Math_min) (hts _ wI_Math) (hts _ wc_Math_min) hR hR2 hk hn hd (by rw [hp, hz]; exact kk H locs ls w hl)
theorem j_mabs (pc' : Nat) (C : Cx p s m args meth c cc own nL D tys A H0) {index : Nat} (hw : Cond.methodLink own index Lib.Math.abs.name ∈ TG) {x : Int32} {z : Int32} (hz : (if 0 ≤ x then x else 0 - x) = z) (hd : decode cc pc = .ok (.invokestatic index, 3)) (hp : pc + 3 = pc') (hR : 1 ≤ R.frames) (hR2 : (st.map fun v => v.category).sum + 13 ≤ R.locals) (hk : k ≤ R.cells) (hn : n ≤ R.slots) (kk : J p l e R s m args below meth c Q D A H0 nL k n N ad ct pc' lv (.int z :: st)) : J p l e R s m args below meth c Q D A H0 nL k n N ad ct pc lv (.int x :: st) := by
  intro H locs ls w hl
  have hts := C.1.2.2.2.2
  exact va_mabs C.1.1 C.1.2.1 (by rw [C.1.2.2.1]; exact hl.1.symm) C.1.2.2.2.1 (hts _ hw) (hts _ ws_Math_abs) (hts _ wI_Math) (hts _ wc_Math_abs) hR hR2 hk hn hd (by rw [hp, hz]; exact kk H locs ls w hl)
theorem j_copyi (pc' : Nat) (C : Cx p s m args meth c cc own nL D tys A H0) {index : Nat} (hw : Cond.methodLink own index arraycopyName ∈ TG) (hd : decode cc pc = .ok (.invokestatic index, 3)) (hp : pc + 3 = pc') (r r2 : Nat) (hr : r < N) (hr2 : r2 < N) {a a2 : Nat} (ha : ad r = a) (ha2 : ad r2 = a2) {cA : ClassId} {z z2 : Nat} {f g : Nat → Int32} (he : ct r = .inl (cA, z, .inl f)) (he2 : ct r2 = .inl (cA, z2, .inl g)) (t0 : Nat) (ht : tys[t0]? = some (cA, .int)) {w : Nat} (hw31 : w < 2 ^ 31) (h4 : w ≤ z) (h5 : w ≤ z2) (hR : 1 ≤ R.frames) (hR2 : (st.map fun v => v.category).sum + (nativeFrameWords "java/lang/System" "arraycopy" 5 + 11) ≤ R.locals)
    (kk : J p l e R s m args below meth c Q D A H0 nL k n N ad (va_up ct r2 (.inl (cA, z2, .inl (va_cpy f g 0 0 w)))) pc' lv st) : J p l e R s m args below meth c Q D A H0 nL k n N ad ct pc lv (.int (nI w) :: .int (nI 0) :: .ref a2 :: .int (nI 0) :: .ref a :: st) := by
  intro H locs ls wd hl
  have hts := C.1.2.2.2.2
  have e0 : (nI 0).toNatClampNeg = 0 := by decide
  refine va_copyi C.1.1 C.1.2.1 (by rw [C.1.2.2.1]; exact hl.1.symm) C.1.2.2.2.1 (hts _ hw) (hts _ wnat_arraycopy) (hts _ ws_arraycopy) (hts _ wI_System) C.2.1.1 wd.1.1 wd.1.2 wd.2 r r2 t0 t0 (ww_at hr ha he) (ww_at hr2 ha2 he2) ht ht rfl (by decide) (by decide) (nI_pos hw31) (by rw [e0, nI_clamp hw31]; omega) (by rw [e0, nI_clamp hw31]; omega) (fun i _ => rfl) hR hR2 hd (fun H1 locs1 a1 a2' a3 => ?_)
  rw [ww_set hr2 ha2, e0, nI_clamp hw31] at a1 a2'
  exact hp ▸ kk H1 locs1 ls ⟨⟨a1, a2'⟩, a3⟩ hl
theorem j_new (pc' : Nat) (C : Cx p s m args meth c cc own nL D tys A H0) {index ci : Nat} {Cn : String} {T : u_T} {NN : Nat} {ty : Nat → FieldType} (hc : vwCl[ci]? = some (Cn, T, NN)) (hin : ∀ w ∈ u_ws Cn T NN, w ∈ TG) (P : FP Cn T NN ty) (h1 : Cond.classLink own index Cn ∈ TG) (h2 : Cond.instantiable Cn NN ∈ TG) (h3 : Cond.initialized Cn ∈ TG) (fs : List Value) (hfs : ∀ j, j < NN → defaultValue (ty j) = vp_V fs j) (hd : decode cc pc = .ok (.new index, 3)) (hp : pc + 3 = pc') (hR : k + 1 ≤ R.cells) (hR2 : n + NN ≤ R.slots)
    (kk : ∀ a : Nat, J p l e R s m args below meth c Q D A H0 nL (k + 1) (n + NN) (N + 1) (va_up ad N a) (va_up ct N (.inr (ci, fs))) pc' lv (.ref a :: st)) : J p l e R s m args below meth c Q D A H0 nL k n N ad ct pc lv st := by
  intro H locs ls w hl
  have hts := C.1.2.2.2.2
  refine va_new C.1.1 C.1.2.1 hts hin ty P.1 C.1.2.2.2.1 (hts _ h1) (hts _ h2) (hts _ h3) C.2.1.1 w.1.1 w.1.2 w.2 C.2.2.1 hc hfs hR hR2 hd (fun q H1 a1 a2 a3 => ?_)
  rw [ww_push] at a1 a2
  exact hp ▸ kk q H1 locs ls ⟨⟨a1, a2⟩, a3⟩ hl
theorem RA_uniq {U : State} {c1 c2 : ClassId} {t : FieldType} (h1 : va_RA U c1 t) (h2 : va_RA U c2 t) : c1 = c2 := by
  cases t with
  | object C0 =>
    obtain ⟨_, _, _, _, _, x1⟩ := h1
    obtain ⟨_, _, _, _, _, x2⟩ := h2
    exact Option.some.inj (x1.symm.trans x2)
  | _ => exact Option.some.inj (h1.symm.trans h2)
theorem j_newa (pc' : Nat) (C : Cx p s m args meth c cc own nL D tys A H0) {atype : ArrayType} {ty : FieldType} (hty : newarray.typeOf atype = ty) (harr : Cond.arrayClass ty ∈ TG) (t0 : Nat) {cA : ClassId} (ht : tys[t0]? = some (cA, ty)) {z : Nat} {x : Int32} (hx : x = nI z) (a0 : vp_A) (ha0 : ∀ cA : ClassId, vp_cell cA a0 = arrV cA z (fun _ => defaultValue ty)) (hz : z < 2 ^ 31) (hby : z * componentBytes ty ≤ 536870912) (hd : decode cc pc = .ok (.newarray atype, 2)) (hp : pc + 2 = pc') (hR : k + 1 ≤ R.cells) (hR2 : n + z ≤ R.slots)
    (kk : ∀ a : Nat, J p l e R s m args below meth c Q D A H0 nL (k + 1) (n + z) (N + 1) (va_up ad N a) (va_up ct N (.inl (cA, a0))) pc' lv (.ref a :: st)) : J p l e R s m args below meth c Q D A H0 nL k n N ad ct pc lv (.int x :: st) := by
  intro H locs ls w hl
  have hts := C.1.2.2.2.2
  subst hx
  refine va_newa C.1.1 C.1.2.1 (atype := atype) (by rw [hty]; exact hts _ harr) hty C.2.1.1 w.1.1 w.1.2 w.2 C.2.2.1 ha0 (nI_pos hz) (nI_clamp hz) hby hR hR2 hd (fun q cB H1 hK2 a1 a2 a3 => ?_)
  have e1 := (hK2.2 tys.length (cB, ty) (by simp)).2
  have e2 := (C.2.1.1.2 t0 _ ht).2
  have e3 : cB = cA := RA_uniq e1 e2
  subst e3
  rw [ww_push] at a1 a2
  exact hp ▸ kk q H1 locs ls ⟨⟨a1, a2⟩, a3⟩ hl
theorem j_newq (pc' : Nat) (C : Cx p s m args meth c cc own nL D tys A H0) {index : Nat} {Cn : String} (h1 : Cond.classLink own index Cn ∈ TG) (hover : va_AO Cn s) (t0 : Nat) {cA : ClassId} (ht : tys[t0]? = some (cA, .object Cn)) {z : Nat} {x : Int32} (hx : x = nI z) (hz : z < 2 ^ 31) (hby : z * 4 ≤ 536870912) (hd : decode cc pc = .ok (.anewarray index, 3)) (hp : pc + 3 = pc') (hR : k + 1 ≤ R.cells) (hR2 : n + z ≤ R.slots)
    (kk : ∀ a : Nat, J p l e R s m args below meth c Q D A H0 nL (k + 1) (n + z) (N + 1) (va_up ad N a) (va_up ct N (.inl (cA, z, .inr (.inr (.inr (.inr (fun _ => none))))))) pc' lv (.ref a :: st)) : J p l e R s m args below meth c Q D A H0 nL k n N ad ct pc lv (.int x :: st) := by
  intro H locs ls w hl
  have hts := C.1.2.2.2.2
  subst hx
  refine va_newq C.1.1 C.1.2.1 C.1.2.2.2.1 (hts _ h1) hover C.2.1.1 w.1.1 w.1.2 w.2 C.2.2.1 (nI_pos hz) (nI_clamp hz) hby hR hR2 hd (fun q cB H1 hK2 a1 a2 a3 => ?_)
  have e1 := (hK2.2 tys.length (cB, .object Cn) (by simp)).2
  have e2 := (C.2.1.1.2 t0 _ ht).2
  have e3 : cB = cA := RA_uniq e1 e2
  subst e3
  rw [ww_push] at a1 a2
  exact hp ▸ kk q H1 locs ls ⟨⟨a1, a2⟩, a3⟩ hl
theorem QC_in {B : Option Value → Nat → (Nat → Nat) → (Nat → va_E) → Prop} {H : Heap} {locs : List Loc} {a : Array Value} {v : Option Value} {t : State} (w : WD D A s.heap N ad ct H locs) (ht : t.heap = H) (hB : B v N ad ct) : QC D A B a s (.returned v) t := ⟨⟨v, N, ad, ct, rfl, hB, by rw [ht]; exact w.1⟩, w.2.F ht⟩
theorem j_retI (C : Cx p s m args meth c cc own nL D tys A H0) {nm : String} {B : Option Value → Nat → (Nat → Nat) → (Nat → va_E) → Prop} {ty : FieldType} (X : RX s args below meth Q D A H0 k n (some ty) nm B) {x : Int32} (hd : decode cc pc = .ok (.ireturn, 1)) (hn : narrow ty (.int x) = .int x) (hB : B (some (.int x)) N ad ct) : J p l e R s m args below meth c Q D A H0 nL k n N ad ct pc lv [.int x] := by
  obtain ⟨rfl, rfl, hr, -⟩ := X
  exact fun H locs ls w hl => W.zret C.1.1 C.1.2.1 hr hn (fun t ht _ => QC_in w ht hB) w.2.2.2 hd C.2.2.2
theorem j_retV (C : Cx p s m args meth c cc own nL D tys A H0) {nm : String} {B : Option Value → Nat → (Nat → Nat) → (Nat → va_E) → Prop} (X : RX s args below meth Q D A H0 k n none nm B) (hd : decode cc pc = .ok (.return_, 1)) (hB : B none N ad ct) : J p l e R s m args below meth c Q D A H0 nL k n N ad ct pc lv [] := by
  obtain ⟨rfl, rfl, hr, -⟩ := X
  exact fun H locs ls w hl => W.vret C.1.1 C.1.2.1 hr (fun t ht _ => QC_in w ht hB) w.2.2.2 hd C.2.2.2
theorem j_retA (C : Cx p s m args meth c cc own nL D tys A H0) {nm : String} {B : Option Value → Nat → (Nat → Nat) → (Nat → va_E) → Prop} {rt : FieldType} (X : RX s args below meth Q D A H0 k n (some rt) nm B) (hrt : (∃ n, rt = .object n) ∨ ∃ t, rt = .array t) {v : Value} (hv : v = .null ∨ ∃ a, v = .ref a) (hd : decode cc pc = .ok (.areturn, 1)) (hB : B (some v) N ad ct) : J p l e R s m args below meth c Q D A H0 nL k n N ad ct pc lv [v] := by
  obtain ⟨rfl, rfl, hr, -⟩ := X
  exact fun H locs ls w hl => W.aret C.1.1 C.1.2.1 hr hrt hv (fun t ht _ => QC_in w ht hB) w.2.2.2 hd C.2.2.2
end JR
/-- a contract out of a walk of the body -/
theorem MC.of {l : Launch} {y : MethodName} {b : ByteArray} {nL : Nat} {ret : Option FieldType} {rm : Room} {D : va_G} {tys : List (ClassId × FieldType)} {N : Nat} {ad : Nat → Nat} {ct : Nat → va_E} {av : List Value} {B : Option Value → Nat → (Nat → Nat) → (Nat → va_E) → Prop} (hy : plainName y.cls = true) (hlen : (lg_sl av).length ≤ nL)
    (body : ∀ (p : Program) (e : Env) (s : State) (m : MethodId) (args : Array Value) (below : List Frame) (meth : Method) (c : Code) (Q : State → Prop) (A : Nat → Prop) (H0 : Heap), Cx p s m args meth c b y.cls nL D tys A H0 → RX s args below meth Q D A H0 rm.cells rm.slots ret y.name B → J p l e rm s m args below meth c Q D A H0 nL 0 0 N ad ct 0 (lv_args 0 av) []) : MC l y b nL ret rm D tys N ad ct av B := by
  intro sz
  refine Met.ofW (cc := b) (maxL := nL) (ret := ret) hy rfl ?_
  intro p e s m args below meth c s₁ B0 hml hv
  obtain ⟨rfl, hsz, hK, hP, hD0⟩ := hv
  have hts := atoms_spec (ws := wsM y b nL ret) B0.pre
  have hown : s.vm.findClass y.cls = some m.cls := findClass_of_methodNamed B0.named
  subst hsz
  have hD : va_D (wA N ad s.heap.size) (ww N ad ct) := ⟨hD0.1, fun k q hq => by
    obtain ⟨h1, rfl⟩ := ww_of hq
    exact Or.inl ⟨k, h1, rfl⟩⟩
  have hl := lv_entry av (n := nL) hlen
  rw [lg_entry_eq]
  exact body p e s m av.toArray below meth c _ (wA N ad s.heap.size) s.heap ⟨⟨B0.exec, B0.bytes, hml, hown, fun w h => hts w (List.mem_cons_of_mem _ h)⟩, hK, fun q h => Or.inr h, B0.notSynchronized⟩ ⟨rfl, rfl, B0.returns, (name_of_methodNamed B0.named B0.method).1⟩ s.heap [] _ ⟨⟨hP, hD⟩, va_S.rf⟩ hl
end
section
/-! the world of the law by roles: 0 the class's object, 1 to 6 its rock, 7 and 8 its sights, 9 its bodies, 10 their steps, 11 + 2 g and 12 + 2 g (g < 12) a Gaps and its row, 35 its grounds; 36 to 49 the reference and its rows; from 50 on sights -/
def TY (K : Nat → ClassId) : List (ClassId × FieldType) := [(K 0, .int), (K 1, .boolean), (K 2, .object RX1), (K 3, .object RX3)]
def CE (K : Nat → ClassId) (W S ns nc : Nat) (ad : Nat → Nat) (B : Nat → Option Nat) (r : Nat) (f : Nat → Int32) : va_E :=
  if r < 11 then
    (match r with
    | 0 => .inr (5, [.ref (ad 1), .ref (ad 7), .ref (ad 9), .ref (ad 35)])
    | 1 => .inr (2, [.int (nI W), .int (nI S), .ref (ad 2), .ref (ad 3), .ref (ad 4), .ref (ad 5), .ref (ad 6)])
    | 2 => .inl (K 0, S, .inl f)
    | 3 => .inl (K 0, S, .inl f)
    | 4 => .inl (K 0, S, .inl f)
    | 5 => .inl (K 0, W, .inl f)
    | 6 => .inl (K 1, W, .inl f)
    | 7 => .inr (4, [.ref (ad 8), .int (nI nc)])
    | 8 => .inl (K 3, 10, .inr (.inr (.inr (.inr (fun i => (B i).map ad)))))
    | 9 => .inr (0, [.ref (ad 1), .ref (ad 7), .ref (ad 10), .ref (ad 31), .ref (ad 33), .int (f 5), .int (f 6), .int (f 7), .int (f 8)])
    | _ => .inl (K 2, 10, .inr (.inr (.inr (.inr (fun i => some (ad (11 + 2 * i))))))))
  else if r < 35 then
    (if r % 2 = 1 then .inr (1, [.int (nI (W * S + 1)), .ref (ad (r + 1))]) else .inl (K 0, (W * S + 1) * (W * S + 1), .inl f))
  else if r < 50 then
    (match r - 35 with
    | 0 => .inl (K 0, W, .inl f)
    | 1 => .inr (6, [.int (nI W), .int (nI S), .ref (ad 37), .ref (ad 38), .ref (ad 39), .ref (ad 40), .ref (ad 41), .ref (ad 42), .int (nI ns), .ref (ad 43), .ref (ad 44), .ref (ad 45), .ref (ad 46), .ref (ad 47), .ref (ad 48), .ref (ad 49), .int (f 16), .int (f 17), .int (f 18)])
    | 2 => .inl (K 0, 4, .inl f)
    | 3 => .inl (K 0, 4, .inl f)
    | 4 => .inl (K 0, 4, .inl f)
    | 5 => .inl (K 1, 8, .inl f)
    | 6 => .inl (K 0, 8, .inl f)
    | 7 => .inl (K 0, 8, .inl f)
    | 8 => .inl (K 0, 10, .inl f)
    | 9 => .inl (K 0, 10, .inl f)
    | 10 => .inl (K 0, 10, .inl f)
    | 11 => .inl (K 1, 10, .inl f)
    | 12 => .inl (K 0, 1089, .inl f)
    | 13 => .inl (K 0, 1089, .inl f)
    | _ => .inl (K 0, 10, .inl f))
  else .inr (3, [.int (f 0), .int (f 1), .int (f 2), .int (f 3), .int (f 4)])
def CT (K : Nat → ClassId) (W S ns nc : Nat) (ad : Nat → Nat) (B : Nat → Option Nat) (σ : Nat → Nat → Int32) : Nat → va_E := fun r => CE K W S ns nc ad B r (σ r)
/-- row r becomes f -/
def sA (σ : Nat → Nat → Int32) (r : Nat) (f : Nat → Int32) : Nat → Nat → Int32 := fun a => if a = r then f else σ a
theorem sA_at {σ : Nat → Nat → Int32} {r : Nat} {f : Nat → Int32} : sA σ r f r = f := by simp [sA]
theorem sA_ne {σ : Nat → Nat → Int32} {r a : Nat} {f : Nat → Int32} (h : a ≠ r) : sA σ r f a = σ a := by simp [sA, h]
theorem sA_top {σ : Nat → Nat → Int32} {r : Nat} {f g : Nat → Int32} : sA (sA σ r f) r g = sA σ r g := by
  funext a; by_cases h : a = r <;> simp [sA, h]
theorem sA_sw {σ : Nat → Nat → Int32} {r q : Nat} {f g : Nat → Int32} (h : r ≠ q) : sA (sA σ r f) q g = sA (sA σ q g) r f := by
  funext a
  by_cases h1 : a = r
  · subst h1; simp [sA, h]
  · simp [sA, h1]
theorem sA_2 {σ : Nat → Nat → Int32} {r q : Nat} {f g h : Nat → Int32} (n : r ≠ q) : sA (sA (sA σ r f) q h) r g = sA (sA σ r g) q h := by
  rw [sA_sw (Ne.symm n), sA_top]
theorem sA_3 {σ : Nat → Nat → Int32} {r q u : Nat} {f g h i : Nat → Int32} (n : r ≠ q) (n2 : r ≠ u) : sA (sA (sA (sA σ r f) q h) u i) r g = sA (sA (sA σ r g) q h) u i := by
  rw [sA_sw (Ne.symm n2), sA_2 n]
theorem sA_4 {σ : Nat → Nat → Int32} {r q u v : Nat} {f g h i j : Nat → Int32} (n : r ≠ q) (n2 : r ≠ u) (n3 : r ≠ v) : sA (sA (sA (sA (sA σ r f) q h) u i) v j) r g = sA (sA (sA (sA σ r g) q h) u i) v j := by
  rw [sA_sw (Ne.symm n3), sA_3 n n2]
theorem sA_id {σ : Nat → Nat → Int32} {r : Nat} : sA σ r (σ r) = σ := by
  funext a; by_cases h : a = r <;> simp [sA, h]
theorem sA_idr {σ : Nat → Nat → Int32} {r : Nat} {f : Nat → Int32} (h : σ r = f) : σ = sA σ r f := by
  subst h; exact sA_id.symm
theorem CT_up {K : Nat → ClassId} {W S ns nc : Nat} {ad : Nat → Nat} {B : Nat → Option Nat} {σ : Nat → Nat → Int32} {r : Nat} {f : Nat → Int32} {x : va_E} (h : CE K W S ns nc ad B r f = x) : va_up (CT K W S ns nc ad B σ) r x = CT K W S ns nc ad B (sA σ r f) := by
  subst h
  funext a
  by_cases h1 : a = r
  · subst h1; simp [va_up, CT, sA]
  · simp [va_up, CT, sA, h1]
theorem CE_go {K : Nat → ClassId} {W S ns nc : Nat} {ad : Nat → Nat} {B : Nat → Option Nat} {g : Nat} (h : g < 12) (f : Nat → Int32) : CE K W S ns nc ad B (11 + 2 * g) f = .inr (1, [.int (nI (W * S + 1)), .ref (ad (12 + 2 * g))]) := by
  unfold CE
  rw [if_neg (by omega), if_pos (by omega), if_pos (by omega)]
  rw [show 11 + 2 * g + 1 = 12 + 2 * g by omega]
theorem CE_ga {K : Nat → ClassId} {W S ns nc : Nat} {ad : Nat → Nat} {B : Nat → Option Nat} {g : Nat} (h : g < 12) (f : Nat → Int32) : CE K W S ns nc ad B (12 + 2 * g) f = .inl (K 0, (W * S + 1) * (W * S + 1), .inl f) := by
  unfold CE
  rw [if_neg (by omega), if_pos (by omega), if_neg (by omega)]
theorem CE_q {K : Nat → ClassId} {W S ns nc : Nat} {ad : Nat → Nat} {B : Nat → Option Nat} {q : Nat} (h : 50 ≤ q) (f : Nat → Int32) : CE K W S ns nc ad B q f = .inr (3, [.int (f 0), .int (f 1), .int (f 2), .int (f 3), .int (f 4)]) := by
  unfold CE
  rw [if_neg (by omega), if_neg (by omega), if_neg (by omega)]
/-- what holds of the numbers -/
def GH (W S ns nc N : Nat) : Prop := 2 ≤ W ∧ W ≤ 8 ∧ 1 ≤ S ∧ S ≤ 4 ∧ ns ≤ 10 ∧ nc ≤ 10 ∧ 50 ≤ N
theorem GH_ws {W S ns nc N : Nat} (h : GH W S ns nc N) : W * S ≤ 32 := Nat.le_trans (Nat.mul_le_mul h.2.1 h.2.2.2.1) (by omega)
theorem ixlt {a b z : Nat} (ha : a < z) (hb : b < z) : a * z + b < z * z := by
  have h1 : (a + 1) * z ≤ z * z := Nat.mul_le_mul_right z ha
  rw [Nat.add_mul, Nat.one_mul] at h1
  omega
theorem zz31 {z : Nat} (h : z ≤ 33) : z * z < 2 ^ 31 := Nat.lt_of_le_of_lt (Nat.mul_le_mul h h) (by decide)
/-- a value that is led on -/
def ap {α β : Type} (x : α) (k : α → β) : β := k x
theorem ap_x {α β : Type} {x : α} {k : α → β} {z : β} (h : ap x k = z) : ∃ y, x = y ∧ k y = z := ⟨x, rfl, h⟩
/-- a counted loop -/
def lp {α : Type} (f : Nat → α → α) : Nat → Nat → α → α
  | 0, _, a => a
  | n + 1, i, a => lp f n (i + 1) (f i a)
theorem lp_s {α : Type} {f : Nat → α → α} {n i : Nat} {a z : α} (h : lp f (n + 1) i a = z) : ∃ b, f i a = b ∧ lp f n (i + 1) b = z := ⟨_, rfl, h⟩
/-- a counted loop that may leave early -/
def lpe {ρ α : Type} (f : Nat → α → ρ ⊕ α) : Nat → Nat → α → ρ ⊕ α
  | 0, _, a => .inr a
  | n + 1, i, a => (f i a).elim Sum.inl (fun b => lpe f n (i + 1) b)
theorem lpe_s {ρ α : Type} {f : Nat → α → ρ ⊕ α} {n i : Nat} {a : α} {z : ρ ⊕ α} (h : lpe f (n + 1) i a = z) : ∃ b, f i a = b ∧ b.elim Sum.inl (fun b => lpe f n (i + 1) b) = z := ⟨_, rfl, h⟩
theorem nat_lt {x y : Int32} {a b : Nat} (hx : x = nI a) (hy : y = nI b) (ha : a < 2 ^ 31) (hb : b < 2 ^ 31) (h : x < y) : a < b := by
  subst hx; subst hy; exact (nI_ltI ha hb).mp h
theorem nat_nlt {x y : Int32} {a b : Nat} (hx : x = nI a) (hy : y = nI b) (ha : a < 2 ^ 31) (hb : b < 2 ^ 31) (h : ¬ x < y) : b ≤ a := by
  subst hx; subst hy; exact Nat.not_lt.mp (fun q => h ((nI_ltI ha hb).mpr q))
theorem nat_le {x y : Int32} {a b : Nat} (hx : x = nI a) (hy : y = nI b) (ha : a < 2 ^ 31) (hb : b < 2 ^ 31) (h : x ≤ y) : a ≤ b := by
  subst hx; subst hy; exact (nI_leI ha hb).mp h
theorem nat_nle {x y : Int32} {a b : Nat} (hx : x = nI a) (hy : y = nI b) (ha : a < 2 ^ 31) (hb : b < 2 ^ 31) (h : ¬ x ≤ y) : b < a := by
  subst hx; subst hy; exact Nat.not_le.mp (fun q => h ((nI_leI ha hb).mpr q))
theorem nat_eq {x y : Int32} {a b : Nat} (hx : x = nI a) (hy : y = nI b) (ha : a < 2 ^ 31) (hb : b < 2 ^ 31) (h : x = y) : a = b := by
  subst hx; subst hy; exact (nI_eq ha hb).mp h
theorem nat_ne {x y : Int32} {a b : Nat} (hx : x = nI a) (hy : y = nI b) (ha : a < 2 ^ 31) (hb : b < 2 ^ 31) (h : ¬ x = y) : a ≠ b := by
  subst hx; subst hy; exact fun q => h ((nI_eq ha hb).mpr q)
def bl (x : Int32) : Prop := x = nI 0 ∨ x = nI 1
theorem bl_0 : bl (nI 0) := Or.inl rfl
theorem bl_1 : bl (nI 1) := Or.inr rfl
theorem bl_nar {x : Int32} (h : bl x) : narrow .boolean (.int x) = .int x := by rcases h with rfl | rfl <;> rfl
theorem bl_fit {x : Int32} (h : bl x) : fits .boolean (.int x) = true := by rcases h with rfl | rfl <;> rfl
theorem bl_vp {x : Int32} (h : bl x) : vp_nar .boolean x = x := by rcases h with rfl | rfl <;> rfl
section KR
variable {p : Program} {l : Launch} {e : Env} {R : Room} {s : State} {m : MethodId} {args : Array Value} {below : List Frame} {meth : Method} {c : Code} {Q : State → Prop} {D : va_G} {A : Nat → Prop} {H0 : Heap} {nL k n N : Nat} {ad : Nat → Nat} {pc : Nat} {lv : List (Nat × Value)} {st : List Value} {cc : ByteArray} {own : String} {K : Nat → ClassId} {W S ns nc : Nat} {B : Nat → Option Nat} {σ : Nat → Nat → Int32}
theorem k_get (pc' : Nat) (C : Cx p s m args meth c cc own nL D (TY K) A H0) {index ci i : Nat} {Cn : String} {T : u_T} {NN : Nat} (F : FL own index ci i Cn T NN) (hd : decode cc pc = .ok (.getfield index, 3)) (hp : pc + 3 = pc') (r : Nat) (hr : r < N) (f : Nat → Int32) (hf : σ r = f) {fs : List Value} (he : CE K W S ns nc ad B r f = .inr (ci, fs)) (v : Value) (hv : fs[i]? = some v) (kk : J p l e R s m args below meth c Q D A H0 nL k n N ad (CT K W S ns nc ad B σ) pc' lv (v :: st)) : J p l e R s m args below meth c Q D A H0 nL k n N ad (CT K W S ns nc ad B σ) pc lv (.ref (ad r) :: st) := j_get pc' C F hd hp r hr rfl (by show CE K W S ns nc ad B r (σ r) = _; rw [hf]; exact he) hv kk
theorem k_put (pc' : Nat) (C : Cx p s m args meth c cc own nL D (TY K) A H0) {index ci i : Nat} {Cn : String} {T : u_T} {NN : Nat} {ty : Nat → FieldType} (F : FL own index ci i Cn T NN) (P : FP Cn T NN ty) (hfin : (T i).2.2.2 = false) (hd : decode cc pc = .ok (.putfield index, 3)) (hp : pc + 3 = pc') (r : Nat) (hr : r < N) (f : Nat → Int32) (hf : σ r = f) {fs : List Value} (he : CE K W S ns nc ad B r f = .inr (ci, fs)) {x : Int32} (hn : narrow (ty i) (.int x) = .int x) (hfit : fits (ty i) (.int x) = true) (hl0 : i < fs.length) (he2 : CE K W S ns nc ad B r (upd f i x) = .inr (ci, fs.set i (.int x))) (σ' : Nat → Nat → Int32) (hσ : sA σ r (upd f i x) = σ') (kk : J p l e R s m args below meth c Q D A H0 nL k n N ad (CT K W S ns nc ad B σ') pc' lv st) : J p l e R s m args below meth c Q D A H0 nL k n N ad (CT K W S ns nc ad B σ) pc lv (.int x :: .ref (ad r) :: st) := j_put pc' C F P hfin hd hp r hr rfl (by show CE K W S ns nc ad B r (σ r) = _; rw [hf]; exact he) hn hfit hl0 (by rw [CT_up he2, hσ]; exact kk)
theorem k_iald (pc' : Nat) (C : Cx p s m args meth c cc own nL D (TY K) A H0) (hd : decode cc pc = .ok (.iaload, 1)) (hp : pc + 1 = pc') (r : Nat) (hr : r < N) (f : Nat → Int32) (hf : σ r = f) {z : Nat} (he : ∀ g, CE K W S ns nc ad B r g = .inl (K 0, z, .inl g)) {i : Int32} (hin : vp_in i z) (kk : J p l e R s m args below meth c Q D A H0 nL k n N ad (CT K W S ns nc ad B σ) pc' lv (.int (f i.toNatClampNeg) :: st)) : J p l e R s m args below meth c Q D A H0 nL k n N ad (CT K W S ns nc ad B σ) pc lv (.int i :: .ref (ad r) :: st) := j_iald pc' C hd hp r hr rfl (he _) 0 rfl hin rfl (by rw [hf]; exact kk)
theorem k_zald (pc' : Nat) (C : Cx p s m args meth c cc own nL D (TY K) A H0) (hd : decode cc pc = .ok (.baload, 1)) (hp : pc + 1 = pc') (r : Nat) (hr : r < N) (f : Nat → Int32) (hf : σ r = f) {z : Nat} (he : ∀ g, CE K W S ns nc ad B r g = .inl (K 1, z, .inl g)) {i : Int32} (hin : vp_in i z) (kk : J p l e R s m args below meth c Q D A H0 nL k n N ad (CT K W S ns nc ad B σ) pc' lv (.int (f i.toNatClampNeg) :: st)) : J p l e R s m args below meth c Q D A H0 nL k n N ad (CT K W S ns nc ad B σ) pc lv (.int i :: .ref (ad r) :: st) := j_zald pc' C hd hp r hr rfl (he _) 1 rfl hin rfl (by rw [hf]; exact kk)
theorem k_iast (pc' : Nat) (C : Cx p s m args meth c cc own nL D (TY K) A H0) (hd : decode cc pc = .ok (.iastore, 1)) (hp : pc + 1 = pc') (r : Nat) (hr : r < N) (f : Nat → Int32) (hf : σ r = f) {z : Nat} (he : ∀ g, CE K W S ns nc ad B r g = .inl (K 0, z, .inl g)) {i x : Int32} (hin : vp_in i z) (σ' : Nat → Nat → Int32) (hσ : sA σ r (upd f i.toNatClampNeg x) = σ') (kk : J p l e R s m args below meth c Q D A H0 nL k n N ad (CT K W S ns nc ad B σ') pc' lv st) : J p l e R s m args below meth c Q D A H0 nL k n N ad (CT K W S ns nc ad B σ) pc lv (.int x :: .int i :: .ref (ad r) :: st) := j_iast pc' C hd hp r hr rfl (he _) 0 rfl hin rfl (by rw [CT_up (he _), hf, hσ]; exact kk)
theorem k_zast (pc' : Nat) (C : Cx p s m args meth c cc own nL D (TY K) A H0) (hd : decode cc pc = .ok (.bastore, 1)) (hp : pc + 1 = pc') (r : Nat) (hr : r < N) (f : Nat → Int32) (hf : σ r = f) {z : Nat} (he : ∀ g, CE K W S ns nc ad B r g = .inl (K 1, z, .inl g)) {i x : Int32} (hin : vp_in i z) (hb : bl x) (σ' : Nat → Nat → Int32) (hσ : sA σ r (upd f i.toNatClampNeg x) = σ') (kk : J p l e R s m args below meth c Q D A H0 nL k n N ad (CT K W S ns nc ad B σ') pc' lv st) : J p l e R s m args below meth c Q D A H0 nL k n N ad (CT K W S ns nc ad B σ) pc lv (.int x :: .int i :: .ref (ad r) :: st) := j_zast pc' C hd hp r hr rfl (he _) 1 rfl hin rfl (bl_vp hb) (by rw [CT_up (he _), hf, hσ]; exact kk)
theorem k_alen (pc' : Nat) (C : Cx p s m args meth c cc own nL D (TY K) A H0) (hd : decode cc pc = .ok (.arraylength, 1)) (hp : pc + 1 = pc') (r : Nat) (hr : r < N) (t0 : Nat) {ty : FieldType} {cA : ClassId} {z : Nat} {x : (Nat → Int32) ⊕ (Nat → Int64) ⊕ (Nat → UInt32) ⊕ (Nat → UInt64) ⊕ (Nat → Option Nat)} (he : CE K W S ns nc ad B r (σ r) = .inl (cA, z, x)) (ht : (TY K)[t0]? = some (cA, ty)) (kk : J p l e R s m args below meth c Q D A H0 nL k n N ad (CT K W S ns nc ad B σ) pc' lv (.int (nI z) :: st)) : J p l e R s m args below meth c Q D A H0 nL k n N ad (CT K W S ns nc ad B σ) pc lv (.ref (ad r) :: st) := j_alen pc' C hd hp r hr rfl he t0 ht kk
theorem k_copyi (pc' : Nat) (C : Cx p s m args meth c cc own nL D (TY K) A H0) {index : Nat} (hw : Cond.methodLink own index arraycopyName ∈ TG) (hd : decode cc pc = .ok (.invokestatic index, 3)) (hp : pc + 3 = pc') (r r2 : Nat) (hr : r < N) (hr2 : r2 < N) (f g : Nat → Int32) (hf : σ r = f) (hg : σ r2 = g) {z z2 : Nat} (he : ∀ g, CE K W S ns nc ad B r g = .inl (K 0, z, .inl g)) (he2 : ∀ g, CE K W S ns nc ad B r2 g = .inl (K 0, z2, .inl g)) {w : Nat} (hw31 : w < 2 ^ 31) (h4 : w ≤ z) (h5 : w ≤ z2) (hR : 1 ≤ R.frames) (hR2 : (st.map fun v => v.category).sum + (nativeFrameWords "java/lang/System" "arraycopy" 5 + 11) ≤ R.locals) (σ' : Nat → Nat → Int32) (hσ : sA σ r2 (va_cpy f g 0 0 w) = σ') (kk : J p l e R s m args below meth c Q D A H0 nL k n N ad (CT K W S ns nc ad B σ') pc' lv st) : J p l e R s m args below meth c Q D A H0 nL k n N ad (CT K W S ns nc ad B σ) pc lv (.int (nI w) :: .int (nI 0) :: .ref (ad r2) :: .int (nI 0) :: .ref (ad r) :: st) := j_copyi pc' C hw hd hp r r2 hr hr2 rfl rfl (he _) (he2 _) 0 rfl hw31 h4 h5 hR hR2 (by rw [CT_up (he2 _), hf, hg, hσ]; exact kk)
/-- calls of methods with a simple end and no cell made -/
theorem s_V (pc' : Nat) (C : Cx p s m args meth c cc own nL D (TY K) A H0) {ct ct' : Nat → va_E} {index : Nat} {y : MethodName} {b : ByteArray} {nL2 na : Nat} {ret : Option FieldType} {rm : Room} {V : Option Value} {E : Prop} {As : List Value} {a : Nat} {st0 st' : List Value} (cv : CV own index y b nL2 ret na) (hM : MC l y b nL2 ret rm D (TY K) N ad ct (.ref a :: As) (BS V N ad ct' E)) (hd : decode cc pc = .ok (.invokevirtual index, 3)) (hp : pc + 3 = pc') (r ci : Nat) (hr : r < N) (ha : ad r = a) {fs : List Value} (he : ct r = .inr (ci, fs)) {rc : vw_C} (hc : vwCl[ci]? = some rc) (hy : rc.1 = y.cls) (hna : As.length = na) (hst : st0 = As.reverse ++ .ref a :: st) (h0 : rm.cells = 0) (h1 : rm.slots = 0) (hR : (rm.frames + 1 ≤ R.frames ∧ 8 + (nL2 + 11) + rm.locals ≤ R.locals) ∧ (k ≤ R.cells ∧ n ≤ R.slots)) (hcat : (st.map fun v => v.category).sum ≤ 8) (hst' : V.toList ++ st = st') (kk : E → J p l e R s m args below meth c Q D A H0 nL k n N ad ct' pc' lv st') : J p l e R s m args below meth c Q D A H0 nL k n N ad ct pc lv st0 := by
  refine j_callV pc' C cv hM hd hp r ci hr ha he hc hy hna hst ⟨hR.1, by rw [h0]; exact hR.2.1, by rw [h1]; exact hR.2.2⟩ hcat (fun v N' ad' ct2 hB => ?_)
  obtain ⟨rfl, rfl, rfl, rfl, hE⟩ := hB
  rw [h0, h1, hst']
  exact kk hE
theorem s_S (pc' : Nat) (C : Cx p s m args meth c cc own nL D (TY K) A H0) {ct ct' : Nat → va_E} {index : Nat} {y : MethodName} {b : ByteArray} {nL2 na : Nat} {ret : Option FieldType} {rm : Room} {V : Option Value} {E : Prop} {As : List Value} {st0 st' : List Value} (cv : CS own index y b nL2 ret na) (hM : MC l y b nL2 ret rm D (TY K) N ad ct As (BS V N ad ct' E)) (hd : decode cc pc = .ok (.invokestatic index, 3)) (hp : pc + 3 = pc') (hna : As.length = na) (hst : st0 = As.reverse ++ st) (h0 : rm.cells = 0) (h1 : rm.slots = 0) (hR : (rm.frames + 1 ≤ R.frames ∧ 8 + (nL2 + 11) + rm.locals ≤ R.locals) ∧ (k ≤ R.cells ∧ n ≤ R.slots)) (hcat : (st.map fun v => v.category).sum ≤ 8) (hst' : V.toList ++ st = st') (kk : E → J p l e R s m args below meth c Q D A H0 nL k n N ad ct' pc' lv st') : J p l e R s m args below meth c Q D A H0 nL k n N ad ct pc lv st0 := by
  refine j_callS pc' C cv hM hd hp hna hst ⟨hR.1, by rw [h0]; exact hR.2.1, by rw [h1]; exact hR.2.2⟩ hcat (fun v N' ad' ct2 hB => ?_)
  obtain ⟨rfl, rfl, rfl, rfl, hE⟩ := hB
  rw [h0, h1, hst']
  exact kk hE
end KR
theorem GH_r {W S ns nc N r : Nat} (h : GH W S ns nc N) (hr : r < 50) : r < N := Nat.lt_of_lt_of_le hr h.2.2.2.2.2.2
theorem CT_x {K : Nat → ClassId} {W S ns nc : Nat} {ad : Nat → Nat} {B : Nat → Option Nat} {σ σ' : Nat → Nat → Int32} (h : ∀ a, σ a = σ' a) : CT K W S ns nc ad B σ = CT K W S ns nc ad B σ' := by
  rw [show σ = σ' from funext h]
theorem sw_out3 {x : Int32} (h0 : ¬ x = nI 0) (h1 : ¬ x = nI 1) (h2 : ¬ x = nI 2) : x.toInt < 0 ∨ 2 < x.toInt := by
  rcases Int.lt_or_le x.toInt 0 with a | a
  · exact Or.inl a
  rcases Int.lt_or_le 2 x.toInt with b | b
  · exact Or.inr b
  exfalso
  have e : x.toInt = 0 ∨ x.toInt = 1 ∨ x.toInt = 2 := by omega
  rcases e with e | e | e
  · exact h0 (Int32.toInt_inj.mp (by rw [e]; rfl))
  · exact h1 (Int32.toInt_inj.mp (by rw [e]; rfl))
  · exact h2 (Int32.toInt_inj.mp (by rw [e]; rfl))
theorem sw_out4 {x : Int32} (h0 : ¬ x = nI 0) (h1 : ¬ x = nI 1) (h2 : ¬ x = nI 2) (h3 : ¬ x = nI 3) : x.toInt < 0 ∨ 3 < x.toInt := by
  rcases sw_out3 h0 h1 h2 with a | a
  · exact Or.inl a
  rcases Int.lt_or_le 3 x.toInt with b | b
  · exact Or.inr b
  exact absurd (Int32.toInt_inj.mp (by rw [show x.toInt = 3 by omega]; rfl)) h3
theorem sw_out6 {x : Int32} (h0 : ¬ x = nI 0) (h1 : ¬ x = nI 1) (h2 : ¬ x = nI 2) (h3 : ¬ x = nI 3) (h4 : ¬ x = nI 4) (h5 : ¬ x = nI 5) : x.toInt < 0 ∨ 5 < x.toInt := by
  rcases sw_out4 h0 h1 h2 h3 with a | a
  · exact Or.inl a
  rcases Int.lt_or_le 5 x.toInt with b | b
  · exact Or.inr b
  have e : x.toInt = 4 ∨ x.toInt = 5 := by omega
  rcases e with e | e
  · exact absurd (Int32.toInt_inj.mp (by rw [e]; rfl)) h4
  · exact absurd (Int32.toInt_inj.mp (by rw [e]; rfl)) h5
theorem vp_inE {x : Int32} {n N : Nat} (e : x = nI n) (h : n < N) (hN : N < 2 ^ 31) : vp_in x N := e ▸ vp_in_nI h hN
theorem el_r {ρ α τ : Type} {a : α} {f : ρ → τ} {k : α → τ} {z : τ} (h : (Sum.inr a : ρ ⊕ α).elim f k = z) : k a = z := h
theorem nat_le_of {v h : Int32} {M : Nat} (h0 : ¬ v < nI 0) (h1 : ¬ h < v) (hM : h.toInt < M) : ∃ k : Nat, k < M ∧ v = nI k := by
  rw [nI_0] at h0
  obtain ⟨j, hj, rfl⟩ := nI_of h0
  refine ⟨j, ?_, rfl⟩
  rw [Int32.lt_iff_toInt_lt, nI_toInt hj] at h1
  omega
theorem sub_toInt {a b : Nat} (ha : a ≤ 100) (hb : b ≤ 100) : (nI a - nI b).toInt = (a : Int) - b := pk_sub_toInt (by omega) (by omega)
def seeN (w : Int32) : Int32 := nI 8 * (w / nI 100) + (w / nI 10 - w / nI 10 / nI 10 * nI 10)
def SeeOK (f : Nat → Int32) (ns : Nat) : Prop := ∀ k : Nat, k < ns → ∃ aN : Nat, aN < 32 ∧ seeN (f (nI k).toNatClampNeg) = nI aN
theorem oe_n {α β : Type} {t : Option α} {A : β} {k : α → β} {z : β} (h : t = none) (hz : t.elim A k = z) : A = z := by rw [h] at hz; exact hz
theorem oe_s {α β : Type} {t : Option α} {A : β} {k : α → β} {z : β} {q : α} (h : t = some q) (hz : t.elim A k = z) : k q = z := by rw [h] at hz; exact hz
theorem om_n {f : Nat → Nat} {t : Option Nat} (h : t.map f = none) : t = none := by cases t with | none => rfl | some a => cases h
theorem om_s {f : Nat → Nat} {t : Option Nat} {a : Nat} (h : t.map f = some a) : ∃ q, t = some q := by cases t with | none => cases h | some b => exact ⟨b, rfl⟩
/-- the sights that are there are objects from 50 on -/
def BOK (B : Nat → Option Nat) (N : Nat) : Prop := ∀ i q : Nat, B i = some q → 50 ≤ q ∧ q < N
theorem min_nc {nc : Nat} (h : nc ≤ 10) : (if nI 10 < nI nc then nI 10 else nI nc) = nI nc := by
  rw [if_neg]
  intro q
  have := (nI_ltI (by omega) (by omega)).mp q
  omega
theorem rm_le {a b n : Nat} (h : a ≤ b) : a ≤ b + n := Nat.le_trans h (Nat.le_add_right b n)

theorem CE_2 {K : Nat → ClassId} {W S ns nc : Nat} {ad : Nat → Nat} {B : Nat → Option Nat} (g : Nat → Int32) : CE K W S ns nc ad B 2 g = .inl (K 0, S, .inl g) := rfl
theorem CE_3 {K : Nat → ClassId} {W S ns nc : Nat} {ad : Nat → Nat} {B : Nat → Option Nat} (g : Nat → Int32) : CE K W S ns nc ad B 3 g = .inl (K 0, S, .inl g) := rfl
theorem CE_4 {K : Nat → ClassId} {W S ns nc : Nat} {ad : Nat → Nat} {B : Nat → Option Nat} (g : Nat → Int32) : CE K W S ns nc ad B 4 g = .inl (K 0, S, .inl g) := rfl
theorem CE_5 {K : Nat → ClassId} {W S ns nc : Nat} {ad : Nat → Nat} {B : Nat → Option Nat} (g : Nat → Int32) : CE K W S ns nc ad B 5 g = .inl (K 0, W, .inl g) := rfl
theorem CE_6 {K : Nat → ClassId} {W S ns nc : Nat} {ad : Nat → Nat} {B : Nat → Option Nat} (g : Nat → Int32) : CE K W S ns nc ad B 6 g = .inl (K 1, W, .inl g) := rfl
theorem CE_35 {K : Nat → ClassId} {W S ns nc : Nat} {ad : Nat → Nat} {B : Nat → Option Nat} (g : Nat → Int32) : CE K W S ns nc ad B 35 g = .inl (K 0, W, .inl g) := rfl
theorem CE_37 {K : Nat → ClassId} {W S ns nc : Nat} {ad : Nat → Nat} {B : Nat → Option Nat} (g : Nat → Int32) : CE K W S ns nc ad B 37 g = .inl (K 0, 4, .inl g) := rfl
theorem CE_38 {K : Nat → ClassId} {W S ns nc : Nat} {ad : Nat → Nat} {B : Nat → Option Nat} (g : Nat → Int32) : CE K W S ns nc ad B 38 g = .inl (K 0, 4, .inl g) := rfl
theorem CE_39 {K : Nat → ClassId} {W S ns nc : Nat} {ad : Nat → Nat} {B : Nat → Option Nat} (g : Nat → Int32) : CE K W S ns nc ad B 39 g = .inl (K 0, 4, .inl g) := rfl
theorem CE_40 {K : Nat → ClassId} {W S ns nc : Nat} {ad : Nat → Nat} {B : Nat → Option Nat} (g : Nat → Int32) : CE K W S ns nc ad B 40 g = .inl (K 1, 8, .inl g) := rfl
theorem CE_41 {K : Nat → ClassId} {W S ns nc : Nat} {ad : Nat → Nat} {B : Nat → Option Nat} (g : Nat → Int32) : CE K W S ns nc ad B 41 g = .inl (K 0, 8, .inl g) := rfl
theorem CE_42 {K : Nat → ClassId} {W S ns nc : Nat} {ad : Nat → Nat} {B : Nat → Option Nat} (g : Nat → Int32) : CE K W S ns nc ad B 42 g = .inl (K 0, 8, .inl g) := rfl
theorem CE_43 {K : Nat → ClassId} {W S ns nc : Nat} {ad : Nat → Nat} {B : Nat → Option Nat} (g : Nat → Int32) : CE K W S ns nc ad B 43 g = .inl (K 0, 10, .inl g) := rfl
theorem CE_44 {K : Nat → ClassId} {W S ns nc : Nat} {ad : Nat → Nat} {B : Nat → Option Nat} (g : Nat → Int32) : CE K W S ns nc ad B 44 g = .inl (K 0, 10, .inl g) := rfl
theorem CE_45 {K : Nat → ClassId} {W S ns nc : Nat} {ad : Nat → Nat} {B : Nat → Option Nat} (g : Nat → Int32) : CE K W S ns nc ad B 45 g = .inl (K 0, 10, .inl g) := rfl
theorem CE_46 {K : Nat → ClassId} {W S ns nc : Nat} {ad : Nat → Nat} {B : Nat → Option Nat} (g : Nat → Int32) : CE K W S ns nc ad B 46 g = .inl (K 1, 10, .inl g) := rfl
theorem CE_47 {K : Nat → ClassId} {W S ns nc : Nat} {ad : Nat → Nat} {B : Nat → Option Nat} (g : Nat → Int32) : CE K W S ns nc ad B 47 g = .inl (K 0, 1089, .inl g) := rfl
theorem CE_48 {K : Nat → ClassId} {W S ns nc : Nat} {ad : Nat → Nat} {B : Nat → Option Nat} (g : Nat → Int32) : CE K W S ns nc ad B 48 g = .inl (K 0, 1089, .inl g) := rfl
theorem CE_49 {K : Nat → ClassId} {W S ns nc : Nat} {ad : Nat → Nat} {B : Nat → Option Nat} (g : Nat → Int32) : CE K W S ns nc ad B 49 g = .inl (K 0, 10, .inl g) := rfl
theorem CE_0 {K : Nat → ClassId} {W S ns nc : Nat} {ad : Nat → Nat} {B : Nat → Option Nat} (g : Nat → Int32) : CE K W S ns nc ad B 0 g = .inr (5, [.ref (ad 1), .ref (ad 7), .ref (ad 9), .ref (ad 35)]) := rfl
theorem CE_1 {K : Nat → ClassId} {W S ns nc : Nat} {ad : Nat → Nat} {B : Nat → Option Nat} (g : Nat → Int32) : CE K W S ns nc ad B 1 g = .inr (2, [.int (nI W), .int (nI S), .ref (ad 2), .ref (ad 3), .ref (ad 4), .ref (ad 5), .ref (ad 6)]) := rfl
theorem CE_7 {K : Nat → ClassId} {W S ns nc : Nat} {ad : Nat → Nat} {B : Nat → Option Nat} (g : Nat → Int32) : CE K W S ns nc ad B 7 g = .inr (4, [.ref (ad 8), .int (nI nc)]) := rfl
theorem CE_9 {K : Nat → ClassId} {W S ns nc : Nat} {ad : Nat → Nat} {B : Nat → Option Nat} (g : Nat → Int32) : CE K W S ns nc ad B 9 g = .inr (0, [.ref (ad 1), .ref (ad 7), .ref (ad 10), .ref (ad 31), .ref (ad 33), .int (g 5), .int (g 6), .int (g 7), .int (g 8)]) := rfl
theorem CE_36 {K : Nat → ClassId} {W S ns nc : Nat} {ad : Nat → Nat} {B : Nat → Option Nat} (g : Nat → Int32) : CE K W S ns nc ad B 36 g = .inr (6, [.int (nI W), .int (nI S), .ref (ad 37), .ref (ad 38), .ref (ad 39), .ref (ad 40), .ref (ad 41), .ref (ad 42), .int (nI ns), .ref (ad 43), .ref (ad 44), .ref (ad 45), .ref (ad 46), .ref (ad 47), .ref (ad 48), .ref (ad 49), .int (g 16), .int (g 17), .int (g 18)]) := rfl
theorem CE_10 {K : Nat → ClassId} {W S ns nc : Nat} {ad : Nat → Nat} {B : Nat → Option Nat} (g : Nat → Int32) : CE K W S ns nc ad B 10 g = .inl (K 2, 10, .inr (.inr (.inr (.inr (fun i => some (ad (11 + 2 * i))))))) := rfl
theorem CE_8 {K : Nat → ClassId} {W S ns nc : Nat} {ad : Nat → Nat} {B : Nat → Option Nat} (g : Nat → Int32) : CE K W S ns nc ad B 8 g = .inl (K 3, 10, .inr (.inr (.inr (.inr (fun i => (B i).map ad))))) := rfl
theorem fl_X2_15 : FL RX2 15 2 0 RX2 TX2 7 := ⟨rfl, in_X2, by decide, wf_X2_15⟩
theorem fl_X2_21 : FL RX2 21 2 1 RX2 TX2 7 := ⟨rfl, in_X2, by decide, wf_X2_21⟩
theorem fl_X2_24 : FL RX2 24 2 2 RX2 TX2 7 := ⟨rfl, in_X2, by decide, wf_X2_24⟩
theorem fl_X2_28 : FL RX2 28 2 3 RX2 TX2 7 := ⟨rfl, in_X2, by decide, wf_X2_28⟩
theorem fl_X2_31 : FL RX2 31 2 4 RX2 TX2 7 := ⟨rfl, in_X2, by decide, wf_X2_31⟩
theorem fl_X2_34 : FL RX2 34 2 5 RX2 TX2 7 := ⟨rfl, in_X2, by decide, wf_X2_34⟩
theorem fl_X2_37 : FL RX2 37 2 6 RX2 TX2 7 := ⟨rfl, in_X2, by decide, wf_X2_37⟩
theorem fl_X4_11 : FL RX4 11 4 0 RX4 TX4 2 := ⟨rfl, in_X4, by decide, wf_X4_11⟩
theorem fl_X4_17 : FL RX4 17 4 1 RX4 TX4 2 := ⟨rfl, in_X4, by decide, wf_X4_17⟩
theorem fl_X1_15 : FL RX1 15 1 0 RX1 TX1 2 := ⟨rfl, in_X1, by decide, wf_X1_15⟩
theorem fl_X1_21 : FL RX1 21 1 1 RX1 TX1 2 := ⟨rfl, in_X1, by decide, wf_X1_21⟩
theorem fl_X0_31 : FL RX0 31 0 0 RX0 TX0 9 := ⟨rfl, in_X0, by decide, wf_X0_31⟩
theorem fl_X0_35 : FL RX0 35 0 1 RX0 TX0 9 := ⟨rfl, in_X0, by decide, wf_X0_35⟩
theorem fl_X0_11 : FL RX0 11 0 2 RX0 TX0 9 := ⟨rfl, in_X0, by decide, wf_X0_11⟩
theorem fl_X0_48 : FL RX0 48 0 3 RX0 TX0 9 := ⟨rfl, in_X0, by decide, wf_X0_48⟩
theorem fl_X0_52 : FL RX0 52 0 4 RX0 TX0 9 := ⟨rfl, in_X0, by decide, wf_X0_52⟩
theorem fl_X0_17 : FL RX0 17 0 5 RX0 TX0 9 := ⟨rfl, in_X0, by decide, wf_X0_17⟩
theorem fl_X0_21 : FL RX0 21 0 6 RX0 TX0 9 := ⟨rfl, in_X0, by decide, wf_X0_21⟩
theorem fl_X0_24 : FL RX0 24 0 7 RX0 TX0 9 := ⟨rfl, in_X0, by decide, wf_X0_24⟩
theorem fl_X0_27 : FL RX0 27 0 8 RX0 TX0 9 := ⟨rfl, in_X0, by decide, wf_X0_27⟩
theorem fl_X5_21 : FL RX5 21 5 0 RX5 TX5 4 := ⟨rfl, in_X5, by decide, wf_X5_21⟩
theorem fl_X5_30 : FL RX5 30 5 1 RX5 TX5 4 := ⟨rfl, in_X5, by decide, wf_X5_30⟩
theorem fl_X5_39 : FL RX5 39 5 2 RX5 TX5 4 := ⟨rfl, in_X5, by decide, wf_X5_39⟩
theorem fl_X5_43 : FL RX5 43 5 3 RX5 TX5 4 := ⟨rfl, in_X5, by decide, wf_X5_43⟩
theorem fl_X3_9 : FL RX3 9 3 0 RX3 TX3 5 := ⟨rfl, in_X3, by decide, wf_X3_9⟩
theorem fl_X3_15 : FL RX3 15 3 1 RX3 TX3 5 := ⟨rfl, in_X3, by decide, wf_X3_15⟩
theorem fl_X3_18 : FL RX3 18 3 2 RX3 TX3 5 := ⟨rfl, in_X3, by decide, wf_X3_18⟩
theorem fl_X3_21 : FL RX3 21 3 3 RX3 TX3 5 := ⟨rfl, in_X3, by decide, wf_X3_21⟩
theorem fl_X3_24 : FL RX3 24 3 4 RX3 TX3 5 := ⟨rfl, in_X3, by decide, wf_X3_24⟩
theorem fl_X6_50 : FL RX6 50 6 0 RX6 TX6 19 := ⟨rfl, in_X6, by decide, wf_X6_50⟩
theorem fl_X6_54 : FL RX6 54 6 1 RX6 TX6 19 := ⟨rfl, in_X6, by decide, wf_X6_54⟩
theorem fl_X6_9 : FL RX6 9 6 2 RX6 TX6 19 := ⟨rfl, in_X6, by decide, wf_X6_9⟩
theorem fl_X6_13 : FL RX6 13 6 3 RX6 TX6 19 := ⟨rfl, in_X6, by decide, wf_X6_13⟩
theorem fl_X6_16 : FL RX6 16 6 4 RX6 TX6 19 := ⟨rfl, in_X6, by decide, wf_X6_16⟩
theorem fl_X6_19 : FL RX6 19 6 5 RX6 TX6 19 := ⟨rfl, in_X6, by decide, wf_X6_19⟩
theorem fl_X6_23 : FL RX6 23 6 6 RX6 TX6 19 := ⟨rfl, in_X6, by decide, wf_X6_23⟩
theorem fl_X6_26 : FL RX6 26 6 7 RX6 TX6 19 := ⟨rfl, in_X6, by decide, wf_X6_26⟩
theorem fl_X6_69 : FL RX6 69 6 8 RX6 TX6 19 := ⟨rfl, in_X6, by decide, wf_X6_69⟩
theorem fl_X6_29 : FL RX6 29 6 9 RX6 TX6 19 := ⟨rfl, in_X6, by decide, wf_X6_29⟩
theorem fl_X6_32 : FL RX6 32 6 10 RX6 TX6 19 := ⟨rfl, in_X6, by decide, wf_X6_32⟩
theorem fl_X6_35 : FL RX6 35 6 11 RX6 TX6 19 := ⟨rfl, in_X6, by decide, wf_X6_35⟩
theorem fl_X6_38 : FL RX6 38 6 12 RX6 TX6 19 := ⟨rfl, in_X6, by decide, wf_X6_38⟩
theorem fl_X6_41 : FL RX6 41 6 13 RX6 TX6 19 := ⟨rfl, in_X6, by decide, wf_X6_41⟩
theorem fl_X6_44 : FL RX6 44 6 14 RX6 TX6 19 := ⟨rfl, in_X6, by decide, wf_X6_44⟩
theorem fl_X6_47 : FL RX6 47 6 15 RX6 TX6 19 := ⟨rfl, in_X6, by decide, wf_X6_47⟩
theorem fl_X6_61 : FL RX6 61 6 16 RX6 TX6 19 := ⟨rfl, in_X6, by decide, wf_X6_61⟩
theorem fl_X6_107 : FL RX6 107 6 17 RX6 TX6 19 := ⟨rfl, in_X6, by decide, wf_X6_107⟩
theorem fl_X6_121 : FL RX6 121 6 18 RX6 TX6 19 := ⟨rfl, in_X6, by decide, wf_X6_121⟩
theorem fp_X0 : FP RX0 TX0 9 tyX0 := ⟨tyX0_ok, nmX0⟩
theorem fp_X1 : FP RX1 TX1 2 tyX1 := ⟨tyX1_ok, nmX1⟩
theorem fp_X2 : FP RX2 TX2 7 tyX2 := ⟨tyX2_ok, nmX2⟩
theorem fp_X3 : FP RX3 TX3 5 tyX3 := ⟨tyX3_ok, nmX3⟩
theorem fp_X4 : FP RX4 TX4 2 tyX4 := ⟨tyX4_ok, nmX4⟩
theorem fp_X5 : FP RX5 TX5 4 tyX5 := ⟨tyX5_ok, nmX5⟩
theorem fp_X6 : FP RX6 TX6 19 tyX6 := ⟨tyX6_ok, nmX6⟩
theorem ci_L_15 : CI RL 15 yX5_init cX5_init 5 2 := ⟨wl_L_15, wi_X5_init, wI_X5, wc_X5_init, rfl, by decide +kernel, by decide +kernel, by decide +kernel⟩
theorem ci_X5_18 : CI RX5 18 yX2_init cX2_init 4 2 := ⟨wl_X5_18, wi_X2_init, wI_X2, wc_X2_init, rfl, by decide +kernel, by decide +kernel, by decide +kernel⟩
theorem ci_X5_36 : CI RX5 36 yX0_init cX0_init 4 2 := ⟨wl_X5_36, wi_X0_init, wI_X0, wc_X0_init, rfl, by decide +kernel, by decide +kernel, by decide +kernel⟩
theorem cv_X0_39 : CV RX0 39 yX2_places cX2_places 1 (some .int) 0 := ⟨wl_X0_39, wi_X2_places, wse_X2_places, wI_X2, wc_X2_places, by decide +kernel, by decide +kernel, by decide +kernel⟩
theorem ci_X0_45 : CI RX0 45 yX1_init cX1_init 2 1 := ⟨wl_X0_45, wi_X1_init, wI_X1, wc_X1_init, rfl, by decide +kernel, by decide +kernel, by decide +kernel⟩
theorem cv_L_21 : CV RL 21 yX5_thick cX5_thick 4 (some .boolean) 3 := ⟨wl_L_21, wi_X5_thick, wse_X5_thick, wI_X5, wc_X5_thick, by decide +kernel, by decide +kernel, by decide +kernel⟩
theorem cv_X5_47 : CV RX5 47 yX2_hasSurface cX2_hasSurface 2 (some .boolean) 1 := ⟨wl_X5_47, wi_X2_hasSurface, wse_X2_hasSurface, wI_X2, wc_X2_hasSurface, by decide +kernel, by decide +kernel, by decide +kernel⟩
theorem cs_X5_51 : CS RX5 51 yX5_isDepth cX5_isDepth 1 (some .boolean) 1 := ⟨wl_X5_51, ws_X5_isDepth, wI_X5, wc_X5_isDepth, by decide +kernel, by decide +kernel, by decide +kernel⟩
theorem cv_X5_54 : CV RX5 54 yX2_setThick cX2_setThick 4 none 3 := ⟨wl_X5_54, wi_X2_setThick, wse_X2_setThick, wI_X2, wc_X2_setThick, by decide +kernel, by decide +kernel, by decide +kernel⟩
theorem cv_X2_41 : CV RX2 41 yX2_hasSurface cX2_hasSurface 2 (some .boolean) 1 := ⟨wl_X2_41, wi_X2_hasSurface, wse_X2_hasSurface, wI_X2, wc_X2_hasSurface, by decide +kernel, by decide +kernel, by decide +kernel⟩
theorem cv_X5_58 : CV RX5 58 yX0_forgetRock cX0_forgetRock 1 none 0 := ⟨wl_X5_58, wi_X0_forgetRock, wse_X0_forgetRock, wI_X0, wc_X0_forgetRock, by decide +kernel, by decide +kernel, by decide +kernel⟩
theorem cv_L_26 : CV RL 26 yX5_steep cX5_steep 3 (some .boolean) 2 := ⟨wl_L_26, wi_X5_steep, wse_X5_steep, wI_X5, wc_X5_steep, by decide +kernel, by decide +kernel, by decide +kernel⟩
theorem cv_X5_61 : CV RX5 61 yX2_setSteep cX2_setSteep 3 none 2 := ⟨wl_X5_61, wi_X2_setSteep, wse_X2_setSteep, wI_X2, wc_X2_setSteep, by decide +kernel, by decide +kernel, by decide +kernel⟩
theorem cv_L_31 : CV RL 31 yX5_fault cX5_fault 3 (some .boolean) 2 := ⟨wl_L_31, wi_X5_fault, wse_X5_fault, wI_X5, wc_X5_fault, by decide +kernel, by decide +kernel, by decide +kernel⟩
theorem cv_X5_64 : CV RX5 64 yX2_hasNextColumn cX2_hasNextColumn 2 (some .boolean) 1 := ⟨wl_X5_64, wi_X2_hasNextColumn, wse_X2_hasNextColumn, wI_X2, wc_X2_hasNextColumn, by decide +kernel, by decide +kernel, by decide +kernel⟩
theorem cs_X5_67 : CS RX5 67 yX5_isWithin cX5_isWithin 2 (some .boolean) 2 := ⟨wl_X5_67, ws_X5_isWithin, wI_X5, wc_X5_isWithin, by decide +kernel, by decide +kernel, by decide +kernel⟩
theorem cv_X5_71 : CV RX5 71 yX2_breakAt cX2_breakAt 3 none 2 := ⟨wl_X5_71, wi_X2_breakAt, wse_X2_breakAt, wI_X2, wc_X2_breakAt, by decide +kernel, by decide +kernel, by decide +kernel⟩
theorem cv_X2_50 : CV RX2 50 yX2_hasNextColumn cX2_hasNextColumn 2 (some .boolean) 1 := ⟨wl_X2_50, wi_X2_hasNextColumn, wse_X2_hasNextColumn, wI_X2, wc_X2_hasNextColumn, by decide +kernel, by decide +kernel, by decide +kernel⟩
theorem cv_L_35 : CV RL 35 yX5_heal cX5_heal 2 (some .boolean) 1 := ⟨wl_L_35, wi_X5_heal, wse_X5_heal, wI_X5, wc_X5_heal, by decide +kernel, by decide +kernel, by decide +kernel⟩
theorem cv_X5_74 : CV RX5 74 yX2_isBroken cX2_isBroken 2 (some .boolean) 1 := ⟨wl_X5_74, wi_X2_isBroken, wse_X2_isBroken, wI_X2, wc_X2_isBroken, by decide +kernel, by decide +kernel, by decide +kernel⟩
theorem cv_X5_77 : CV RX5 77 yX2_mendAt cX2_mendAt 2 none 1 := ⟨wl_X5_77, wi_X2_mendAt, wse_X2_mendAt, wI_X2, wc_X2_mendAt, by decide +kernel, by decide +kernel, by decide +kernel⟩
theorem cv_L_40 : CV RL 40 yX5_ground cX5_ground 3 (some .boolean) 2 := ⟨wl_L_40, wi_X5_ground, wse_X5_ground, wI_X5, wc_X5_ground, by decide +kernel, by decide +kernel, by decide +kernel⟩
theorem cv_L_44 : CV RL 44 yX5_sight cX5_sight 8 (some .int) 3 := ⟨wl_L_44, wi_X5_sight, wse_X5_sight, wI_X5, wc_X5_sight, by decide +kernel, by decide +kernel, by decide +kernel⟩
theorem cv_X5_81 : CV RX5 81 yX2_hasPlace cX2_hasPlace 3 (some .boolean) 2 := ⟨wl_X5_81, wi_X2_hasPlace, wse_X2_hasPlace, wI_X2, wc_X2_hasPlace, by decide +kernel, by decide +kernel, by decide +kernel⟩
theorem cv_X2_45 : CV RX2 45 yX2_hasColumn cX2_hasColumn 2 (some .boolean) 1 := ⟨wl_X2_45, wi_X2_hasColumn, wse_X2_hasColumn, wI_X2, wc_X2_hasColumn, by decide +kernel, by decide +kernel, by decide +kernel⟩
theorem ci_X5_86 : CI RX5 86 yX3_init cX3_init 6 5 := ⟨wl_X5_86, wi_X3_init, wI_X3, wc_X3_init, rfl, by decide +kernel, by decide +kernel, by decide +kernel⟩
theorem cv_X5_89 : CV RX5 89 yX4_add cX4_add 2 (some .int) 1 := ⟨wl_X5_89, wi_X4_add, wse_X4_add, wI_X4, wc_X4_add, by decide +kernel, by decide +kernel, by decide +kernel⟩
theorem cv_X5_93 : CV RX5 93 yX0_forgetQuarrel cX0_forgetQuarrel 1 none 0 := ⟨wl_X5_93, wi_X0_forgetQuarrel, wse_X0_forgetQuarrel, wI_X0, wc_X0_forgetQuarrel, by decide +kernel, by decide +kernel, by decide +kernel⟩
theorem cv_L_49 : CV RL 49 yX5_take cX5_take 2 (some .boolean) 1 := ⟨wl_L_49, wi_X5_take, wse_X5_take, wI_X5, wc_X5_take, by decide +kernel, by decide +kernel, by decide +kernel⟩
theorem cv_X5_96 : CV RX5 96 yX4_remove cX4_remove 2 (some .boolean) 1 := ⟨wl_X5_96, wi_X4_remove, wse_X4_remove, wI_X4, wc_X4_remove, by decide +kernel, by decide +kernel, by decide +kernel⟩
theorem cv_X4_21 : CV RX4 21 yX4_at cX4_at 2 (some (.object "HillLayers$Sight")) 1 := ⟨wl_X4_21, wi_X4_at, wse_X4_at, wI_X4, wc_X4_at, by decide +kernel, by decide +kernel, by decide +kernel⟩
theorem cv_L_53 : CV RL 53 yX5_quarrel cX5_quarrel 1 (some .int) 0 := ⟨wl_L_53, wi_X5_quarrel, wse_X5_quarrel, wI_X5, wc_X5_quarrel, by decide +kernel, by decide +kernel, by decide +kernel⟩
theorem cv_X5_99 : CV RX5 99 yX0_areSome cX0_areSome 1 (some .boolean) 0 := ⟨wl_X5_99, wi_X0_areSome, wse_X0_areSome, wI_X0, wc_X0_areSome, by decide +kernel, by decide +kernel, by decide +kernel⟩
theorem cv_X0_55 : CV RX0 55 yX1_clear cX1_clear 4 none 0 := ⟨wl_X0_55, wi_X1_clear, wse_X1_clear, wI_X1, wc_X1_clear, by decide +kernel, by decide +kernel, by decide +kernel⟩
theorem cv_X0_58 : CV RX0 58 yX2_bind cX2_bind 4 (some .boolean) 1 := ⟨wl_X0_58, wi_X2_bind, wse_X2_bind, wI_X2, wc_X2_bind, by decide +kernel, by decide +kernel, by decide +kernel⟩
theorem cv_X2_56 : CV RX2 56 yX2_bindThick cX2_bindThick 6 (some .boolean) 3 := ⟨wl_X2_56, wi_X2_bindThick, wse_X2_bindThick, wI_X2, wc_X2_bindThick, by decide +kernel, by decide +kernel, by decide +kernel⟩
theorem cv_X2_63 : CV RX2 63 yX2_hasPlace cX2_hasPlace 3 (some .boolean) 2 := ⟨wl_X2_63, wi_X2_hasPlace, wse_X2_hasPlace, wI_X2, wc_X2_hasPlace, by decide +kernel, by decide +kernel, by decide +kernel⟩
theorem cv_X2_67 : CV RX2 67 yX2_placeOf cX2_placeOf 3 (some .int) 2 := ⟨wl_X2_67, wi_X2_placeOf, wse_X2_placeOf, wI_X2, wc_X2_placeOf, by decide +kernel, by decide +kernel, by decide +kernel⟩
theorem cv_X2_70 : CV RX2 70 yX1_hold cX1_hold 5 (some .boolean) 4 := ⟨wl_X2_70, wi_X1_hold, wse_X1_hold, wI_X1, wc_X1_hold, by decide +kernel, by decide +kernel, by decide +kernel⟩
theorem cv_X1_31 : CV RX1 31 yX1_isPlace cX1_isPlace 2 (some .boolean) 1 := ⟨wl_X1_31, wi_X1_isPlace, wse_X1_isPlace, wI_X1, wc_X1_isPlace, by decide +kernel, by decide +kernel, by decide +kernel⟩
theorem cv_X1_38 : CV RX1 38 yX1_narrow cX1_narrow 8 none 3 := ⟨wl_X1_38, wi_X1_narrow, wse_X1_narrow, wI_X1, wc_X1_narrow, by decide +kernel, by decide +kernel, by decide +kernel⟩
theorem cv_X2_60 : CV RX2 60 yX2_bindStep cX2_bindStep 8 (some .boolean) 3 := ⟨wl_X2_60, wi_X2_bindStep, wse_X2_bindStep, wI_X2, wc_X2_bindStep, by decide +kernel, by decide +kernel, by decide +kernel⟩
theorem cv_X0_62 : CV RX0 62 yX0_findQuarrel cX0_findQuarrel 1 none 0 := ⟨wl_X0_62, wi_X0_findQuarrel, wse_X0_findQuarrel, wI_X0, wc_X0_findQuarrel, by decide +kernel, by decide +kernel, by decide +kernel⟩
theorem cv_X0_65 : CV RX0 65 yX4_heap cX4_heap 3 (some .int) 0 := ⟨wl_X0_65, wi_X4_heap, wse_X4_heap, wI_X4, wc_X4_heap, by decide +kernel, by decide +kernel, by decide +kernel⟩
theorem cv_X0_70 : CV RX0 70 yX1_copyFrom cX1_copyFrom 2 none 1 := ⟨wl_X0_70, wi_X1_copyFrom, wse_X1_copyFrom, wI_X1, wc_X1_copyFrom, by decide +kernel, by decide +kernel, by decide +kernel⟩
theorem cv_X0_74 : CV RX0 74 yX4_came cX4_came 1 (some .int) 0 := ⟨wl_X0_74, wi_X4_came, wse_X4_came, wI_X4, wc_X4_came, by decide +kernel, by decide +kernel, by decide +kernel⟩
theorem cs_X0_83 : CS RX0 83 yX0_decide cX0_decide 7 none 4 := ⟨wl_X0_83, ws_X0_decide, wI_X0, wc_X0_decide, by decide +kernel, by decide +kernel, by decide +kernel⟩
theorem cs_X0_87 : CS RX0 87 yJ6_bitCount_0f7a4 cJ6_bitCount_0f7a4 1 (some .int) 1 := ⟨wl_X0_87, ws_J6_bitCount_0f7a4, wI_J6, wc_J6_bitCount_0f7a4, by decide +kernel, by decide +kernel, by decide +kernel⟩
theorem cv_X0_93 : CV RX0 93 yX4_at cX4_at 2 (some (.object "HillLayers$Sight")) 1 := ⟨wl_X0_93, wi_X4_at, wse_X4_at, wI_X4, wc_X4_at, by decide +kernel, by decide +kernel, by decide +kernel⟩
theorem cv_X0_97 : CV RX0 97 yX3_bind cX3_bind 4 (some .boolean) 2 := ⟨wl_X0_97, wi_X3_bind, wse_X3_bind, wI_X3, wc_X3_bind, by decide +kernel, by decide +kernel, by decide +kernel⟩
theorem cv_X3_27 : CV RX3 27 yX2_placeOf cX2_placeOf 3 (some .int) 2 := ⟨wl_X3_27, wi_X2_placeOf, wse_X2_placeOf, wI_X2, wc_X2_placeOf, by decide +kernel, by decide +kernel, by decide +kernel⟩
theorem cv_X3_35 : CV RX3 35 yX1_hold cX1_hold 5 (some .boolean) 4 := ⟨wl_X3_35, wi_X1_hold, wse_X1_hold, wI_X1, wc_X1_hold, by decide +kernel, by decide +kernel, by decide +kernel⟩
theorem cv_X5_103 : CV RX5 103 yX0_leftOut cX0_leftOut 1 (some .int) 0 := ⟨wl_X5_103, wi_X0_leftOut, wse_X0_leftOut, wI_X0, wc_X0_leftOut, by decide +kernel, by decide +kernel, by decide +kernel⟩
theorem cv_L_58 : CV RL 58 yX5_span cX5_span 4 (some .int) 3 := ⟨wl_L_58, wi_X5_span, wse_X5_span, wI_X5, wc_X5_span, by decide +kernel, by decide +kernel, by decide +kernel⟩
theorem cs_X5_107 : CS RX5 107 yX5_isEnd cX5_isEnd 1 (some .boolean) 1 := ⟨wl_X5_107, ws_X5_isEnd, wI_X5, wc_X5_isEnd, by decide +kernel, by decide +kernel, by decide +kernel⟩
theorem cv_X5_110 : CV RX5 110 yX2_placeOf cX2_placeOf 3 (some .int) 2 := ⟨wl_X5_110, wi_X2_placeOf, wse_X2_placeOf, wI_X2, wc_X2_placeOf, by decide +kernel, by decide +kernel, by decide +kernel⟩
theorem cv_X5_113 : CV RX5 113 yX5_end cX5_end 4 (some .int) 2 := ⟨wl_X5_113, wi_X5_end, wse_X5_end, wI_X5, wc_X5_end, by decide +kernel, by decide +kernel, by decide +kernel⟩
theorem cv_X5_116 : CV RX5 116 yX0_agreed cX0_agreed 1 (some (.object "HillLayers$Gaps")) 0 := ⟨wl_X5_116, wi_X0_agreed, wse_X0_agreed, wI_X0, wc_X0_agreed, by decide +kernel, by decide +kernel, by decide +kernel⟩
theorem cv_X5_175 : CV RX5 175 yX1_least cX1_least 2 (some .int) 1 := ⟨wl_X5_175, wi_X1_least, wse_X1_least, wI_X1, wc_X1_least, by decide +kernel, by decide +kernel, by decide +kernel⟩
theorem cv_X1_35 : CV RX1 35 yX1_most cX1_most 3 (some .int) 2 := ⟨wl_X1_35, wi_X1_most, wse_X1_most, wI_X1, wc_X1_most, by decide +kernel, by decide +kernel, by decide +kernel⟩
theorem cv_X5_178 : CV RX5 178 yX1_greatest cX1_greatest 2 (some .int) 1 := ⟨wl_X5_178, wi_X1_greatest, wse_X1_greatest, wI_X1, wc_X1_greatest, by decide +kernel, by decide +kernel, by decide +kernel⟩
theorem cv_L_62 : CV RL 62 yX5_open cX5_open 1 (some .int) 0 := ⟨wl_L_62, wi_X5_open, wse_X5_open, wI_X5, wc_X5_open, by decide +kernel, by decide +kernel, by decide +kernel⟩
theorem cv_X5_120 : CV RX5 120 yX1_openSum cX1_openSum 3 (some .int) 0 := ⟨wl_X5_120, wi_X1_openSum, wse_X1_openSum, wI_X1, wc_X1_openSum, by decide +kernel, by decide +kernel, by decide +kernel⟩
theorem cv_X1_45 : CV RX1 45 yX1_greatest cX1_greatest 2 (some .int) 1 := ⟨wl_X1_45, wi_X1_greatest, wse_X1_greatest, wI_X1, wc_X1_greatest, by decide +kernel, by decide +kernel, by decide +kernel⟩
theorem cv_X1_49 : CV RX1 49 yX1_least cX1_least 2 (some .int) 1 := ⟨wl_X1_49, wi_X1_least, wse_X1_least, wI_X1, wc_X1_least, by decide +kernel, by decide +kernel, by decide +kernel⟩
theorem cv_L_66 : CV RL 66 yX5_layer cX5_layer 7 (some .int) 2 := ⟨wl_L_66, wi_X5_layer, wse_X5_layer, wI_X5, wc_X5_layer, by decide +kernel, by decide +kernel, by decide +kernel⟩
theorem cv_X5_125 : CV RX5 125 yX2_surfaces cX2_surfaces 1 (some .int) 0 := ⟨wl_X5_125, wi_X2_surfaces, wse_X2_surfaces, wI_X2, wc_X2_surfaces, by decide +kernel, by decide +kernel, by decide +kernel⟩
theorem cv_L_71 : CV RL 71 yX5_between cX5_between 7 (some .int) 3 := ⟨wl_L_71, wi_X5_between, wse_X5_between, wI_X5, wc_X5_between, by decide +kernel, by decide +kernel, by decide +kernel⟩
theorem cv_X5_128 : CV RX5 128 yX5_isPlaceCode cX5_isPlaceCode 2 (some .boolean) 1 := ⟨wl_X5_128, wi_X5_isPlaceCode, wse_X5_isPlaceCode, wI_X5, wc_X5_isPlaceCode, by decide +kernel, by decide +kernel, by decide +kernel⟩
theorem cv_X5_132 : CV RX5 132 yX1_most cX1_most 3 (some .int) 2 := ⟨wl_X5_132, wi_X1_most, wse_X1_most, wI_X1, wc_X1_most, by decide +kernel, by decide +kernel, by decide +kernel⟩
theorem cv_L_75 : CV RL 75 yX5_worn cX5_worn 4 (some .int) 2 := ⟨wl_L_75, wi_X5_worn, wse_X5_worn, wI_X5, wc_X5_worn, by decide +kernel, by decide +kernel, by decide +kernel⟩
theorem cv_L_79 : CV RL 79 yX5_tells cX5_tells 3 (some .int) 2 := ⟨wl_L_79, wi_X5_tells, wse_X5_tells, wI_X5, wc_X5_tells, by decide +kernel, by decide +kernel, by decide +kernel⟩
theorem cv_X5_135 : CV RX5 135 yX5_gain cX5_gain 5 (some .int) 1 := ⟨wl_X5_135, wi_X5_gain, wse_X5_gain, wI_X5, wc_X5_gain, by decide +kernel, by decide +kernel, by decide +kernel⟩
theorem cv_X5_181 : CV RX5 181 yX1_openSumAfterBore cX1_openSumAfterBore 7 (some .int) 2 := ⟨wl_X5_181, wi_X1_openSumAfterBore, wse_X1_openSumAfterBore, wI_X1, wc_X1_openSumAfterBore, by decide +kernel, by decide +kernel, by decide +kernel⟩
theorem cv_L_83 : CV RL 83 yX5_next cX5_next 6 (some .int) 0 := ⟨wl_L_83, wi_X5_next, wse_X5_next, wI_X5, wc_X5_next, by decide +kernel, by decide +kernel, by decide +kernel⟩
theorem cv_X5_139 : CV RX5 139 yX2_columns cX2_columns 1 (some .int) 0 := ⟨wl_X5_139, wi_X2_columns, wse_X2_columns, wI_X2, wc_X2_columns, by decide +kernel, by decide +kernel, by decide +kernel⟩
theorem cv_L_87 : CV RL 87 yX5_bend cX5_bend 8 (some .int) 1 := ⟨wl_L_87, wi_X5_bend, wse_X5_bend, wI_X5, wc_X5_bend, by decide +kernel, by decide +kernel, by decide +kernel⟩
theorem cv_L_92 : CV RL 92 yX5_told cX5_told 4 (some .int) 2 := ⟨wl_L_92, wi_X5_told, wse_X5_told, wI_X5, wc_X5_told, by decide +kernel, by decide +kernel, by decide +kernel⟩
theorem cv_X5_145 : CV RX5 145 yX4_at cX4_at 2 (some (.object "HillLayers$Sight")) 1 := ⟨wl_X5_145, wi_X4_at, wse_X4_at, wI_X4, wc_X4_at, by decide +kernel, by decide +kernel, by decide +kernel⟩
theorem cv_X5_149 : CV RX5 149 yX3_surface cX3_surface 1 (some .int) 0 := ⟨wl_X5_149, wi_X3_surface, wse_X3_surface, wI_X3, wc_X3_surface, by decide +kernel, by decide +kernel, by decide +kernel⟩
theorem cv_X5_152 : CV RX5 152 yX3_column cX3_column 1 (some .int) 0 := ⟨wl_X5_152, wi_X3_column, wse_X3_column, wI_X3, wc_X3_column, by decide +kernel, by decide +kernel, by decide +kernel⟩
theorem cv_X5_155 : CV RX5 155 yX3_kind cX3_kind 1 (some .int) 0 := ⟨wl_X5_155, wi_X3_kind, wse_X3_kind, wI_X3, wc_X3_kind, by decide +kernel, by decide +kernel, by decide +kernel⟩
theorem cv_X5_158 : CV RX5 158 yX3_z cX3_z 1 (some .int) 0 := ⟨wl_X5_158, wi_X3_z, wse_X3_z, wI_X3, wc_X3_z, by decide +kernel, by decide +kernel, by decide +kernel⟩
theorem cv_X5_161 : CV RX5 161 yX3_miss cX3_miss 1 (some .int) 0 := ⟨wl_X5_161, wi_X3_miss, wse_X3_miss, wI_X3, wc_X3_miss, by decide +kernel, by decide +kernel, by decide +kernel⟩
theorem cv_L_96 : CV RL 96 yX5_count cX5_count 2 (some .int) 1 := ⟨wl_L_96, wi_X5_count, wse_X5_count, wI_X5, wc_X5_count, by decide +kernel, by decide +kernel, by decide +kernel⟩
theorem cv_X5_164 : CV RX5 164 yX4_heap cX4_heap 3 (some .int) 0 := ⟨wl_X5_164, wi_X4_heap, wse_X4_heap, wI_X4, wc_X4_heap, by decide +kernel, by decide +kernel, by decide +kernel⟩
theorem cs_X5_167 : CS RX5 167 yJ6_bitCount_0f7a4 cJ6_bitCount_0f7a4 1 (some .int) 1 := ⟨wl_X5_167, ws_J6_bitCount_0f7a4, wI_J6, wc_J6_bitCount_0f7a4, by decide +kernel, by decide +kernel, by decide +kernel⟩
theorem cv_X5_172 : CV RX5 172 yX2_faults cX2_faults 3 (some .int) 0 := ⟨wl_X5_172, wi_X2_faults, wse_X2_faults, wI_X2, wc_X2_faults, by decide +kernel, by decide +kernel, by decide +kernel⟩
theorem cv_X2_53 : CV RX2 53 yX2_isBroken cX2_isBroken 2 (some .boolean) 1 := ⟨wl_X2_53, wi_X2_isBroken, wse_X2_isBroken, wI_X2, wc_X2_isBroken, by decide +kernel, by decide +kernel, by decide +kernel⟩
theorem cs_L_9 : CS RL 9 yL_cell cL_cell 2 (some .int) 2 := ⟨wl_L_9, ws_L_cell, wI_L, wc_L_cell, by decide +kernel, by decide +kernel, by decide +kernel⟩
theorem ci_L_20 : CI RL 20 yX6_init cX6_init 4 2 := ⟨wl_L_20, wi_X6_init, wI_X6, wc_X6_init, rfl, by decide +kernel, by decide +kernel, by decide +kernel⟩
theorem cv_L_25 : CV RL 25 yX6_thick cX6_thick 4 (some .boolean) 3 := ⟨wl_L_25, wi_X6_thick, wse_X6_thick, wI_X6, wc_X6_thick, by decide +kernel, by decide +kernel, by decide +kernel⟩
theorem cs_X6_57 : CS RX6 57 yX6_in cX6_in 3 (some .boolean) 3 := ⟨wl_X6_57, ws_X6_in, wI_X6, wc_X6_in, by decide +kernel, by decide +kernel, by decide +kernel⟩
theorem cv_L_30 : CV RL 30 yX6_steep cX6_steep 3 (some .boolean) 2 := ⟨wl_L_30, wi_X6_steep, wse_X6_steep, wI_X6, wc_X6_steep, by decide +kernel, by decide +kernel, by decide +kernel⟩
theorem cv_L_34 : CV RL 34 yX6_fault cX6_fault 3 (some .boolean) 2 := ⟨wl_L_34, wi_X6_fault, wse_X6_fault, wI_X6, wc_X6_fault, by decide +kernel, by decide +kernel, by decide +kernel⟩
theorem cv_L_39 : CV RL 39 yX6_heal cX6_heal 2 (some .boolean) 1 := ⟨wl_L_39, wi_X6_heal, wse_X6_heal, wI_X6, wc_X6_heal, by decide +kernel, by decide +kernel, by decide +kernel⟩
theorem cv_L_43 : CV RL 43 yX6_ground cX6_ground 3 (some .boolean) 2 := ⟨wl_L_43, wi_X6_ground, wse_X6_ground, wI_X6, wc_X6_ground, by decide +kernel, by decide +kernel, by decide +kernel⟩
theorem cv_L_48 : CV RL 48 yX6_sight cX6_sight 4 (some .int) 3 := ⟨wl_L_48, wi_X6_sight, wse_X6_sight, wI_X6, wc_X6_sight, by decide +kernel, by decide +kernel, by decide +kernel⟩
theorem cv_X6_65 : CV RX6 65 yX6_isPlace cX6_isPlace 3 (some .boolean) 2 := ⟨wl_X6_65, wi_X6_isPlace, wse_X6_isPlace, wI_X6, wc_X6_isPlace, by decide +kernel, by decide +kernel, by decide +kernel⟩
theorem cv_L_52 : CV RL 52 yX6_take cX6_take 2 (some .boolean) 1 := ⟨wl_L_52, wi_X6_take, wse_X6_take, wI_X6, wc_X6_take, by decide +kernel, by decide +kernel, by decide +kernel⟩
theorem cv_X6_72 : CV RX6 72 yX6_isSight cX6_isSight 2 (some .boolean) 1 := ⟨wl_X6_72, wi_X6_isSight, wse_X6_isSight, wI_X6, wc_X6_isSight, by decide +kernel, by decide +kernel, by decide +kernel⟩
theorem cv_L_57 : CV RL 57 yX6_quarrel cX6_quarrel 1 (some .int) 0 := ⟨wl_L_57, wi_X6_quarrel, wse_X6_quarrel, wI_X6, wc_X6_quarrel, by decide +kernel, by decide +kernel, by decide +kernel⟩
theorem cv_X6_124 : CV RX6 124 yX6_reckons cX6_reckons 1 (some .boolean) 0 := ⟨wl_X6_124, wi_X6_reckons, wse_X6_reckons, wI_X6, wc_X6_reckons, by decide +kernel, by decide +kernel, by decide +kernel⟩
theorem cv_X6_103 : CV RX6 103 yX6_found cX6_found 4 (some .boolean) 0 := ⟨wl_X6_103, wi_X6_found, wse_X6_found, wI_X6, wc_X6_found, by decide +kernel, by decide +kernel, by decide +kernel⟩
theorem cv_X6_110 : CV RX6 110 yX6_stands cX6_stands 5 (some .boolean) 0 := ⟨wl_X6_110, wi_X6_stands, wse_X6_stands, wI_X6, wc_X6_stands, by decide +kernel, by decide +kernel, by decide +kernel⟩
theorem cs_X6_81 : CS RX6 81 yX6_node cX6_node 2 (some .int) 2 := ⟨wl_X6_81, ws_X6_node, wI_X6, wc_X6_node, by decide +kernel, by decide +kernel, by decide +kernel⟩
theorem cv_X6_76 : CV RX6 76 yX6_bounds cX6_bounds 4 none 3 := ⟨wl_X6_76, wi_X6_bounds, wse_X6_bounds, wI_X6, wc_X6_bounds, by decide +kernel, by decide +kernel, by decide +kernel⟩
theorem cv_X6_85 : CV RX6 85 yX6_within cX6_within 5 none 4 := ⟨wl_X6_85, wi_X6_within, wse_X6_within, wI_X6, wc_X6_within, by decide +kernel, by decide +kernel, by decide +kernel⟩
theorem cv_X6_113 : CV RX6 113 yX6_pairs cX6_pairs 5 none 1 := ⟨wl_X6_113, wi_X6_pairs, wse_X6_pairs, wI_X6, wc_X6_pairs, by decide +kernel, by decide +kernel, by decide +kernel⟩
theorem cv_X6_100 : CV RX6 100 yX6_agrees cX6_agrees 3 (some .boolean) 1 := ⟨wl_X6_100, wi_X6_agrees, wse_X6_agrees, wI_X6, wc_X6_agrees, by decide +kernel, by decide +kernel, by decide +kernel⟩
theorem cv_X6_97 : CV RX6 97 yX6_sees cX6_sees 4 (some .boolean) 1 := ⟨wl_X6_97, wi_X6_sees, wse_X6_sees, wI_X6, wc_X6_sees, by decide +kernel, by decide +kernel, by decide +kernel⟩
theorem cv_X6_93 : CV RX6 93 yX6_addsWithin cX6_addsWithin 5 (some .boolean) 4 := ⟨wl_X6_93, wi_X6_addsWithin, wse_X6_addsWithin, wI_X6, wc_X6_addsWithin, by decide +kernel, by decide +kernel, by decide +kernel⟩
theorem cv_X6_90 : CV RX6 90 yX6_adds cX6_adds 7 (some .boolean) 3 := ⟨wl_X6_90, wi_X6_adds, wse_X6_adds, wI_X6, wc_X6_adds, by decide +kernel, by decide +kernel, by decide +kernel⟩
theorem cs_X6_117 : CS RX6 117 yX6_bits cX6_bits 3 (some .int) 1 := ⟨wl_X6_117, ws_X6_bits, wI_X6, wc_X6_bits, by decide +kernel, by decide +kernel, by decide +kernel⟩
theorem cv_L_61 : CV RL 61 yX6_span cX6_span 4 (some .int) 3 := ⟨wl_L_61, wi_X6_span, wse_X6_span, wI_X6, wc_X6_span, by decide +kernel, by decide +kernel, by decide +kernel⟩
theorem cv_X6_127 : CV RX6 127 yX6_low cX6_low 2 (some .int) 1 := ⟨wl_X6_127, wi_X6_low, wse_X6_low, wI_X6, wc_X6_low, by decide +kernel, by decide +kernel, by decide +kernel⟩
theorem cv_X6_130 : CV RX6 130 yX6_high cX6_high 2 (some .int) 1 := ⟨wl_X6_130, wi_X6_high, wse_X6_high, wI_X6, wc_X6_high, by decide +kernel, by decide +kernel, by decide +kernel⟩
theorem cv_L_65 : CV RL 65 yX6_open cX6_open 1 (some .int) 0 := ⟨wl_L_65, wi_X6_open, wse_X6_open, wI_X6, wc_X6_open, by decide +kernel, by decide +kernel, by decide +kernel⟩
theorem cv_X6_133 : CV RX6 133 yX6_opens cX6_opens 4 (some .int) 0 := ⟨wl_X6_133, wi_X6_opens, wse_X6_opens, wI_X6, wc_X6_opens, by decide +kernel, by decide +kernel, by decide +kernel⟩
theorem cv_L_70 : CV RL 70 yX6_layer cX6_layer 6 (some .int) 2 := ⟨wl_L_70, wi_X6_layer, wse_X6_layer, wI_X6, wc_X6_layer, by decide +kernel, by decide +kernel, by decide +kernel⟩
theorem cv_L_74 : CV RL 74 yX6_between cX6_between 6 (some .int) 3 := ⟨wl_L_74, wi_X6_between, wse_X6_between, wI_X6, wc_X6_between, by decide +kernel, by decide +kernel, by decide +kernel⟩
theorem cv_L_78 : CV RL 78 yX6_worn cX6_worn 4 (some .int) 2 := ⟨wl_L_78, wi_X6_worn, wse_X6_worn, wI_X6, wc_X6_worn, by decide +kernel, by decide +kernel, by decide +kernel⟩
theorem cv_L_82 : CV RL 82 yX6_tells cX6_tells 3 (some .int) 2 := ⟨wl_L_82, wi_X6_tells, wse_X6_tells, wI_X6, wc_X6_tells, by decide +kernel, by decide +kernel, by decide +kernel⟩
theorem cv_X6_141 : CV RX6 141 yX6_tellsAt cX6_tellsAt 4 (some .int) 1 := ⟨wl_X6_141, wi_X6_tellsAt, wse_X6_tellsAt, wI_X6, wc_X6_tellsAt, by decide +kernel, by decide +kernel, by decide +kernel⟩
theorem cv_X6_138 : CV RX6 138 yX6_opensBy cX6_opensBy 9 (some .int) 2 := ⟨wl_X6_138, wi_X6_opensBy, wse_X6_opensBy, wI_X6, wc_X6_opensBy, by decide +kernel, by decide +kernel, by decide +kernel⟩
theorem cv_L_86 : CV RL 86 yX6_next cX6_next 6 (some .int) 0 := ⟨wl_L_86, wi_X6_next, wse_X6_next, wI_X6, wc_X6_next, by decide +kernel, by decide +kernel, by decide +kernel⟩
theorem cv_L_91 : CV RL 91 yX6_bend cX6_bend 6 (some .int) 1 := ⟨wl_L_91, wi_X6_bend, wse_X6_bend, wI_X6, wc_X6_bend, by decide +kernel, by decide +kernel, by decide +kernel⟩
theorem cv_X6_144 : CV RX6 144 yX6_depth cX6_depth 4 (some .int) 3 := ⟨wl_X6_144, wi_X6_depth, wse_X6_depth, wI_X6, wc_X6_depth, by decide +kernel, by decide +kernel, by decide +kernel⟩
theorem cv_L_95 : CV RL 95 yX6_told cX6_told 3 (some .int) 2 := ⟨wl_L_95, wi_X6_told, wse_X6_told, wI_X6, wc_X6_told, by decide +kernel, by decide +kernel, by decide +kernel⟩
theorem cv_L_99 : CV RL 99 yX6_count cX6_count 4 (some .int) 1 := ⟨wl_L_99, wi_X6_count, wse_X6_count, wI_X6, wc_X6_count, by decide +kernel, by decide +kernel, by decide +kernel⟩
section KP
variable {p : Program} {l : Launch} {e : Env} {R : Room} {s : State} {m : MethodId} {args : Array Value} {below : List Frame} {meth : Method} {c : Code} {Q : State → Prop} {D : va_G} {A : Nat → Prop} {H0 : Heap} {nL k n N : Nat} {ad : Nat → Nat} {pc : Nat} {lv : List (Nat × Value)} {st : List Value} {cc : ByteArray} {own : String} {K : Nat → ClassId} {W S ns nc : Nat} {B : Nat → Option Nat} {σ : Nat → Nat → Int32} {j8 : Nat} {v8 : Option Nat}
theorem k_putns (pc' : Nat) (C : Cx p s m args meth c cc own nL D (TY K) A H0) {index : Nat} (F : FL own index 6 8 RX6 TX6 19) (P : FP RX6 TX6 19 tyX6) (hd : decode cc pc = .ok (.putfield index, 3)) (hp : pc + 3 = pc') (hr : 36 < N) {ns' : Nat} {x : Int32} (hx : x = nI ns') (kk : J p l e R s m args below meth c Q D A H0 nL k n N ad (CT K W S ns' nc ad B σ) pc' lv st) : J p l e R s m args below meth c Q D A H0 nL k n N ad (CT K W S ns nc ad B σ) pc lv (.int x :: .ref (ad 36) :: st) := by
  subst hx
  refine j_put pc' C F P rfl hd hp 36 hr rfl (CE_36 (σ 36)) rfl rfl (Nat.le_of_ble_eq_true rfl) (j_ct (fun r _ => ?_) kk)
  by_cases h : r = 36
  · subst h; rw [va_up_self]; rfl
  · rw [va_up_ne _ _ h]
    show CE K W S ns nc ad B r (σ r) = CE K W S ns' nc ad B r (σ r)
    unfold CE
    by_cases h1 : r < 11
    · rw [if_pos h1, if_pos h1]
    rw [if_neg h1, if_neg h1]
    by_cases h2 : r < 35
    · rw [if_pos h2, if_pos h2]
    rw [if_neg h2, if_neg h2]
    by_cases h3 : r < 50
    · rw [if_pos h3, if_pos h3]
      obtain ⟨u, hu⟩ : ∃ u, r = u + 35 := ⟨r - 35, by omega⟩
      subst hu
      rw [Nat.add_sub_cancel]
      match u with
      | 0 => rfl
      | 1 => exact absurd rfl h
      | 2 => rfl
      | 3 => rfl
      | 4 => rfl
      | 5 => rfl
      | 6 => rfl
      | 7 => rfl
      | 8 => rfl
      | 9 => rfl
      | 10 => rfl
      | 11 => rfl
      | 12 => rfl
      | 13 => rfl
      | v + 14 => rfl
    · rw [if_neg h3, if_neg h3]
theorem k_putnc (pc' : Nat) (C : Cx p s m args meth c cc own nL D (TY K) A H0) {index : Nat} (F : FL own index 4 1 RX4 TX4 2) (P : FP RX4 TX4 2 tyX4) (hd : decode cc pc = .ok (.putfield index, 3)) (hp : pc + 3 = pc') (hr : 7 < N) {nc' : Nat} {x : Int32} (hx : x = nI nc') (kk : J p l e R s m args below meth c Q D A H0 nL k n N ad (CT K W S ns nc' ad B σ) pc' lv st) : J p l e R s m args below meth c Q D A H0 nL k n N ad (CT K W S ns nc ad B σ) pc lv (.int x :: .ref (ad 7) :: st) := by
  subst hx
  refine j_put pc' C F P rfl hd hp 7 hr rfl (CE_7 (σ 7)) rfl rfl (Nat.le_of_ble_eq_true rfl) (j_ct (fun r _ => ?_) kk)
  by_cases h : r = 7
  · subst h; rw [va_up_self]; rfl
  · rw [va_up_ne _ _ h]
    show CE K W S ns nc ad B r (σ r) = CE K W S ns nc' ad B r (σ r)
    unfold CE
    by_cases h1 : r < 11
    · rw [if_pos h1, if_pos h1]
      match r with
      | 0 => rfl
      | 1 => rfl
      | 2 => rfl
      | 3 => rfl
      | 4 => rfl
      | 5 => rfl
      | 6 => rfl
      | 7 => exact absurd rfl h
      | 8 => rfl
      | 9 => rfl
      | v + 10 => rfl
    rw [if_neg h1, if_neg h1]
theorem CT_B8 {B' : Nat → Option Nat} (h : ∀ i, (B' i).map ad = va_up (fun i => (B i).map ad) j8 v8 i) : va_up (CT K W S ns nc ad B σ) 8 (.inl (K 3, 10, .inr (.inr (.inr (.inr (va_up (fun i => (B i).map ad) j8 v8)))))) = CT K W S ns nc ad B' σ := by
  funext r
  by_cases h8 : r = 8
  · subst h8
    rw [va_up_self]
    show _ = CE K W S ns nc ad B' 8 (σ 8)
    rw [CE_8, show (fun i => (B' i).map ad) = va_up (fun i => (B i).map ad) j8 v8 from funext h]
  · rw [va_up_ne _ _ h8]
    have h := h8
    show CE K W S ns nc ad B r (σ r) = CE K W S ns nc ad B' r (σ r)
    unfold CE
    by_cases h1 : r < 11
    · rw [if_pos h1, if_pos h1]
      match r with
      | 0 => rfl
      | 1 => rfl
      | 2 => rfl
      | 3 => rfl
      | 4 => rfl
      | 5 => rfl
      | 6 => rfl
      | 7 => rfl
      | 8 => exact absurd rfl h
      | 9 => rfl
      | v + 10 => rfl
    rw [if_neg h1, if_neg h1]
theorem k_astq8 (pc' : Nat) (C : Cx p s m args meth c cc own nL D (TY K) A H0) (hd : decode cc pc = .ok (.aastore, 1)) (hp : pc + 1 = pc') (hr : 8 < N) {q : Nat} (hq : 50 ≤ q) (hqN : q < N) {i : Int32} (hin : vp_in i 10) (kk : J p l e R s m args below meth c Q D A H0 nL k n N ad (CT K W S ns nc ad (va_up B i.toNatClampNeg (some q)) σ) pc' lv st) : J p l e R s m args below meth c Q D A H0 nL k n N ad (CT K W S ns nc ad B σ) pc lv (.ref (ad q) :: .int i :: .ref (ad 8) :: st) := by
  refine j_astq pc' C hd hp 8 hr rfl (CE_8 _) 3 (rc := (RX3, TX3, 5)) rfl 3 rfl q hqN rfl (CE_q hq _) hin rfl ?_
  rw [CT_B8 (B' := va_up B i.toNatClampNeg (some q)) (fun j => ?_)]
  · exact kk
  · by_cases h : j = i.toNatClampNeg
    · subst h; rw [va_up_self, va_up_self]; rfl
    · rw [va_up_ne _ _ h, va_up_ne _ _ h]
theorem k_astq8N (pc' : Nat) (C : Cx p s m args meth c cc own nL D (TY K) A H0) (hd : decode cc pc = .ok (.aastore, 1)) (hp : pc + 1 = pc') (hr : 8 < N) {i : Int32} (hin : vp_in i 10) (kk : J p l e R s m args below meth c Q D A H0 nL k n N ad (CT K W S ns nc ad (va_up B i.toNatClampNeg none) σ) pc' lv st) : J p l e R s m args below meth c Q D A H0 nL k n N ad (CT K W S ns nc ad B σ) pc lv (.null :: .int i :: .ref (ad 8) :: st) := by
  refine j_astqN pc' C hd hp 8 hr rfl (CE_8 _) 3 rfl hin rfl ?_
  rw [CT_B8 (B' := va_up B i.toNatClampNeg none) (fun j => ?_)]
  · exact kk
  · by_cases h : j = i.toNatClampNeg
    · subst h; rw [va_up_self, va_up_self]; rfl
    · rw [va_up_ne _ _ h, va_up_ne _ _ h]
end KP
end
section
def m_J6_bitCount_0f7a4 (W S ns nc : Nat) (B : Nat → Option Nat) (σ : Nat → Nat → Int32) (v : Int32) : Int32 := ap (v - (((v.toUInt32 >>> ((nI 1).toUInt32 &&& Int32.toUInt32 31)).toInt32) &&& (nI 1431655765))) (fun (x9 : Int32) => ap ((x9 &&& (nI 858993459)) + (((x9.toUInt32 >>> ((nI 2).toUInt32 &&& Int32.toUInt32 31)).toInt32) &&& (nI 858993459))) (fun (x23 : Int32) => ap ((x23 + ((x23.toUInt32 >>> ((nI 4).toUInt32 &&& Int32.toUInt32 31)).toInt32)) &&& (nI 252645135)) (fun (x33 : Int32) => ap (x33 + ((x33.toUInt32 >>> ((nI 8).toUInt32 &&& Int32.toUInt32 31)).toInt32)) (fun (x40 : Int32) => ap (x40 + ((x40.toUInt32 >>> ((nI 16).toUInt32 &&& Int32.toUInt32 31)).toInt32)) (fun (x47 : Int32) => x47 &&& (nI 63))))))
abbrev rm_J6_bitCount_0f7a4 : Room := { frames := 0, cells := 0, slots := 0, locals := 0 }
set_option maxHeartbeats 4000000 in
set_option maxRecDepth 100000 in
theorem c_J6_bitCount_0f7a4 {l : Launch} {D : va_G} {K : Nat → ClassId} {W S ns nc N : Nat} {ad : Nat → Nat} {B : Nat → Option Nat} {σ : Nat → Nat → Int32} (hG : GH W S ns nc N) {v : Int32}  {z : Int32} (hz : m_J6_bitCount_0f7a4 W S ns nc B σ v = z)  : MC l yJ6_bitCount_0f7a4 cJ6_bitCount_0f7a4 1 (some .int) rm_J6_bitCount_0f7a4 D (TY K) N ad (CT K W S ns nc ad B σ) [.int v] (BS (some (.int z)) N ad (CT K W S ns nc ad B σ) True) := by
  have hW := hG.1; have hW8 := hG.2.1; have hS := hG.2.2.1; have hS4 := hG.2.2.2.1; have hns := hG.2.2.2.2.1; have hnc := hG.2.2.2.2.2.1; have hWS := GH_ws hG
  refine MC.of (by decide) (Nat.le_of_ble_eq_true rfl) (fun p e s m args below meth c Q A H0 C X => ?_)
  replace C : Cx p s m args meth c cJ6_bitCount_0f7a4 RJ6 1 D (TY K) A H0 := C
  show J p l e rm_J6_bitCount_0f7a4 s m args below meth c Q D A H0 1 0 0 N ad (CT K W S ns nc ad B σ) 0 [(0, .int v)] []
  unfold m_J6_bitCount_0f7a4 at hz
  refine j_iload_n 1 C dJ6_bitCount_0f7a4_0 rfl rfl 0 rfl ?_
  refine j_iload_n 2 C dJ6_bitCount_0f7a4_1 rfl rfl 0 rfl ?_
  refine j_iconst 3 C (x := nI 1) dJ6_bitCount_0f7a4_2 rfl (by decide) ?_
  refine j_iushr 4 C dJ6_bitCount_0f7a4_3 rfl rfl ?_
  refine j_ldcw 7 C (x' := nI 1431655765) wv_J6_265 dJ6_bitCount_0f7a4_4 rfl (by decide) ?_
  refine j_iand 8 C dJ6_bitCount_0f7a4_7 rfl rfl ?_
  refine j_isub 9 C dJ6_bitCount_0f7a4_8 rfl rfl ?_
  obtain ⟨x9, e9, hz⟩ := ap_x hz
  refine j_st (st' := [.int x9]) (by rw [← e9]) ?_
  refine j_istore_n 10 C [(0, .int x9)] dJ6_bitCount_0f7a4_9 rfl rfl (by decide) rfl ?_
  refine j_iload_n 11 C dJ6_bitCount_0f7a4_10 rfl rfl 0 rfl ?_
  refine j_ldcw 14 C (x' := nI 858993459) wv_J6_266 dJ6_bitCount_0f7a4_11 rfl (by decide) ?_
  refine j_iand 15 C dJ6_bitCount_0f7a4_14 rfl rfl ?_
  refine j_iload_n 16 C dJ6_bitCount_0f7a4_15 rfl rfl 0 rfl ?_
  refine j_iconst 17 C (x := nI 2) dJ6_bitCount_0f7a4_16 rfl (by decide) ?_
  refine j_iushr 18 C dJ6_bitCount_0f7a4_17 rfl rfl ?_
  refine j_ldcw 21 C (x' := nI 858993459) wv_J6_266 dJ6_bitCount_0f7a4_18 rfl (by decide) ?_
  refine j_iand 22 C dJ6_bitCount_0f7a4_21 rfl rfl ?_
  refine j_iadd 23 C dJ6_bitCount_0f7a4_22 rfl rfl ?_
  obtain ⟨x23, e23, hz⟩ := ap_x hz
  refine j_st (st' := [.int x23]) (by rw [← e23]) ?_
  refine j_istore_n 24 C [(0, .int x23)] dJ6_bitCount_0f7a4_23 rfl rfl (by decide) rfl ?_
  refine j_iload_n 25 C dJ6_bitCount_0f7a4_24 rfl rfl 0 rfl ?_
  refine j_iload_n 26 C dJ6_bitCount_0f7a4_25 rfl rfl 0 rfl ?_
  refine j_iconst 27 C (x := nI 4) dJ6_bitCount_0f7a4_26 rfl (by decide) ?_
  refine j_iushr 28 C dJ6_bitCount_0f7a4_27 rfl rfl ?_
  refine j_iadd 29 C dJ6_bitCount_0f7a4_28 rfl rfl ?_
  refine j_ldcw 32 C (x' := nI 252645135) wv_J6_267 dJ6_bitCount_0f7a4_29 rfl (by decide) ?_
  refine j_iand 33 C dJ6_bitCount_0f7a4_32 rfl rfl ?_
  obtain ⟨x33, e33, hz⟩ := ap_x hz
  refine j_st (st' := [.int x33]) (by rw [← e33]) ?_
  refine j_istore_n 34 C [(0, .int x33)] dJ6_bitCount_0f7a4_33 rfl rfl (by decide) rfl ?_
  refine j_iload_n 35 C dJ6_bitCount_0f7a4_34 rfl rfl 0 rfl ?_
  refine j_iload_n 36 C dJ6_bitCount_0f7a4_35 rfl rfl 0 rfl ?_
  refine j_bipush 38 C (x := nI 8) dJ6_bitCount_0f7a4_36 rfl (by decide) ?_
  refine j_iushr 39 C dJ6_bitCount_0f7a4_38 rfl rfl ?_
  refine j_iadd 40 C dJ6_bitCount_0f7a4_39 rfl rfl ?_
  obtain ⟨x40, e40, hz⟩ := ap_x hz
  refine j_st (st' := [.int x40]) (by rw [← e40]) ?_
  refine j_istore_n 41 C [(0, .int x40)] dJ6_bitCount_0f7a4_40 rfl rfl (by decide) rfl ?_
  refine j_iload_n 42 C dJ6_bitCount_0f7a4_41 rfl rfl 0 rfl ?_
  refine j_iload_n 43 C dJ6_bitCount_0f7a4_42 rfl rfl 0 rfl ?_
  refine j_bipush 45 C (x := nI 16) dJ6_bitCount_0f7a4_43 rfl (by decide) ?_
  refine j_iushr 46 C dJ6_bitCount_0f7a4_45 rfl rfl ?_
  refine j_iadd 47 C dJ6_bitCount_0f7a4_46 rfl rfl ?_
  obtain ⟨x47, e47, hz⟩ := ap_x hz
  refine j_st (st' := [.int x47]) (by rw [← e47]) ?_
  refine j_istore_n 48 C [(0, .int x47)] dJ6_bitCount_0f7a4_47 rfl rfl (by decide) rfl ?_
  refine j_iload_n 49 C dJ6_bitCount_0f7a4_48 rfl rfl 0 rfl ?_
  refine j_bipush 51 C (x := nI 63) dJ6_bitCount_0f7a4_49 rfl (by decide) ?_
  refine j_iand 52 C dJ6_bitCount_0f7a4_51 rfl rfl ?_
  subst hz
  exact j_retI C X dJ6_bitCount_0f7a4_52 rfl ⟨rfl, rfl, rfl, rfl, trivial⟩
def m_X1_isPlace (W S ns nc : Nat) (B : Nat → Option Nat) (σ : Nat → Nat → Int32) (g : Nat) (place : Int32) : Int32 := (if place < 0 then nI 0 else (if (nI (W * S + 1)) ≤ place then nI 0 else nI 1))
abbrev rm_X1_isPlace : Room := { frames := 0, cells := 0, slots := 0, locals := 0 }
set_option maxHeartbeats 4000000 in
set_option maxRecDepth 100000 in
theorem c_X1_isPlace {l : Launch} {D : va_G} {K : Nat → ClassId} {W S ns nc N : Nat} {ad : Nat → Nat} {B : Nat → Option Nat} {σ : Nat → Nat → Int32} (hG : GH W S ns nc N) {g : Nat} {place : Int32} (hg : g < 12) {z : Int32} (hz : m_X1_isPlace W S ns nc B σ g place = z)  : MC l yX1_isPlace cX1_isPlace 2 (some .boolean) rm_X1_isPlace D (TY K) N ad (CT K W S ns nc ad B σ) [.ref (ad (11 + 2 * g)), .int place] (BS (some (.int z)) N ad (CT K W S ns nc ad B σ) (bl z)) := by
  have hW := hG.1; have hW8 := hG.2.1; have hS := hG.2.2.1; have hS4 := hG.2.2.2.1; have hns := hG.2.2.2.2.1; have hnc := hG.2.2.2.2.2.1; have hWS := GH_ws hG
  refine MC.of (by decide) (Nat.le_of_ble_eq_true rfl) (fun p e s m args below meth c Q A H0 C X => ?_)
  replace C : Cx p s m args meth c cX1_isPlace RX1 2 D (TY K) A H0 := C
  show J p l e rm_X1_isPlace s m args below meth c Q D A H0 2 0 0 N ad (CT K W S ns nc ad B σ) 0 [(0, .ref (ad (11 + 2 * g))), (1, .int place)] []
  unfold m_X1_isPlace at hz
  refine j_iload_n 1 C dX1_isPlace_0 rfl rfl 1 rfl ?_
  refine j_if_lt 16 4 C dX1_isPlace_1 rfl rfl (fun c_1 => ?_) (fun c_1 => ?_)
  · replace hz := (if_pos c_1).symm.trans hz
    refine j_iconst 17 C (x := nI 0) dX1_isPlace_16 rfl (by decide) ?_
    subst hz
    exact j_retI C X dX1_isPlace_17 (bl_nar bl_0) ⟨rfl, rfl, rfl, rfl, bl_0⟩
  · replace hz := (if_neg c_1).symm.trans hz
    refine j_iload_n 5 C dX1_isPlace_4 rfl rfl 1 rfl ?_
    refine j_aload_n 6 C dX1_isPlace_5 rfl rfl 0 rfl ?_
    refine k_get 9 C fl_X1_15 dX1_isPlace_6 rfl (11 + 2 * g) (GH_r hG (by omega)) _ rfl (CE_go (by omega) _) (.int (nI (W * S + 1))) rfl ?_
    refine j_ic_ge 16 12 C dX1_isPlace_9 rfl rfl (fun c_9 => ?_) (fun c_9 => ?_)
    · replace hz := (if_pos c_9).symm.trans hz
      refine j_iconst 17 C (x := nI 0) dX1_isPlace_16 rfl (by decide) ?_
      subst hz
      exact j_retI C X dX1_isPlace_17 (bl_nar bl_0) ⟨rfl, rfl, rfl, rfl, bl_0⟩
    · replace hz := (if_neg c_9).symm.trans hz
      refine j_iconst 13 C (x := nI 1) dX1_isPlace_12 rfl (by decide) ?_
      refine j_goto 17 C dX1_isPlace_13 rfl ?_
      subst hz
      exact j_retI C X dX1_isPlace_17 (bl_nar bl_1) ⟨rfl, rfl, rfl, rfl, bl_1⟩
theorem gPlace_nat {W S ns nc : Nat} {B : Nat → Option Nat} {σ : Nat → Nat → Int32} {g : Nat} {N : Nat} (hG : GH W S ns nc N) {v y : Int32} (e : m_X1_isPlace W S ns nc B σ g v = y) (c : ¬ y = 0) : ∃ k : Nat, k < W * S + 1 ∧ v = nI k := by
  unfold m_X1_isPlace at e
  have hWS := GH_ws hG
  by_cases h0 : v < 0
  · rw [if_pos h0] at e; exact absurd e.symm (by rw [nI_0]; exact c)
  rw [if_neg h0] at e
  by_cases h1 : nI (W * S + 1) ≤ v
  · rw [if_pos h1] at e; exact absurd e.symm (by rw [nI_0]; exact c)
  obtain ⟨j, hj, rfl⟩ := nI_of h0
  exact ⟨j, Nat.not_le.mp (fun q => h1 ((nI_leI (by omega) hj).mpr q)), rfl⟩
def m_X1_most (W S ns nc : Nat) (B : Nat → Option Nat) (σ : Nat → Nat → Int32) (g : Nat) (from_ : Int32) (to_ : Int32) : Int32 := ap (m_X1_isPlace W S ns nc B σ g from_) (fun (y2 : Int32) => (if y2 = 0 then nI 0 else ap (m_X1_isPlace W S ns nc B σ g to_) (fun (y10 : Int32) => (if y10 = 0 then nI 0 else (σ (12 + 2 * g)) ((from_ * (nI (W * S + 1))) + to_).toNatClampNeg))))
abbrev rm_X1_most : Room := { frames := 1, cells := 0, slots := 0, locals := 21 }
set_option maxHeartbeats 4000000 in
set_option maxRecDepth 100000 in
theorem c_X1_most {l : Launch} {D : va_G} {K : Nat → ClassId} {W S ns nc N : Nat} {ad : Nat → Nat} {B : Nat → Option Nat} {σ : Nat → Nat → Int32} (hG : GH W S ns nc N) {g : Nat} {from_ : Int32} {to_ : Int32} (hg : g < 12) {z : Int32} (hz : m_X1_most W S ns nc B σ g from_ to_ = z)  : MC l yX1_most cX1_most 3 (some .int) rm_X1_most D (TY K) N ad (CT K W S ns nc ad B σ) [.ref (ad (11 + 2 * g)), .int from_, .int to_] (BS (some (.int z)) N ad (CT K W S ns nc ad B σ) True) := by
  have hW := hG.1; have hW8 := hG.2.1; have hS := hG.2.2.1; have hS4 := hG.2.2.2.1; have hns := hG.2.2.2.2.1; have hnc := hG.2.2.2.2.2.1; have hWS := GH_ws hG
  refine MC.of (by decide) (Nat.le_of_ble_eq_true rfl) (fun p e s m args below meth c Q A H0 C X => ?_)
  replace C : Cx p s m args meth c cX1_most RX1 3 D (TY K) A H0 := C
  show J p l e rm_X1_most s m args below meth c Q D A H0 3 0 0 N ad (CT K W S ns nc ad B σ) 0 [(0, .ref (ad (11 + 2 * g))), (1, .int from_), (2, .int to_)] []
  unfold m_X1_most at hz
  refine j_aload_n 1 C dX1_most_0 rfl rfl 0 rfl ?_
  refine j_iload_n 2 C dX1_most_1 rfl rfl 1 rfl ?_
  obtain ⟨y2, e2, hz⟩ := ap_x hz
  refine s_V 5 C (As := [.int from_]) cv_X1_31 (c_X1_isPlace (l := l) (D := D) (K := K) (ad := ad) hG (hg := by omega) (hz := e2)) dX1_most_2 rfl (11 + 2 * g) 1 (GH_r hG (by omega)) rfl (CE_go (by omega) _) rfl rfl rfl rfl rfl rfl ⟨⟨Nat.le_of_ble_eq_true rfl, Nat.le_of_ble_eq_true rfl⟩, Nat.zero_le _, Nat.zero_le _⟩ (Nat.le_of_ble_eq_true rfl) (st' := [.int y2]) rfl (fun hE => ?_)
  have hbl2 : bl y2 := hE
  refine j_if_eq 32 8 C dX1_most_5 rfl rfl (fun c_5 => ?_) (fun c_5 => ?_)
  · replace hz := (if_pos c_5).symm.trans hz
    refine j_iconst 33 C (x := nI 0) dX1_most_32 rfl (by decide) ?_
    subst hz
    exact j_retI C X dX1_most_33 rfl ⟨rfl, rfl, rfl, rfl, trivial⟩
  · replace hz := (if_neg c_5).symm.trans hz
    obtain ⟨ka, hka, eka⟩ := gPlace_nat hG e2 c_5
    refine j_aload_n 9 C dX1_most_8 rfl rfl 0 rfl ?_
    refine j_iload_n 10 C dX1_most_9 rfl rfl 2 rfl ?_
    obtain ⟨y10, e10, hz⟩ := ap_x hz
    refine s_V 13 C (As := [.int to_]) cv_X1_31 (c_X1_isPlace (l := l) (D := D) (K := K) (ad := ad) hG (hg := by omega) (hz := e10)) dX1_most_10 rfl (11 + 2 * g) 1 (GH_r hG (by omega)) rfl (CE_go (by omega) _) rfl rfl rfl rfl rfl rfl ⟨⟨Nat.le_of_ble_eq_true rfl, Nat.le_of_ble_eq_true rfl⟩, Nat.zero_le _, Nat.zero_le _⟩ (Nat.le_of_ble_eq_true rfl) (st' := [.int y10]) rfl (fun hE => ?_)
    have hbl10 : bl y10 := hE
    refine j_if_eq 32 16 C dX1_most_13 rfl rfl (fun c_13 => ?_) (fun c_13 => ?_)
    · replace hz := (if_pos c_13).symm.trans hz
      refine j_iconst 33 C (x := nI 0) dX1_most_32 rfl (by decide) ?_
      subst hz
      exact j_retI C X dX1_most_33 rfl ⟨rfl, rfl, rfl, rfl, trivial⟩
    · replace hz := (if_neg c_13).symm.trans hz
      obtain ⟨kb, hkb, ekb⟩ := gPlace_nat hG e10 c_13
      refine j_aload_n 17 C dX1_most_16 rfl rfl 0 rfl ?_
      refine k_get 20 C fl_X1_21 dX1_most_17 rfl (11 + 2 * g) (GH_r hG (by omega)) _ rfl (CE_go (by omega) _) (.ref (ad (12 + 2 * g))) rfl ?_
      refine j_iload_n 21 C dX1_most_20 rfl rfl 1 rfl ?_
      refine j_aload_n 22 C dX1_most_21 rfl rfl 0 rfl ?_
      refine k_get 25 C fl_X1_15 dX1_most_22 rfl (11 + 2 * g) (GH_r hG (by omega)) _ rfl (CE_go (by omega) _) (.int (nI (W * S + 1))) rfl ?_
      refine j_imul 26 C dX1_most_25 rfl rfl ?_
      refine j_iload_n 27 C dX1_most_26 rfl rfl 2 rfl ?_
      refine j_iadd 28 C dX1_most_27 rfl rfl ?_
      refine k_iald 29 C dX1_most_28 rfl (12 + 2 * g) (GH_r hG (by omega)) (σ (12 + 2 * g)) rfl (CE_ga (by omega)) (vp_inE (n := ((ka * (W * S + 1)) + kb)) (by simp only [eka, ekb, nI_add, pk_mul]) (ixlt (by omega) (by omega)) (zz31 (by omega))) ?_
      refine j_goto 33 C dX1_most_29 rfl ?_
      subst hz
      exact j_retI C X dX1_most_33 rfl ⟨rfl, rfl, rfl, rfl, trivial⟩
def m_X1_least (W S ns nc : Nat) (B : Nat → Option Nat) (σ : Nat → Nat → Int32) (g : Nat) (place : Int32) : Int32 := ap (m_X1_most W S ns nc B σ g place (nI 0)) (fun (y3 : Int32) => -y3)
abbrev rm_X1_least : Room := { frames := 2, cells := 0, slots := 0, locals := 43 }
set_option maxHeartbeats 4000000 in
set_option maxRecDepth 100000 in
theorem c_X1_least {l : Launch} {D : va_G} {K : Nat → ClassId} {W S ns nc N : Nat} {ad : Nat → Nat} {B : Nat → Option Nat} {σ : Nat → Nat → Int32} (hG : GH W S ns nc N) {g : Nat} {place : Int32} (hg : g < 12) {z : Int32} (hz : m_X1_least W S ns nc B σ g place = z)  : MC l yX1_least cX1_least 2 (some .int) rm_X1_least D (TY K) N ad (CT K W S ns nc ad B σ) [.ref (ad (11 + 2 * g)), .int place] (BS (some (.int z)) N ad (CT K W S ns nc ad B σ) True) := by
  have hW := hG.1; have hW8 := hG.2.1; have hS := hG.2.2.1; have hS4 := hG.2.2.2.1; have hns := hG.2.2.2.2.1; have hnc := hG.2.2.2.2.2.1; have hWS := GH_ws hG
  refine MC.of (by decide) (Nat.le_of_ble_eq_true rfl) (fun p e s m args below meth c Q A H0 C X => ?_)
  replace C : Cx p s m args meth c cX1_least RX1 2 D (TY K) A H0 := C
  show J p l e rm_X1_least s m args below meth c Q D A H0 2 0 0 N ad (CT K W S ns nc ad B σ) 0 [(0, .ref (ad (11 + 2 * g))), (1, .int place)] []
  unfold m_X1_least at hz
  refine j_aload_n 1 C dX1_least_0 rfl rfl 0 rfl ?_
  refine j_iload_n 2 C dX1_least_1 rfl rfl 1 rfl ?_
  refine j_iconst 3 C (x := nI 0) dX1_least_2 rfl (by decide) ?_
  obtain ⟨y3, e3, hz⟩ := ap_x hz
  refine s_V 6 C (As := [.int place, .int (nI 0)]) cv_X1_35 (c_X1_most (l := l) (D := D) (K := K) (ad := ad) hG (hg := by omega) (hz := e3)) dX1_least_3 rfl (11 + 2 * g) 1 (GH_r hG (by omega)) rfl (CE_go (by omega) _) rfl rfl rfl rfl rfl rfl ⟨⟨Nat.le_of_ble_eq_true rfl, Nat.le_of_ble_eq_true rfl⟩, Nat.zero_le _, Nat.zero_le _⟩ (Nat.le_of_ble_eq_true rfl) (st' := [.int y3]) rfl (fun hE => ?_)
  refine j_ineg 7 C dX1_least_6 rfl rfl ?_
  subst hz
  exact j_retI C X dX1_least_7 rfl ⟨rfl, rfl, rfl, rfl, trivial⟩
def m_X1_greatest (W S ns nc : Nat) (B : Nat → Option Nat) (σ : Nat → Nat → Int32) (g : Nat) (place : Int32) : Int32 := ap (m_X1_most W S ns nc B σ g (nI 0) place) (fun (y3 : Int32) => y3)
abbrev rm_X1_greatest : Room := { frames := 2, cells := 0, slots := 0, locals := 43 }
set_option maxHeartbeats 4000000 in
set_option maxRecDepth 100000 in
theorem c_X1_greatest {l : Launch} {D : va_G} {K : Nat → ClassId} {W S ns nc N : Nat} {ad : Nat → Nat} {B : Nat → Option Nat} {σ : Nat → Nat → Int32} (hG : GH W S ns nc N) {g : Nat} {place : Int32} (hg : g < 12) {z : Int32} (hz : m_X1_greatest W S ns nc B σ g place = z)  : MC l yX1_greatest cX1_greatest 2 (some .int) rm_X1_greatest D (TY K) N ad (CT K W S ns nc ad B σ) [.ref (ad (11 + 2 * g)), .int place] (BS (some (.int z)) N ad (CT K W S ns nc ad B σ) True) := by
  have hW := hG.1; have hW8 := hG.2.1; have hS := hG.2.2.1; have hS4 := hG.2.2.2.1; have hns := hG.2.2.2.2.1; have hnc := hG.2.2.2.2.2.1; have hWS := GH_ws hG
  refine MC.of (by decide) (Nat.le_of_ble_eq_true rfl) (fun p e s m args below meth c Q A H0 C X => ?_)
  replace C : Cx p s m args meth c cX1_greatest RX1 2 D (TY K) A H0 := C
  show J p l e rm_X1_greatest s m args below meth c Q D A H0 2 0 0 N ad (CT K W S ns nc ad B σ) 0 [(0, .ref (ad (11 + 2 * g))), (1, .int place)] []
  unfold m_X1_greatest at hz
  refine j_aload_n 1 C dX1_greatest_0 rfl rfl 0 rfl ?_
  refine j_iconst 2 C (x := nI 0) dX1_greatest_1 rfl (by decide) ?_
  refine j_iload_n 3 C dX1_greatest_2 rfl rfl 1 rfl ?_
  obtain ⟨y3, e3, hz⟩ := ap_x hz
  refine s_V 6 C (As := [.int (nI 0), .int place]) cv_X1_35 (c_X1_most (l := l) (D := D) (K := K) (ad := ad) hG (hg := by omega) (hz := e3)) dX1_greatest_3 rfl (11 + 2 * g) 1 (GH_r hG (by omega)) rfl (CE_go (by omega) _) rfl rfl rfl rfl rfl rfl ⟨⟨Nat.le_of_ble_eq_true rfl, Nat.le_of_ble_eq_true rfl⟩, Nat.zero_le _, Nat.zero_le _⟩ (Nat.le_of_ble_eq_true rfl) (st' := [.int y3]) rfl (fun hE => ?_)
  subst hz
  exact j_retI C X dX1_greatest_6 rfl ⟨rfl, rfl, rfl, rfl, trivial⟩
def m_X1_narrow_L73 (W S ns nc : Nat) (B : Nat → Option Nat) (σ : Nat → Nat → Int32) (to_ : Int32) (i21 : Nat) (x46 : Int32) (i73 : Nat) (c73 : (Nat → Int32)) : (Nat → Int32) := ap (x46 + (c73 ((to_ * (nI (W * S + 1))) + (nI i73)).toNatClampNeg)) (fun (x99 : Int32) => ap (upd c73 (((nI i21) * (nI (W * S + 1))) + (nI i73)).toNatClampNeg (if x99 < (c73 (((nI i21) * (nI (W * S + 1))) + (nI i73)).toNatClampNeg) then x99 else (c73 (((nI i21) * (nI (W * S + 1))) + (nI i73)).toNatClampNeg))) (fun (f135 : Nat → Int32) => f135))
def m_X1_narrow_L21 (W S ns nc : Nat) (B : Nat → Option Nat) (σ : Nat → Nat → Int32) (from_ : Int32) (to_ : Int32) (width : Int32) (i21 : Nat) (c21 : (Nat → Int32)) : (Nat → Int32) := ap ((c21 (((nI i21) * (nI (W * S + 1))) + from_).toNatClampNeg) + width) (fun (x46 : Int32) => (if x46 < (c21 (((nI i21) * (nI (W * S + 1))) + to_).toNatClampNeg) then ap (lp (m_X1_narrow_L73 W S ns nc B σ to_ i21 x46) ((W * S + 1) - 0) 0 c21) (fun (z73 : (Nat → Int32)) => z73) else c21))
def m_X1_narrow (W S ns nc : Nat) (B : Nat → Option Nat) (σ : Nat → Nat → Int32) (g : Nat) (from_ : Int32) (to_ : Int32) (width : Int32) : (Nat → Int32) := (if width < ((σ (12 + 2 * g)) ((from_ * (nI (W * S + 1))) + to_).toNatClampNeg) then ap (lp (m_X1_narrow_L21 W S ns nc B σ from_ to_ width) ((W * S + 1) - 0) 0 (σ (12 + 2 * g))) (fun (z21 : (Nat → Int32)) => z21) else (σ (12 + 2 * g)))
abbrev rm_X1_narrow : Room := { frames := 1, cells := 0, slots := 0, locals := 40 }
set_option maxHeartbeats 4000000 in
set_option maxRecDepth 100000 in
theorem c_X1_narrow {l : Launch} {D : va_G} {K : Nat → ClassId} {W S ns nc N : Nat} {ad : Nat → Nat} {B : Nat → Option Nat} {σ : Nat → Nat → Int32} (hG : GH W S ns nc N) {g : Nat} {from_ : Int32} {a_from_ : Nat} {to_ : Int32} {a_to_ : Nat} {width : Int32} (hg : g < 12) (e_from_ : from_ = nI a_from_) (h_from_ : a_from_ < W * S + 1) (e_to_ : to_ = nI a_to_) (h_to_ : a_to_ < W * S + 1) {z : (Nat → Int32)} (hz : m_X1_narrow W S ns nc B σ g from_ to_ width = z)  : MC l yX1_narrow cX1_narrow 8 none rm_X1_narrow D (TY K) N ad (CT K W S ns nc ad B σ) [.ref (ad (11 + 2 * g)), .int from_, .int to_, .int width] (BS none N ad (CT K W S ns nc ad B (sA σ (12 + 2 * g) z)) True) := by
  have hW := hG.1; have hW8 := hG.2.1; have hS := hG.2.2.1; have hS4 := hG.2.2.2.1; have hns := hG.2.2.2.2.1; have hnc := hG.2.2.2.2.2.1; have hWS := GH_ws hG
  subst e_from_
  subst e_to_
  refine MC.of (by decide) (Nat.le_of_ble_eq_true rfl) (fun p e s m args below meth c Q A H0 C X => ?_)
  replace C : Cx p s m args meth c cX1_narrow RX1 8 D (TY K) A H0 := C
  show J p l e rm_X1_narrow s m args below meth c Q D A H0 8 0 0 N ad (CT K W S ns nc ad B σ) 0 [(0, .ref (ad (11 + 2 * g))), (1, .int (nI a_from_)), (2, .int (nI a_to_)), (3, .int width)] []
  unfold m_X1_narrow at hz
  refine j_iload_n 1 C dX1_narrow_0 rfl rfl 3 rfl ?_
  refine j_aload_n 2 C dX1_narrow_1 rfl rfl 0 rfl ?_
  refine k_get 5 C fl_X1_21 dX1_narrow_2 rfl (11 + 2 * g) (GH_r hG (by omega)) _ rfl (CE_go (by omega) _) (.ref (ad (12 + 2 * g))) rfl ?_
  refine j_iload_n 6 C dX1_narrow_5 rfl rfl 1 rfl ?_
  refine j_aload_n 7 C dX1_narrow_6 rfl rfl 0 rfl ?_
  refine k_get 10 C fl_X1_15 dX1_narrow_7 rfl (11 + 2 * g) (GH_r hG (by omega)) _ rfl (CE_go (by omega) _) (.int (nI (W * S + 1))) rfl ?_
  refine j_imul 11 C dX1_narrow_10 rfl rfl ?_
  refine j_iload_n 12 C dX1_narrow_11 rfl rfl 2 rfl ?_
  refine j_iadd 13 C dX1_narrow_12 rfl rfl ?_
  refine k_iald 14 C dX1_narrow_13 rfl (12 + 2 * g) (GH_r hG (by omega)) (σ (12 + 2 * g)) rfl (CE_ga (by omega)) (vp_inE (n := ((a_from_ * (W * S + 1)) + a_to_)) (by simp only [nI_add, pk_mul]) (ixlt (by omega) (by omega)) (zz31 (by omega))) ?_
  refine j_ic_lt 18 17 C dX1_narrow_14 rfl rfl (fun c_14 => ?_) (fun c_14 => ?_)
  · replace hz := (if_pos c_14).symm.trans hz
    refine j_iconst 19 C (x := nI 0) dX1_narrow_18 rfl (by decide) ?_
    refine j_istore 21 C [(4, .int (nI 0)), (0, .ref (ad (11 + 2 * g))), (1, .int (nI a_from_)), (2, .int (nI a_to_)), (3, .int width)] dX1_narrow_19 rfl (by decide) rfl ?_
    skip
    obtain ⟨z21, ez21, hz⟩ := ap_x hz
    have L21 : ∀ (n21 i21 : Nat) (c21 : (Nat → Int32)), 0 ≤ i21 → i21 < 5000 → n21 = (W * S + 1) - i21 → lp (m_X1_narrow_L21 W S ns nc B σ (nI a_from_) (nI a_to_) width) n21 i21 c21 = z21 → J p l e rm_X1_narrow s m args below meth c Q D A H0 8 0 0 N ad (CT K W S ns nc ad B (sA σ (12 + 2 * g) c21)) 21 [(0, .ref (ad (11 + 2 * g))), (1, .int (nI a_from_)), (2, .int (nI a_to_)), (3, .int width), (4, .int (nI i21))] [] := by
      intro n21
      induction n21 with
      | zero =>
        intro i21 c21 hl21 hi21 hn21 hz21
        refine j_iload 23 C dX1_narrow_21 rfl 4 rfl ?_
        refine j_aload_n 24 C dX1_narrow_23 rfl rfl 0 rfl ?_
        refine k_get 27 C fl_X1_15 dX1_narrow_24 rfl (11 + 2 * g) (GH_r hG (by omega)) _ rfl (CE_go (by omega) _) (.int (nI (W * S + 1))) rfl ?_
        refine j_ic_ge 148 30 C dX1_narrow_27 rfl rfl (fun c_27 => ?_) (fun c_27 => ?_)
        · skip
          have n_27 := nat_le (a := (W * S + 1)) (b := i21) rfl rfl (by omega) (by omega) c_27
          have hq21 : c21 = z21 := hz21
          subst hq21
          subst hz
          exact j_retV C X dX1_narrow_148 ⟨rfl, rfl, rfl, rfl, trivial⟩
        · exfalso
          have n_27 := nat_nle (a := (W * S + 1)) (b := i21) rfl rfl (by omega) (by omega) c_27
          omega
      | succ n21 ih21 =>
        intro i21 c21 hl21 hi21 hn21 hz21
        refine j_iload 23 C dX1_narrow_21 rfl 4 rfl ?_
        refine j_aload_n 24 C dX1_narrow_23 rfl rfl 0 rfl ?_
        refine k_get 27 C fl_X1_15 dX1_narrow_24 rfl (11 + 2 * g) (GH_r hG (by omega)) _ rfl (CE_go (by omega) _) (.int (nI (W * S + 1))) rfl ?_
        refine j_ic_ge 148 30 C dX1_narrow_27 rfl rfl (fun c_27 => ?_) (fun c_27 => ?_)
        · exfalso
          have n_27 := nat_le (a := (W * S + 1)) (b := i21) rfl rfl (by omega) (by omega) c_27
          omega
        · skip
          have n_27 := nat_nle (a := (W * S + 1)) (b := i21) rfl rfl (by omega) (by omega) c_27
          obtain ⟨w21, hw21, hz21⟩ := lp_s hz21
          have ho21 := hz
          clear hz
          have hz := hw21
          clear hw21
          unfold m_X1_narrow_L21 at hz
          refine j_aload_n 31 C dX1_narrow_30 rfl rfl 0 rfl ?_
          refine k_get 34 C fl_X1_21 dX1_narrow_31 rfl (11 + 2 * g) (GH_r hG (by omega)) _ rfl (CE_go (by omega) _) (.ref (ad (12 + 2 * g))) rfl ?_
          refine j_iload 36 C dX1_narrow_34 rfl 4 rfl ?_
          refine j_aload_n 37 C dX1_narrow_36 rfl rfl 0 rfl ?_
          refine k_get 40 C fl_X1_15 dX1_narrow_37 rfl (11 + 2 * g) (GH_r hG (by omega)) _ rfl (CE_go (by omega) _) (.int (nI (W * S + 1))) rfl ?_
          refine j_imul 41 C dX1_narrow_40 rfl rfl ?_
          refine j_iload_n 42 C dX1_narrow_41 rfl rfl 1 rfl ?_
          refine j_iadd 43 C dX1_narrow_42 rfl rfl ?_
          refine k_iald 44 C dX1_narrow_43 rfl (12 + 2 * g) (GH_r hG (by omega)) c21 sA_at (CE_ga (by omega)) (vp_inE (n := ((i21 * (W * S + 1)) + a_from_)) (by simp only [nI_add, pk_mul]) (ixlt (by omega) (by omega)) (zz31 (by omega))) ?_
          refine j_iload_n 45 C dX1_narrow_44 rfl rfl 3 rfl ?_
          refine j_iadd 46 C dX1_narrow_45 rfl rfl ?_
          obtain ⟨x46, e46, hz⟩ := ap_x hz
          refine j_st (st' := [.int x46]) (by rw [← e46]) ?_
          refine j_istore 48 C [(5, .int x46), (0, .ref (ad (11 + 2 * g))), (1, .int (nI a_from_)), (2, .int (nI a_to_)), (3, .int width), (4, .int (nI i21))] dX1_narrow_46 rfl (by decide) rfl ?_
          refine j_iload 50 C dX1_narrow_48 rfl 0 rfl ?_
          refine j_aload_n 51 C dX1_narrow_50 rfl rfl 1 rfl ?_
          refine k_get 54 C fl_X1_21 dX1_narrow_51 rfl (11 + 2 * g) (GH_r hG (by omega)) _ rfl (CE_go (by omega) _) (.ref (ad (12 + 2 * g))) rfl ?_
          refine j_iload 56 C dX1_narrow_54 rfl 5 rfl ?_
          refine j_aload_n 57 C dX1_narrow_56 rfl rfl 1 rfl ?_
          refine k_get 60 C fl_X1_15 dX1_narrow_57 rfl (11 + 2 * g) (GH_r hG (by omega)) _ rfl (CE_go (by omega) _) (.int (nI (W * S + 1))) rfl ?_
          refine j_imul 61 C dX1_narrow_60 rfl rfl ?_
          refine j_iload_n 62 C dX1_narrow_61 rfl rfl 3 rfl ?_
          refine j_iadd 63 C dX1_narrow_62 rfl rfl ?_
          refine k_iald 64 C dX1_narrow_63 rfl (12 + 2 * g) (GH_r hG (by omega)) c21 sA_at (CE_ga (by omega)) (vp_inE (n := ((i21 * (W * S + 1)) + a_to_)) (by simp only [nI_add, pk_mul]) (ixlt (by omega) (by omega)) (zz31 (by omega))) ?_
          refine j_ic_lt 70 67 C dX1_narrow_64 rfl rfl (fun c_64 => ?_) (fun c_64 => ?_)
          · replace hz := (if_pos c_64).symm.trans hz
            refine j_iconst 71 C (x := nI 0) dX1_narrow_70 rfl (by decide) ?_
            refine j_istore 73 C [(6, .int (nI 0)), (5, .int x46), (0, .ref (ad (11 + 2 * g))), (1, .int (nI a_from_)), (2, .int (nI a_to_)), (3, .int width), (4, .int (nI i21))] dX1_narrow_71 rfl (by decide) rfl ?_
            skip
            obtain ⟨z73, ez73, hz⟩ := ap_x hz
            have L73 : ∀ (n73 i73 : Nat) (c73 : (Nat → Int32)), 0 ≤ i73 → i73 < 5000 → n73 = (W * S + 1) - i73 → lp (m_X1_narrow_L73 W S ns nc B σ (nI a_to_) i21 x46) n73 i73 c73 = z73 → J p l e rm_X1_narrow s m args below meth c Q D A H0 8 0 0 N ad (CT K W S ns nc ad B (sA σ (12 + 2 * g) c73)) 73 [(0, .ref (ad (11 + 2 * g))), (1, .int (nI a_from_)), (2, .int (nI a_to_)), (3, .int width), (4, .int (nI i21)), (5, .int x46), (6, .int (nI i73))] [] := by
              intro n73
              induction n73 with
              | zero =>
                intro i73 c73 hl73 hi73 hn73 hz73
                refine j_iload 75 C dX1_narrow_73 rfl 6 rfl ?_
                refine j_aload_n 76 C dX1_narrow_75 rfl rfl 0 rfl ?_
                refine k_get 79 C fl_X1_15 dX1_narrow_76 rfl (11 + 2 * g) (GH_r hG (by omega)) _ rfl (CE_go (by omega) _) (.int (nI (W * S + 1))) rfl ?_
                refine j_ic_ge 142 82 C dX1_narrow_79 rfl rfl (fun c_79 => ?_) (fun c_79 => ?_)
                · skip
                  have n_79 := nat_le (a := (W * S + 1)) (b := i73) rfl rfl (by omega) (by omega) c_79
                  have hq73 : c73 = z73 := hz73
                  subst hq73
                  refine j_iinc 145 C (x' := nI (i21 + 1)) [(4, .int (nI (i21 + 1))), (0, .ref (ad (11 + 2 * g))), (1, .int (nI a_from_)), (2, .int (nI a_to_)), (3, .int width), (5, .int x46), (6, .int (nI i73))] dX1_narrow_142 rfl 4 rfl (by rw [show Int32.ofInt 1 = nI 1 from by decide, nI_add]) (by decide) rfl ?_
                  refine j_goto 21 C dX1_narrow_145 rfl ?_
                  subst hz
                  refine j_lv [1, 2, 3, 4, 0] (lv' := [(0, .ref (ad (11 + 2 * g))), (1, .int (nI a_from_)), (2, .int (nI a_to_)), (3, .int width), (4, .int (nI (i21 + 1)))]) rfl ?_
                  have hz := ho21
                  exact ih21 (i21 + 1) c73 (by omega) (by omega) (by omega) hz21
                · exfalso
                  have n_79 := nat_nle (a := (W * S + 1)) (b := i73) rfl rfl (by omega) (by omega) c_79
                  omega
              | succ n73 ih73 =>
                intro i73 c73 hl73 hi73 hn73 hz73
                refine j_iload 75 C dX1_narrow_73 rfl 6 rfl ?_
                refine j_aload_n 76 C dX1_narrow_75 rfl rfl 0 rfl ?_
                refine k_get 79 C fl_X1_15 dX1_narrow_76 rfl (11 + 2 * g) (GH_r hG (by omega)) _ rfl (CE_go (by omega) _) (.int (nI (W * S + 1))) rfl ?_
                refine j_ic_ge 142 82 C dX1_narrow_79 rfl rfl (fun c_79 => ?_) (fun c_79 => ?_)
                · exfalso
                  have n_79 := nat_le (a := (W * S + 1)) (b := i73) rfl rfl (by omega) (by omega) c_79
                  omega
                · skip
                  have n_79 := nat_nle (a := (W * S + 1)) (b := i73) rfl rfl (by omega) (by omega) c_79
                  obtain ⟨w73, hw73, hz73⟩ := lp_s hz73
                  have ho73 := hz
                  clear hz
                  have hz := hw73
                  clear hw73
                  unfold m_X1_narrow_L73 at hz
                  refine j_iload 84 C dX1_narrow_82 rfl 5 rfl ?_
                  refine j_aload_n 85 C dX1_narrow_84 rfl rfl 0 rfl ?_
                  refine k_get 88 C fl_X1_21 dX1_narrow_85 rfl (11 + 2 * g) (GH_r hG (by omega)) _ rfl (CE_go (by omega) _) (.ref (ad (12 + 2 * g))) rfl ?_
                  refine j_iload_n 89 C dX1_narrow_88 rfl rfl 2 rfl ?_
                  refine j_aload_n 90 C dX1_narrow_89 rfl rfl 0 rfl ?_
                  refine k_get 93 C fl_X1_15 dX1_narrow_90 rfl (11 + 2 * g) (GH_r hG (by omega)) _ rfl (CE_go (by omega) _) (.int (nI (W * S + 1))) rfl ?_
                  refine j_imul 94 C dX1_narrow_93 rfl rfl ?_
                  refine j_iload 96 C dX1_narrow_94 rfl 6 rfl ?_
                  refine j_iadd 97 C dX1_narrow_96 rfl rfl ?_
                  refine k_iald 98 C dX1_narrow_97 rfl (12 + 2 * g) (GH_r hG (by omega)) c73 sA_at (CE_ga (by omega)) (vp_inE (n := ((a_to_ * (W * S + 1)) + i73)) (by simp only [nI_add, pk_mul]) (ixlt (by omega) (by omega)) (zz31 (by omega))) ?_
                  refine j_iadd 99 C dX1_narrow_98 rfl rfl ?_
                  obtain ⟨x99, e99, hz⟩ := ap_x hz
                  refine j_st (st' := [.int x99]) (by rw [← e99]) ?_
                  refine j_istore 101 C [(7, .int x99), (0, .ref (ad (11 + 2 * g))), (1, .int (nI a_from_)), (2, .int (nI a_to_)), (3, .int width), (4, .int (nI i21)), (5, .int x46), (6, .int (nI i73))] dX1_narrow_99 rfl (by decide) rfl ?_
                  refine j_aload_n 102 C dX1_narrow_101 rfl rfl 1 rfl ?_
                  refine k_get 105 C fl_X1_21 dX1_narrow_102 rfl (11 + 2 * g) (GH_r hG (by omega)) _ rfl (CE_go (by omega) _) (.ref (ad (12 + 2 * g))) rfl ?_
                  refine j_iload 107 C dX1_narrow_105 rfl 5 rfl ?_
                  refine j_aload_n 108 C dX1_narrow_107 rfl rfl 1 rfl ?_
                  refine k_get 111 C fl_X1_15 dX1_narrow_108 rfl (11 + 2 * g) (GH_r hG (by omega)) _ rfl (CE_go (by omega) _) (.int (nI (W * S + 1))) rfl ?_
                  refine j_imul 112 C dX1_narrow_111 rfl rfl ?_
                  refine j_iload 114 C dX1_narrow_112 rfl 7 rfl ?_
                  refine j_iadd 115 C dX1_narrow_114 rfl rfl ?_
                  refine j_aload_n 116 C dX1_narrow_115 rfl rfl 1 rfl ?_
                  refine k_get 119 C fl_X1_21 dX1_narrow_116 rfl (11 + 2 * g) (GH_r hG (by omega)) _ rfl (CE_go (by omega) _) (.ref (ad (12 + 2 * g))) rfl ?_
                  refine j_iload 121 C dX1_narrow_119 rfl 5 rfl ?_
                  refine j_aload_n 122 C dX1_narrow_121 rfl rfl 1 rfl ?_
                  refine k_get 125 C fl_X1_15 dX1_narrow_122 rfl (11 + 2 * g) (GH_r hG (by omega)) _ rfl (CE_go (by omega) _) (.int (nI (W * S + 1))) rfl ?_
                  refine j_imul 126 C dX1_narrow_125 rfl rfl ?_
                  refine j_iload 128 C dX1_narrow_126 rfl 7 rfl ?_
                  refine j_iadd 129 C dX1_narrow_128 rfl rfl ?_
                  refine k_iald 130 C dX1_narrow_129 rfl (12 + 2 * g) (GH_r hG (by omega)) c73 sA_at (CE_ga (by omega)) (vp_inE (n := ((i21 * (W * S + 1)) + i73)) (by simp only [nI_add, pk_mul]) (ixlt (by omega) (by omega)) (zz31 (by omega))) ?_
                  refine j_iload 132 C dX1_narrow_130 rfl 0 rfl ?_
                  refine j_mmin 135 C wl_X1_42 rfl dX1_narrow_132 rfl (Nat.le_of_ble_eq_true rfl) (Nat.le_of_ble_eq_true rfl) (Nat.zero_le _) (Nat.zero_le _) ?_
                  refine k_iast 136 C dX1_narrow_135 rfl (12 + 2 * g) (GH_r hG (by omega)) c73 sA_at (CE_ga (by omega)) (vp_inE (n := ((i21 * (W * S + 1)) + i73)) (by simp only [nI_add, pk_mul]) (ixlt (by omega) (by omega)) (zz31 (by omega))) (sA σ (12 + 2 * g) (upd c73 (((nI i21) * (nI (W * S + 1))) + (nI i73)).toNatClampNeg (if x99 < (c73 (((nI i21) * (nI (W * S + 1))) + (nI i73)).toNatClampNeg) then x99 else (c73 (((nI i21) * (nI (W * S + 1))) + (nI i73)).toNatClampNeg)))) sA_top ?_
                  obtain ⟨f135, e135, hz⟩ := ap_x hz
                  rw [e135]
                  refine j_iinc 139 C (x' := nI (i73 + 1)) [(6, .int (nI (i73 + 1))), (7, .int x99), (0, .ref (ad (11 + 2 * g))), (1, .int (nI a_from_)), (2, .int (nI a_to_)), (3, .int width), (4, .int (nI i21)), (5, .int x46)] dX1_narrow_136 rfl 7 rfl (by rw [show Int32.ofInt 1 = nI 1 from by decide, nI_add]) (by decide) rfl ?_
                  refine j_goto 73 C dX1_narrow_139 rfl ?_
                  subst hz
                  refine j_lv [2, 3, 4, 5, 6, 7, 0] (lv' := [(0, .ref (ad (11 + 2 * g))), (1, .int (nI a_from_)), (2, .int (nI a_to_)), (3, .int width), (4, .int (nI i21)), (5, .int x46), (6, .int (nI (i73 + 1)))]) rfl ?_
                  have hz := ho73
                  exact ih73 (i73 + 1) f135 (by omega) (by omega) (by omega) hz73
            refine j_lv [2, 3, 4, 5, 6, 1, 0] (lv' := [(0, .ref (ad (11 + 2 * g))), (1, .int (nI a_from_)), (2, .int (nI a_to_)), (3, .int width), (4, .int (nI i21)), (5, .int x46), (6, .int (nI 0))]) rfl ?_
            exact L73 _ 0 c21 (by omega) (by omega) rfl ez73
          · replace hz := (if_neg c_64).symm.trans hz
            refine j_goto 142 C dX1_narrow_67 rfl ?_
            refine j_iinc 145 C (x' := nI (i21 + 1)) [(4, .int (nI (i21 + 1))), (5, .int x46), (0, .ref (ad (11 + 2 * g))), (1, .int (nI a_from_)), (2, .int (nI a_to_)), (3, .int width)] dX1_narrow_142 rfl 5 rfl (by rw [show Int32.ofInt 1 = nI 1 from by decide, nI_add]) (by decide) rfl ?_
            refine j_goto 21 C dX1_narrow_145 rfl ?_
            subst hz
            refine j_lv [2, 3, 4, 5, 0] (lv' := [(0, .ref (ad (11 + 2 * g))), (1, .int (nI a_from_)), (2, .int (nI a_to_)), (3, .int width), (4, .int (nI (i21 + 1)))]) rfl ?_
            have hz := ho21
            exact ih21 (i21 + 1) c21 (by omega) (by omega) (by omega) hz21
    refine j_lv [1, 2, 3, 4, 0] (lv' := [(0, .ref (ad (11 + 2 * g))), (1, .int (nI a_from_)), (2, .int (nI a_to_)), (3, .int width), (4, .int (nI 0))]) rfl ?_
    refine j_ct (ct' := CT K W S ns nc ad B (sA σ (12 + 2 * g) (σ (12 + 2 * g)))) (fun r _ => congrFun (congrArg (CT K W S ns nc ad B) (sA_idr (by rfl))) r) ?_
    exact L21 _ 0 (σ (12 + 2 * g)) (by omega) (by omega) rfl ez21
  · replace hz := (if_neg c_14).symm.trans hz
    subst hz
    exact j_retV C X dX1_narrow_17 ⟨rfl, rfl, rfl, (congrArg _ sA_id.symm), trivial⟩
def m_X1_hold (W S ns nc : Nat) (B : Nat → Option Nat) (σ : Nat → Nat → Int32) (g : Nat) (from_ : Int32) (to_ : Int32) (least : Int32) (greatest : Int32) : Int32 × (Nat → Int32) := ap (m_X1_isPlace W S ns nc B σ g from_) (fun (y2 : Int32) => (if y2 = 0 then (nI 0, (σ (12 + 2 * g))) else ap (m_X1_isPlace W S ns nc B σ g to_) (fun (y10 : Int32) => (if y10 = 0 then (nI 0, (σ (12 + 2 * g))) else (if least ≤ greatest then (if greatest < (-((σ (12 + 2 * g)) ((to_ * (nI (W * S + 1))) + from_).toNatClampNeg)) then (nI 0, (σ (12 + 2 * g))) else (if least ≤ ((σ (12 + 2 * g)) ((from_ * (nI (W * S + 1))) + to_).toNatClampNeg) then ap (m_X1_narrow W S ns nc B σ g from_ to_ greatest) (fun (y67 : (Nat → Int32)) => ap (m_X1_narrow W S ns nc B (sA σ (12 + 2 * g) y67) g to_ from_ (-least)) (fun (y75 : (Nat → Int32)) => (nI 1, y75))) else (nI 0, (σ (12 + 2 * g))))) else (nI 0, (σ (12 + 2 * g))))))))
abbrev rm_X1_hold : Room := { frames := 2, cells := 0, slots := 0, locals := 67 }
set_option maxHeartbeats 4000000 in
set_option maxRecDepth 100000 in
theorem c_X1_hold {l : Launch} {D : va_G} {K : Nat → ClassId} {W S ns nc N : Nat} {ad : Nat → Nat} {B : Nat → Option Nat} {σ : Nat → Nat → Int32} (hG : GH W S ns nc N) {g : Nat} {from_ : Int32} {to_ : Int32} {least : Int32} {greatest : Int32} (hg : g < 12) {z : Int32 × (Nat → Int32)} (hz : m_X1_hold W S ns nc B σ g from_ to_ least greatest = z)  : MC l yX1_hold cX1_hold 5 (some .boolean) rm_X1_hold D (TY K) N ad (CT K W S ns nc ad B σ) [.ref (ad (11 + 2 * g)), .int from_, .int to_, .int least, .int greatest] (BS (some (.int z.1)) N ad (CT K W S ns nc ad B (sA σ (12 + 2 * g) z.2)) (bl z.1)) := by
  have hW := hG.1; have hW8 := hG.2.1; have hS := hG.2.2.1; have hS4 := hG.2.2.2.1; have hns := hG.2.2.2.2.1; have hnc := hG.2.2.2.2.2.1; have hWS := GH_ws hG
  refine MC.of (by decide) (Nat.le_of_ble_eq_true rfl) (fun p e s m args below meth c Q A H0 C X => ?_)
  replace C : Cx p s m args meth c cX1_hold RX1 5 D (TY K) A H0 := C
  show J p l e rm_X1_hold s m args below meth c Q D A H0 5 0 0 N ad (CT K W S ns nc ad B σ) 0 [(0, .ref (ad (11 + 2 * g))), (1, .int from_), (2, .int to_), (3, .int least), (4, .int greatest)] []
  unfold m_X1_hold at hz
  refine j_aload_n 1 C dX1_hold_0 rfl rfl 0 rfl ?_
  refine j_iload_n 2 C dX1_hold_1 rfl rfl 1 rfl ?_
  obtain ⟨y2, e2, hz⟩ := ap_x hz
  refine s_V 5 C (As := [.int from_]) cv_X1_31 (c_X1_isPlace (l := l) (D := D) (K := K) (ad := ad) hG (hg := by omega) (hz := e2)) dX1_hold_2 rfl (11 + 2 * g) 1 (GH_r hG (by omega)) rfl (CE_go (by omega) _) rfl rfl rfl rfl rfl rfl ⟨⟨Nat.le_of_ble_eq_true rfl, Nat.le_of_ble_eq_true rfl⟩, Nat.zero_le _, Nat.zero_le _⟩ (Nat.le_of_ble_eq_true rfl) (st' := [.int y2]) rfl (fun hE => ?_)
  have hbl2 : bl y2 := hE
  refine j_if_eq 22 8 C dX1_hold_5 rfl rfl (fun c_5 => ?_) (fun c_5 => ?_)
  · replace hz := (if_pos c_5).symm.trans hz
    refine j_iconst 23 C (x := nI 0) dX1_hold_22 rfl (by decide) ?_
    subst hz
    exact j_retI C X dX1_hold_23 (bl_nar bl_0) ⟨rfl, rfl, rfl, (congrArg _ sA_id.symm), bl_0⟩
  · replace hz := (if_neg c_5).symm.trans hz
    obtain ⟨ka, hka, eka⟩ := gPlace_nat hG e2 c_5
    refine j_aload_n 9 C dX1_hold_8 rfl rfl 0 rfl ?_
    refine j_iload_n 10 C dX1_hold_9 rfl rfl 2 rfl ?_
    obtain ⟨y10, e10, hz⟩ := ap_x hz
    refine s_V 13 C (As := [.int to_]) cv_X1_31 (c_X1_isPlace (l := l) (D := D) (K := K) (ad := ad) hG (hg := by omega) (hz := e10)) dX1_hold_10 rfl (11 + 2 * g) 1 (GH_r hG (by omega)) rfl (CE_go (by omega) _) rfl rfl rfl rfl rfl rfl ⟨⟨Nat.le_of_ble_eq_true rfl, Nat.le_of_ble_eq_true rfl⟩, Nat.zero_le _, Nat.zero_le _⟩ (Nat.le_of_ble_eq_true rfl) (st' := [.int y10]) rfl (fun hE => ?_)
    have hbl10 : bl y10 := hE
    refine j_if_eq 22 16 C dX1_hold_13 rfl rfl (fun c_13 => ?_) (fun c_13 => ?_)
    · replace hz := (if_pos c_13).symm.trans hz
      refine j_iconst 23 C (x := nI 0) dX1_hold_22 rfl (by decide) ?_
      subst hz
      exact j_retI C X dX1_hold_23 (bl_nar bl_0) ⟨rfl, rfl, rfl, (congrArg _ sA_id.symm), bl_0⟩
    · replace hz := (if_neg c_13).symm.trans hz
      obtain ⟨kb, hkb, ekb⟩ := gPlace_nat hG e10 c_13
      refine j_iload_n 17 C dX1_hold_16 rfl rfl 3 rfl ?_
      refine j_iload 19 C dX1_hold_17 rfl 4 rfl ?_
      refine j_ic_le 24 22 C dX1_hold_19 rfl rfl (fun c_19 => ?_) (fun c_19 => ?_)
      · replace hz := (if_pos c_19).symm.trans hz
        refine j_iload 26 C dX1_hold_24 rfl 4 rfl ?_
        refine j_aload_n 27 C dX1_hold_26 rfl rfl 0 rfl ?_
        refine k_get 30 C fl_X1_21 dX1_hold_27 rfl (11 + 2 * g) (GH_r hG (by omega)) _ rfl (CE_go (by omega) _) (.ref (ad (12 + 2 * g))) rfl ?_
        refine j_iload_n 31 C dX1_hold_30 rfl rfl 2 rfl ?_
        refine j_aload_n 32 C dX1_hold_31 rfl rfl 0 rfl ?_
        refine k_get 35 C fl_X1_15 dX1_hold_32 rfl (11 + 2 * g) (GH_r hG (by omega)) _ rfl (CE_go (by omega) _) (.int (nI (W * S + 1))) rfl ?_
        refine j_imul 36 C dX1_hold_35 rfl rfl ?_
        refine j_iload_n 37 C dX1_hold_36 rfl rfl 1 rfl ?_
        refine j_iadd 38 C dX1_hold_37 rfl rfl ?_
        refine k_iald 39 C dX1_hold_38 rfl (12 + 2 * g) (GH_r hG (by omega)) (σ (12 + 2 * g)) rfl (CE_ga (by omega)) (vp_inE (n := ((kb * (W * S + 1)) + ka)) (by simp only [eka, ekb, nI_add, pk_mul]) (ixlt (by omega) (by omega)) (zz31 (by omega))) ?_
        refine j_ineg 40 C dX1_hold_39 rfl rfl ?_
        refine j_ic_lt 60 43 C dX1_hold_40 rfl rfl (fun c_40 => ?_) (fun c_40 => ?_)
        · replace hz := (if_pos c_40).symm.trans hz
          refine j_iconst 61 C (x := nI 0) dX1_hold_60 rfl (by decide) ?_
          subst hz
          exact j_retI C X dX1_hold_61 (bl_nar bl_0) ⟨rfl, rfl, rfl, (congrArg _ sA_id.symm), bl_0⟩
        · replace hz := (if_neg c_40).symm.trans hz
          refine j_iload_n 44 C dX1_hold_43 rfl rfl 3 rfl ?_
          refine j_aload_n 45 C dX1_hold_44 rfl rfl 0 rfl ?_
          refine k_get 48 C fl_X1_21 dX1_hold_45 rfl (11 + 2 * g) (GH_r hG (by omega)) _ rfl (CE_go (by omega) _) (.ref (ad (12 + 2 * g))) rfl ?_
          refine j_iload_n 49 C dX1_hold_48 rfl rfl 1 rfl ?_
          refine j_aload_n 50 C dX1_hold_49 rfl rfl 0 rfl ?_
          refine k_get 53 C fl_X1_15 dX1_hold_50 rfl (11 + 2 * g) (GH_r hG (by omega)) _ rfl (CE_go (by omega) _) (.int (nI (W * S + 1))) rfl ?_
          refine j_imul 54 C dX1_hold_53 rfl rfl ?_
          refine j_iload_n 55 C dX1_hold_54 rfl rfl 2 rfl ?_
          refine j_iadd 56 C dX1_hold_55 rfl rfl ?_
          refine k_iald 57 C dX1_hold_56 rfl (12 + 2 * g) (GH_r hG (by omega)) (σ (12 + 2 * g)) rfl (CE_ga (by omega)) (vp_inE (n := ((ka * (W * S + 1)) + kb)) (by simp only [eka, ekb, nI_add, pk_mul]) (ixlt (by omega) (by omega)) (zz31 (by omega))) ?_
          refine j_ic_le 62 60 C dX1_hold_57 rfl rfl (fun c_57 => ?_) (fun c_57 => ?_)
          · replace hz := (if_pos c_57).symm.trans hz
            refine j_aload_n 63 C dX1_hold_62 rfl rfl 0 rfl ?_
            refine j_iload_n 64 C dX1_hold_63 rfl rfl 1 rfl ?_
            refine j_iload_n 65 C dX1_hold_64 rfl rfl 2 rfl ?_
            refine j_iload 67 C dX1_hold_65 rfl 4 rfl ?_
            obtain ⟨y67, e67, hz⟩ := ap_x hz
            refine s_V 70 C (As := [.int from_, .int to_, .int greatest]) cv_X1_38 (c_X1_narrow (l := l) (D := D) (K := K) (ad := ad) hG (hg := by omega) (a_from_ := ka) (e_from_ := (by simp only [eka, ekb, nI_add, pk_mul])) (h_from_ := by omega) (a_to_ := kb) (e_to_ := (by simp only [eka, ekb, nI_add, pk_mul])) (h_to_ := by omega) (hz := e67)) dX1_hold_67 rfl (11 + 2 * g) 1 (GH_r hG (by omega)) rfl (CE_go (by omega) _) rfl rfl rfl rfl rfl rfl ⟨⟨Nat.le_of_ble_eq_true rfl, Nat.le_of_ble_eq_true rfl⟩, Nat.zero_le _, Nat.zero_le _⟩ (Nat.le_of_ble_eq_true rfl) (st' := []) rfl (fun hE => ?_)
            refine j_aload_n 71 C dX1_hold_70 rfl rfl 0 rfl ?_
            refine j_iload_n 72 C dX1_hold_71 rfl rfl 2 rfl ?_
            refine j_iload_n 73 C dX1_hold_72 rfl rfl 1 rfl ?_
            refine j_iload_n 74 C dX1_hold_73 rfl rfl 3 rfl ?_
            refine j_ineg 75 C dX1_hold_74 rfl rfl ?_
            obtain ⟨y75, e75, hz⟩ := ap_x hz
            refine s_V 78 C (As := [.int to_, .int from_, .int (-least)]) cv_X1_38 (c_X1_narrow (l := l) (D := D) (K := K) (ad := ad) hG (hg := by omega) (a_from_ := kb) (e_from_ := (by simp only [eka, ekb, nI_add, pk_mul])) (h_from_ := by omega) (a_to_ := ka) (e_to_ := (by simp only [eka, ekb, nI_add, pk_mul])) (h_to_ := by omega) (hz := e75)) dX1_hold_75 rfl (11 + 2 * g) 1 (GH_r hG (by omega)) rfl (CE_go (by omega) _) rfl rfl rfl rfl rfl rfl ⟨⟨Nat.le_of_ble_eq_true rfl, Nat.le_of_ble_eq_true rfl⟩, Nat.zero_le _, Nat.zero_le _⟩ (Nat.le_of_ble_eq_true rfl) (st' := []) rfl (fun hE => ?_)
            refine j_ct (ct' := CT K W S ns nc ad B (sA σ (12 + 2 * g) y75)) (fun r _ => congrFun (congrArg (CT K W S ns nc ad B) sA_top) r) ?_
            refine j_iconst 79 C (x := nI 1) dX1_hold_78 rfl (by decide) ?_
            subst hz
            exact j_retI C X dX1_hold_79 (bl_nar bl_1) ⟨rfl, rfl, rfl, rfl, bl_1⟩
          · replace hz := (if_neg c_57).symm.trans hz
            refine j_iconst 61 C (x := nI 0) dX1_hold_60 rfl (by decide) ?_
            subst hz
            exact j_retI C X dX1_hold_61 (bl_nar bl_0) ⟨rfl, rfl, rfl, (congrArg _ sA_id.symm), bl_0⟩
      · replace hz := (if_neg c_19).symm.trans hz
        refine j_iconst 23 C (x := nI 0) dX1_hold_22 rfl (by decide) ?_
        subst hz
        exact j_retI C X dX1_hold_23 (bl_nar bl_0) ⟨rfl, rfl, rfl, (congrArg _ sA_id.symm), bl_0⟩
def m_X1_clear_L12 (W S ns nc : Nat) (B : Nat → Option Nat) (σ : Nat → Nat → Int32) (i2 : Nat) (i12 : Nat) (c12 : (Nat → Int32)) : (Nat → Int32) := (if (nI i2) = (nI i12) then (if (nI 1) = 0 then ap (upd c12 (((nI i2) * (nI (W * S + 1))) + (nI i12)).toNatClampNeg (nI 60)) (fun (f57 : Nat → Int32) => f57) else ap (upd c12 (((nI i2) * (nI (W * S + 1))) + (nI i12)).toNatClampNeg (nI 0)) (fun (f57 : Nat → Int32) => f57)) else (if (nI i12) = 0 then (if (nI 1) = 0 then ap (upd c12 (((nI i2) * (nI (W * S + 1))) + (nI i12)).toNatClampNeg (nI 60)) (fun (f57 : Nat → Int32) => f57) else ap (upd c12 (((nI i2) * (nI (W * S + 1))) + (nI i12)).toNatClampNeg (nI 0)) (fun (f57 : Nat → Int32) => f57)) else (if (nI 0) = 0 then ap (upd c12 (((nI i2) * (nI (W * S + 1))) + (nI i12)).toNatClampNeg (nI 60)) (fun (f57 : Nat → Int32) => f57) else ap (upd c12 (((nI i2) * (nI (W * S + 1))) + (nI i12)).toNatClampNeg (nI 0)) (fun (f57 : Nat → Int32) => f57))))
def m_X1_clear_L2 (W S ns nc : Nat) (B : Nat → Option Nat) (σ : Nat → Nat → Int32) (i2 : Nat) (c2 : (Nat → Int32)) : (Nat → Int32) := ap (lp (m_X1_clear_L12 W S ns nc B σ i2) ((W * S + 1) - 0) 0 c2) (fun (z12 : (Nat → Int32)) => z12)
def m_X1_clear (W S ns nc : Nat) (B : Nat → Option Nat) (σ : Nat → Nat → Int32) (g : Nat) : (Nat → Int32) := ap (lp (m_X1_clear_L2 W S ns nc B σ) ((W * S + 1) - 0) 0 (σ (12 + 2 * g))) (fun (z2 : (Nat → Int32)) => z2)
abbrev rm_X1_clear : Room := { frames := 0, cells := 0, slots := 0, locals := 0 }
set_option maxHeartbeats 4000000 in
set_option maxRecDepth 100000 in
theorem c_X1_clear {l : Launch} {D : va_G} {K : Nat → ClassId} {W S ns nc N : Nat} {ad : Nat → Nat} {B : Nat → Option Nat} {σ : Nat → Nat → Int32} (hG : GH W S ns nc N) {g : Nat} (hg : g < 12) {z : (Nat → Int32)} (hz : m_X1_clear W S ns nc B σ g = z)  : MC l yX1_clear cX1_clear 4 none rm_X1_clear D (TY K) N ad (CT K W S ns nc ad B σ) [.ref (ad (11 + 2 * g))] (BS none N ad (CT K W S ns nc ad B (sA σ (12 + 2 * g) z)) True) := by
  have hW := hG.1; have hW8 := hG.2.1; have hS := hG.2.2.1; have hS4 := hG.2.2.2.1; have hns := hG.2.2.2.2.1; have hnc := hG.2.2.2.2.2.1; have hWS := GH_ws hG
  refine MC.of (by decide) (Nat.le_of_ble_eq_true rfl) (fun p e s m args below meth c Q A H0 C X => ?_)
  replace C : Cx p s m args meth c cX1_clear RX1 4 D (TY K) A H0 := C
  show J p l e rm_X1_clear s m args below meth c Q D A H0 4 0 0 N ad (CT K W S ns nc ad B σ) 0 [(0, .ref (ad (11 + 2 * g)))] []
  unfold m_X1_clear at hz
  refine j_iconst 1 C (x := nI 0) dX1_clear_0 rfl (by decide) ?_
  refine j_istore_n 2 C [(1, .int (nI 0)), (0, .ref (ad (11 + 2 * g)))] dX1_clear_1 rfl rfl (by decide) rfl ?_
  skip
  obtain ⟨z2, ez2, hz⟩ := ap_x hz
  have L2 : ∀ (n2 i2 : Nat) (c2 : (Nat → Int32)), 0 ≤ i2 → i2 < 5000 → n2 = (W * S + 1) - i2 → lp (m_X1_clear_L2 W S ns nc B σ) n2 i2 c2 = z2 → J p l e rm_X1_clear s m args below meth c Q D A H0 4 0 0 N ad (CT K W S ns nc ad B (sA σ (12 + 2 * g) c2)) 2 [(0, .ref (ad (11 + 2 * g))), (1, .int (nI i2))] [] := by
    intro n2
    induction n2 with
    | zero =>
      intro i2 c2 hl2 hi2 hn2 hz2
      refine j_iload_n 3 C dX1_clear_2 rfl rfl 1 rfl ?_
      refine j_aload_n 4 C dX1_clear_3 rfl rfl 0 rfl ?_
      refine k_get 7 C fl_X1_15 dX1_clear_4 rfl (11 + 2 * g) (GH_r hG (by omega)) _ rfl (CE_go (by omega) _) (.int (nI (W * S + 1))) rfl ?_
      refine j_ic_ge 70 10 C dX1_clear_7 rfl rfl (fun c_7 => ?_) (fun c_7 => ?_)
      · skip
        have n_7 := nat_le (a := (W * S + 1)) (b := i2) rfl rfl (by omega) (by omega) c_7
        have hq2 : c2 = z2 := hz2
        subst hq2
        subst hz
        exact j_retV C X dX1_clear_70 ⟨rfl, rfl, rfl, rfl, trivial⟩
      · exfalso
        have n_7 := nat_nle (a := (W * S + 1)) (b := i2) rfl rfl (by omega) (by omega) c_7
        omega
    | succ n2 ih2 =>
      intro i2 c2 hl2 hi2 hn2 hz2
      refine j_iload_n 3 C dX1_clear_2 rfl rfl 1 rfl ?_
      refine j_aload_n 4 C dX1_clear_3 rfl rfl 0 rfl ?_
      refine k_get 7 C fl_X1_15 dX1_clear_4 rfl (11 + 2 * g) (GH_r hG (by omega)) _ rfl (CE_go (by omega) _) (.int (nI (W * S + 1))) rfl ?_
      refine j_ic_ge 70 10 C dX1_clear_7 rfl rfl (fun c_7 => ?_) (fun c_7 => ?_)
      · exfalso
        have n_7 := nat_le (a := (W * S + 1)) (b := i2) rfl rfl (by omega) (by omega) c_7
        omega
      · skip
        have n_7 := nat_nle (a := (W * S + 1)) (b := i2) rfl rfl (by omega) (by omega) c_7
        obtain ⟨w2, hw2, hz2⟩ := lp_s hz2
        have ho2 := hz
        clear hz
        have hz := hw2
        clear hw2
        unfold m_X1_clear_L2 at hz
        refine j_iconst 11 C (x := nI 0) dX1_clear_10 rfl (by decide) ?_
        refine j_istore_n 12 C [(2, .int (nI 0)), (0, .ref (ad (11 + 2 * g))), (1, .int (nI i2))] dX1_clear_11 rfl rfl (by decide) rfl ?_
        skip
        obtain ⟨z12, ez12, hz⟩ := ap_x hz
        have L12 : ∀ (n12 i12 : Nat) (c12 : (Nat → Int32)), 0 ≤ i12 → i12 < 5000 → n12 = (W * S + 1) - i12 → lp (m_X1_clear_L12 W S ns nc B σ i2) n12 i12 c12 = z12 → J p l e rm_X1_clear s m args below meth c Q D A H0 4 0 0 N ad (CT K W S ns nc ad B (sA σ (12 + 2 * g) c12)) 12 [(0, .ref (ad (11 + 2 * g))), (1, .int (nI i2)), (2, .int (nI i12))] [] := by
          intro n12
          induction n12 with
          | zero =>
            intro i12 c12 hl12 hi12 hn12 hz12
            refine j_iload_n 13 C dX1_clear_12 rfl rfl 2 rfl ?_
            refine j_aload_n 14 C dX1_clear_13 rfl rfl 0 rfl ?_
            refine k_get 17 C fl_X1_15 dX1_clear_14 rfl (11 + 2 * g) (GH_r hG (by omega)) _ rfl (CE_go (by omega) _) (.int (nI (W * S + 1))) rfl ?_
            refine j_ic_ge 64 20 C dX1_clear_17 rfl rfl (fun c_17 => ?_) (fun c_17 => ?_)
            · skip
              have n_17 := nat_le (a := (W * S + 1)) (b := i12) rfl rfl (by omega) (by omega) c_17
              have hq12 : c12 = z12 := hz12
              subst hq12
              refine j_iinc 67 C (x' := nI (i2 + 1)) [(1, .int (nI (i2 + 1))), (0, .ref (ad (11 + 2 * g))), (2, .int (nI i12))] dX1_clear_64 rfl 1 rfl (by rw [show Int32.ofInt 1 = nI 1 from by decide, nI_add]) (by decide) rfl ?_
              refine j_goto 2 C dX1_clear_67 rfl ?_
              subst hz
              refine j_lv [1, 0] (lv' := [(0, .ref (ad (11 + 2 * g))), (1, .int (nI (i2 + 1)))]) rfl ?_
              have hz := ho2
              exact ih2 (i2 + 1) c12 (by omega) (by omega) (by omega) hz2
            · exfalso
              have n_17 := nat_nle (a := (W * S + 1)) (b := i12) rfl rfl (by omega) (by omega) c_17
              omega
          | succ n12 ih12 =>
            intro i12 c12 hl12 hi12 hn12 hz12
            refine j_iload_n 13 C dX1_clear_12 rfl rfl 2 rfl ?_
            refine j_aload_n 14 C dX1_clear_13 rfl rfl 0 rfl ?_
            refine k_get 17 C fl_X1_15 dX1_clear_14 rfl (11 + 2 * g) (GH_r hG (by omega)) _ rfl (CE_go (by omega) _) (.int (nI (W * S + 1))) rfl ?_
            refine j_ic_ge 64 20 C dX1_clear_17 rfl rfl (fun c_17 => ?_) (fun c_17 => ?_)
            · exfalso
              have n_17 := nat_le (a := (W * S + 1)) (b := i12) rfl rfl (by omega) (by omega) c_17
              omega
            · skip
              have n_17 := nat_nle (a := (W * S + 1)) (b := i12) rfl rfl (by omega) (by omega) c_17
              obtain ⟨w12, hw12, hz12⟩ := lp_s hz12
              have ho12 := hz
              clear hz
              have hz := hw12
              clear hw12
              unfold m_X1_clear_L12 at hz
              refine j_iload_n 21 C dX1_clear_20 rfl rfl 1 rfl ?_
              refine j_iload_n 22 C dX1_clear_21 rfl rfl 2 rfl ?_
              refine j_ic_eq 29 25 C dX1_clear_22 rfl rfl (fun c_22 => ?_) (fun c_22 => ?_)
              · replace hz := (if_pos c_22).symm.trans hz
                have n_22 := nat_eq (a := i2) (b := i12) rfl rfl (by omega) (by omega) c_22
                refine j_iconst 30 C (x := nI 1) dX1_clear_29 rfl (by decide) ?_
                refine j_goto 34 C dX1_clear_30 rfl ?_
                refine j_istore_n 35 C [(3, .int (nI 1)), (0, .ref (ad (11 + 2 * g))), (1, .int (nI i2)), (2, .int (nI i12))] dX1_clear_34 rfl rfl (by decide) rfl ?_
                refine j_aload_n 36 C dX1_clear_35 rfl rfl 1 rfl ?_
                refine k_get 39 C fl_X1_21 dX1_clear_36 rfl (11 + 2 * g) (GH_r hG (by omega)) _ rfl (CE_go (by omega) _) (.ref (ad (12 + 2 * g))) rfl ?_
                refine j_iload_n 40 C dX1_clear_39 rfl rfl 2 rfl ?_
                refine j_aload_n 41 C dX1_clear_40 rfl rfl 1 rfl ?_
                refine k_get 44 C fl_X1_15 dX1_clear_41 rfl (11 + 2 * g) (GH_r hG (by omega)) _ rfl (CE_go (by omega) _) (.int (nI (W * S + 1))) rfl ?_
                refine j_imul 45 C dX1_clear_44 rfl rfl ?_
                refine j_iload_n 46 C dX1_clear_45 rfl rfl 3 rfl ?_
                refine j_iadd 47 C dX1_clear_46 rfl rfl ?_
                refine j_iload_n 48 C dX1_clear_47 rfl rfl 0 rfl ?_
                refine j_if_eq 55 51 C dX1_clear_48 rfl rfl (fun c_48 => ?_) (fun c_48 => ?_)
                · replace hz := (if_pos c_48).symm.trans hz
                  refine j_bipush 57 C (x := nI 60) dX1_clear_55 rfl (by decide) ?_
                  refine k_iast 58 C dX1_clear_57 rfl (12 + 2 * g) (GH_r hG (by omega)) c12 sA_at (CE_ga (by omega)) (vp_inE (n := ((i2 * (W * S + 1)) + i12)) (by simp only [nI_add, pk_mul]) (ixlt (by omega) (by omega)) (zz31 (by omega))) (sA σ (12 + 2 * g) (upd c12 (((nI i2) * (nI (W * S + 1))) + (nI i12)).toNatClampNeg (nI 60))) sA_top ?_
                  obtain ⟨f57, e57, hz⟩ := ap_x hz
                  rw [e57]
                  refine j_iinc 61 C (x' := nI (i12 + 1)) [(2, .int (nI (i12 + 1))), (3, .int (nI 1)), (0, .ref (ad (11 + 2 * g))), (1, .int (nI i2))] dX1_clear_58 rfl 3 rfl (by rw [show Int32.ofInt 1 = nI 1 from by decide, nI_add]) (by decide) rfl ?_
                  refine j_goto 12 C dX1_clear_61 rfl ?_
                  subst hz
                  refine j_lv [2, 3, 0] (lv' := [(0, .ref (ad (11 + 2 * g))), (1, .int (nI i2)), (2, .int (nI (i12 + 1)))]) rfl ?_
                  have hz := ho12
                  exact ih12 (i12 + 1) f57 (by omega) (by omega) (by omega) hz12
                · replace hz := (if_neg c_48).symm.trans hz
                  refine j_iconst 52 C (x := nI 0) dX1_clear_51 rfl (by decide) ?_
                  refine j_goto 57 C dX1_clear_52 rfl ?_
                  refine k_iast 58 C dX1_clear_57 rfl (12 + 2 * g) (GH_r hG (by omega)) c12 sA_at (CE_ga (by omega)) (vp_inE (n := ((i2 * (W * S + 1)) + i12)) (by simp only [nI_add, pk_mul]) (ixlt (by omega) (by omega)) (zz31 (by omega))) (sA σ (12 + 2 * g) (upd c12 (((nI i2) * (nI (W * S + 1))) + (nI i12)).toNatClampNeg (nI 0))) sA_top ?_
                  obtain ⟨f57, e57, hz⟩ := ap_x hz
                  rw [e57]
                  refine j_iinc 61 C (x' := nI (i12 + 1)) [(2, .int (nI (i12 + 1))), (3, .int (nI 1)), (0, .ref (ad (11 + 2 * g))), (1, .int (nI i2))] dX1_clear_58 rfl 3 rfl (by rw [show Int32.ofInt 1 = nI 1 from by decide, nI_add]) (by decide) rfl ?_
                  refine j_goto 12 C dX1_clear_61 rfl ?_
                  subst hz
                  refine j_lv [2, 3, 0] (lv' := [(0, .ref (ad (11 + 2 * g))), (1, .int (nI i2)), (2, .int (nI (i12 + 1)))]) rfl ?_
                  have hz := ho12
                  exact ih12 (i12 + 1) f57 (by omega) (by omega) (by omega) hz12
              · replace hz := (if_neg c_22).symm.trans hz
                have n_22 := nat_ne (a := i2) (b := i12) rfl rfl (by omega) (by omega) c_22
                refine j_iload_n 26 C dX1_clear_25 rfl rfl 2 rfl ?_
                refine j_if_ne 33 29 C dX1_clear_26 rfl rfl (fun c_26 => ?_) (fun c_26 => ?_)
                · replace hz := (if_neg c_26).symm.trans hz
                  refine j_iconst 34 C (x := nI 0) dX1_clear_33 rfl (by decide) ?_
                  refine j_istore_n 35 C [(3, .int (nI 0)), (0, .ref (ad (11 + 2 * g))), (1, .int (nI i2)), (2, .int (nI i12))] dX1_clear_34 rfl rfl (by decide) rfl ?_
                  refine j_aload_n 36 C dX1_clear_35 rfl rfl 1 rfl ?_
                  refine k_get 39 C fl_X1_21 dX1_clear_36 rfl (11 + 2 * g) (GH_r hG (by omega)) _ rfl (CE_go (by omega) _) (.ref (ad (12 + 2 * g))) rfl ?_
                  refine j_iload_n 40 C dX1_clear_39 rfl rfl 2 rfl ?_
                  refine j_aload_n 41 C dX1_clear_40 rfl rfl 1 rfl ?_
                  refine k_get 44 C fl_X1_15 dX1_clear_41 rfl (11 + 2 * g) (GH_r hG (by omega)) _ rfl (CE_go (by omega) _) (.int (nI (W * S + 1))) rfl ?_
                  refine j_imul 45 C dX1_clear_44 rfl rfl ?_
                  refine j_iload_n 46 C dX1_clear_45 rfl rfl 3 rfl ?_
                  refine j_iadd 47 C dX1_clear_46 rfl rfl ?_
                  refine j_iload_n 48 C dX1_clear_47 rfl rfl 0 rfl ?_
                  refine j_if_eq 55 51 C dX1_clear_48 rfl rfl (fun c_48 => ?_) (fun c_48 => ?_)
                  · replace hz := (if_pos c_48).symm.trans hz
                    refine j_bipush 57 C (x := nI 60) dX1_clear_55 rfl (by decide) ?_
                    refine k_iast 58 C dX1_clear_57 rfl (12 + 2 * g) (GH_r hG (by omega)) c12 sA_at (CE_ga (by omega)) (vp_inE (n := ((i2 * (W * S + 1)) + i12)) (by simp only [nI_add, pk_mul]) (ixlt (by omega) (by omega)) (zz31 (by omega))) (sA σ (12 + 2 * g) (upd c12 (((nI i2) * (nI (W * S + 1))) + (nI i12)).toNatClampNeg (nI 60))) sA_top ?_
                    obtain ⟨f57, e57, hz⟩ := ap_x hz
                    rw [e57]
                    refine j_iinc 61 C (x' := nI (i12 + 1)) [(2, .int (nI (i12 + 1))), (3, .int (nI 0)), (0, .ref (ad (11 + 2 * g))), (1, .int (nI i2))] dX1_clear_58 rfl 3 rfl (by rw [show Int32.ofInt 1 = nI 1 from by decide, nI_add]) (by decide) rfl ?_
                    refine j_goto 12 C dX1_clear_61 rfl ?_
                    subst hz
                    refine j_lv [2, 3, 0] (lv' := [(0, .ref (ad (11 + 2 * g))), (1, .int (nI i2)), (2, .int (nI (i12 + 1)))]) rfl ?_
                    have hz := ho12
                    exact ih12 (i12 + 1) f57 (by omega) (by omega) (by omega) hz12
                  · replace hz := (if_neg c_48).symm.trans hz
                    refine j_iconst 52 C (x := nI 0) dX1_clear_51 rfl (by decide) ?_
                    refine j_goto 57 C dX1_clear_52 rfl ?_
                    refine k_iast 58 C dX1_clear_57 rfl (12 + 2 * g) (GH_r hG (by omega)) c12 sA_at (CE_ga (by omega)) (vp_inE (n := ((i2 * (W * S + 1)) + i12)) (by simp only [nI_add, pk_mul]) (ixlt (by omega) (by omega)) (zz31 (by omega))) (sA σ (12 + 2 * g) (upd c12 (((nI i2) * (nI (W * S + 1))) + (nI i12)).toNatClampNeg (nI 0))) sA_top ?_
                    obtain ⟨f57, e57, hz⟩ := ap_x hz
                    rw [e57]
                    refine j_iinc 61 C (x' := nI (i12 + 1)) [(2, .int (nI (i12 + 1))), (3, .int (nI 0)), (0, .ref (ad (11 + 2 * g))), (1, .int (nI i2))] dX1_clear_58 rfl 3 rfl (by rw [show Int32.ofInt 1 = nI 1 from by decide, nI_add]) (by decide) rfl ?_
                    refine j_goto 12 C dX1_clear_61 rfl ?_
                    subst hz
                    refine j_lv [2, 3, 0] (lv' := [(0, .ref (ad (11 + 2 * g))), (1, .int (nI i2)), (2, .int (nI (i12 + 1)))]) rfl ?_
                    have hz := ho12
                    exact ih12 (i12 + 1) f57 (by omega) (by omega) (by omega) hz12
                · replace hz := (if_pos c_26).symm.trans hz
                  refine j_iconst 30 C (x := nI 1) dX1_clear_29 rfl (by decide) ?_
                  refine j_goto 34 C dX1_clear_30 rfl ?_
                  refine j_istore_n 35 C [(3, .int (nI 1)), (0, .ref (ad (11 + 2 * g))), (1, .int (nI i2)), (2, .int (nI i12))] dX1_clear_34 rfl rfl (by decide) rfl ?_
                  refine j_aload_n 36 C dX1_clear_35 rfl rfl 1 rfl ?_
                  refine k_get 39 C fl_X1_21 dX1_clear_36 rfl (11 + 2 * g) (GH_r hG (by omega)) _ rfl (CE_go (by omega) _) (.ref (ad (12 + 2 * g))) rfl ?_
                  refine j_iload_n 40 C dX1_clear_39 rfl rfl 2 rfl ?_
                  refine j_aload_n 41 C dX1_clear_40 rfl rfl 1 rfl ?_
                  refine k_get 44 C fl_X1_15 dX1_clear_41 rfl (11 + 2 * g) (GH_r hG (by omega)) _ rfl (CE_go (by omega) _) (.int (nI (W * S + 1))) rfl ?_
                  refine j_imul 45 C dX1_clear_44 rfl rfl ?_
                  refine j_iload_n 46 C dX1_clear_45 rfl rfl 3 rfl ?_
                  refine j_iadd 47 C dX1_clear_46 rfl rfl ?_
                  refine j_iload_n 48 C dX1_clear_47 rfl rfl 0 rfl ?_
                  refine j_if_eq 55 51 C dX1_clear_48 rfl rfl (fun c_48 => ?_) (fun c_48 => ?_)
                  · replace hz := (if_pos c_48).symm.trans hz
                    refine j_bipush 57 C (x := nI 60) dX1_clear_55 rfl (by decide) ?_
                    refine k_iast 58 C dX1_clear_57 rfl (12 + 2 * g) (GH_r hG (by omega)) c12 sA_at (CE_ga (by omega)) (vp_inE (n := ((i2 * (W * S + 1)) + i12)) (by simp only [nI_add, pk_mul]) (ixlt (by omega) (by omega)) (zz31 (by omega))) (sA σ (12 + 2 * g) (upd c12 (((nI i2) * (nI (W * S + 1))) + (nI i12)).toNatClampNeg (nI 60))) sA_top ?_
                    obtain ⟨f57, e57, hz⟩ := ap_x hz
                    rw [e57]
                    refine j_iinc 61 C (x' := nI (i12 + 1)) [(2, .int (nI (i12 + 1))), (3, .int (nI 1)), (0, .ref (ad (11 + 2 * g))), (1, .int (nI i2))] dX1_clear_58 rfl 3 rfl (by rw [show Int32.ofInt 1 = nI 1 from by decide, nI_add]) (by decide) rfl ?_
                    refine j_goto 12 C dX1_clear_61 rfl ?_
                    subst hz
                    refine j_lv [2, 3, 0] (lv' := [(0, .ref (ad (11 + 2 * g))), (1, .int (nI i2)), (2, .int (nI (i12 + 1)))]) rfl ?_
                    have hz := ho12
                    exact ih12 (i12 + 1) f57 (by omega) (by omega) (by omega) hz12
                  · replace hz := (if_neg c_48).symm.trans hz
                    refine j_iconst 52 C (x := nI 0) dX1_clear_51 rfl (by decide) ?_
                    refine j_goto 57 C dX1_clear_52 rfl ?_
                    refine k_iast 58 C dX1_clear_57 rfl (12 + 2 * g) (GH_r hG (by omega)) c12 sA_at (CE_ga (by omega)) (vp_inE (n := ((i2 * (W * S + 1)) + i12)) (by simp only [nI_add, pk_mul]) (ixlt (by omega) (by omega)) (zz31 (by omega))) (sA σ (12 + 2 * g) (upd c12 (((nI i2) * (nI (W * S + 1))) + (nI i12)).toNatClampNeg (nI 0))) sA_top ?_
                    obtain ⟨f57, e57, hz⟩ := ap_x hz
                    rw [e57]
                    refine j_iinc 61 C (x' := nI (i12 + 1)) [(2, .int (nI (i12 + 1))), (3, .int (nI 1)), (0, .ref (ad (11 + 2 * g))), (1, .int (nI i2))] dX1_clear_58 rfl 3 rfl (by rw [show Int32.ofInt 1 = nI 1 from by decide, nI_add]) (by decide) rfl ?_
                    refine j_goto 12 C dX1_clear_61 rfl ?_
                    subst hz
                    refine j_lv [2, 3, 0] (lv' := [(0, .ref (ad (11 + 2 * g))), (1, .int (nI i2)), (2, .int (nI (i12 + 1)))]) rfl ?_
                    have hz := ho12
                    exact ih12 (i12 + 1) f57 (by omega) (by omega) (by omega) hz12
        refine j_lv [1, 2, 0] (lv' := [(0, .ref (ad (11 + 2 * g))), (1, .int (nI i2)), (2, .int (nI 0))]) rfl ?_
        exact L12 _ 0 c2 (by omega) (by omega) rfl ez12
  refine j_lv [1, 0] (lv' := [(0, .ref (ad (11 + 2 * g))), (1, .int (nI 0))]) rfl ?_
  refine j_ct (ct' := CT K W S ns nc ad B (sA σ (12 + 2 * g) (σ (12 + 2 * g)))) (fun r _ => congrFun (congrArg (CT K W S ns nc ad B) (sA_idr (by rfl))) r) ?_
  exact L2 _ 0 (σ (12 + 2 * g)) (by omega) (by omega) rfl ez2
def m_X1_copyFrom (W S ns nc : Nat) (B : Nat → Option Nat) (σ : Nat → Nat → Int32) (g : Nat) (other : Nat) : (Nat → Int32) := (if (nI (W * S + 1)) = (nI (W * S + 1)) then (va_cpy (σ (12 + 2 * other)) (σ (12 + 2 * g)) 0 0 ((W * S + 1) * (W * S + 1))) else (σ (12 + 2 * g)))
abbrev rm_X1_copyFrom : Room := { frames := 1, cells := 0, slots := 0, locals := 60 }
set_option maxHeartbeats 4000000 in
set_option maxRecDepth 100000 in
theorem c_X1_copyFrom {l : Launch} {D : va_G} {K : Nat → ClassId} {W S ns nc N : Nat} {ad : Nat → Nat} {B : Nat → Option Nat} {σ : Nat → Nat → Int32} (hG : GH W S ns nc N) {g : Nat} {other : Nat} (hg : g < 12) (h_other : other < 12) {z : (Nat → Int32)} (hz : m_X1_copyFrom W S ns nc B σ g other = z)  : MC l yX1_copyFrom cX1_copyFrom 2 none rm_X1_copyFrom D (TY K) N ad (CT K W S ns nc ad B σ) [.ref (ad (11 + 2 * g)), .ref (ad (11 + 2 * other))] (BS none N ad (CT K W S ns nc ad B (sA σ (12 + 2 * g) z)) True) := by
  have hW := hG.1; have hW8 := hG.2.1; have hS := hG.2.2.1; have hS4 := hG.2.2.2.1; have hns := hG.2.2.2.2.1; have hnc := hG.2.2.2.2.2.1; have hWS := GH_ws hG
  refine MC.of (by decide) (Nat.le_of_ble_eq_true rfl) (fun p e s m args below meth c Q A H0 C X => ?_)
  replace C : Cx p s m args meth c cX1_copyFrom RX1 2 D (TY K) A H0 := C
  show J p l e rm_X1_copyFrom s m args below meth c Q D A H0 2 0 0 N ad (CT K W S ns nc ad B σ) 0 [(0, .ref (ad (11 + 2 * g))), (1, .ref (ad (11 + 2 * other)))] []
  unfold m_X1_copyFrom at hz
  refine j_aload_n 1 C dX1_copyFrom_0 rfl rfl 1 rfl ?_
  refine j_st (st' := [va_rf (some (ad (11 + 2 * other)))]) rfl ?_
  refine j_ifnull 33 4 C dX1_copyFrom_1 rfl rfl (fun c_1 => by cases c_1) (fun _ _ => ?_)
  refine j_aload_n 5 C dX1_copyFrom_4 rfl rfl 1 rfl ?_
  refine k_get 8 C fl_X1_15 dX1_copyFrom_5 rfl (11 + 2 * other) (GH_r hG (by omega)) _ rfl (CE_go (by omega) _) (.int (nI (W * S + 1))) rfl ?_
  refine j_aload_n 9 C dX1_copyFrom_8 rfl rfl 0 rfl ?_
  refine k_get 12 C fl_X1_15 dX1_copyFrom_9 rfl (11 + 2 * g) (GH_r hG (by omega)) _ rfl (CE_go (by omega) _) (.int (nI (W * S + 1))) rfl ?_
  refine j_ic_ne 33 15 C dX1_copyFrom_12 rfl rfl (fun c_12 => ?_) (fun c_12 => ?_)
  · replace hz := (if_neg c_12).symm.trans hz
    have n_12 := nat_ne (a := (W * S + 1)) (b := (W * S + 1)) rfl rfl (by omega) (by omega) c_12
    subst hz
    exact j_retV C X dX1_copyFrom_33 ⟨rfl, rfl, rfl, (congrArg _ sA_id.symm), trivial⟩
  · replace hz := (if_pos c_12).symm.trans hz
    have n_12 := nat_eq (a := (W * S + 1)) (b := (W * S + 1)) rfl rfl (by omega) (by omega) c_12
    refine j_aload_n 16 C dX1_copyFrom_15 rfl rfl 1 rfl ?_
    refine k_get 19 C fl_X1_21 dX1_copyFrom_16 rfl (11 + 2 * other) (GH_r hG (by omega)) _ rfl (CE_go (by omega) _) (.ref (ad (12 + 2 * other))) rfl ?_
    refine j_iconst 20 C (x := nI 0) dX1_copyFrom_19 rfl (by decide) ?_
    refine j_aload_n 21 C dX1_copyFrom_20 rfl rfl 0 rfl ?_
    refine k_get 24 C fl_X1_21 dX1_copyFrom_21 rfl (11 + 2 * g) (GH_r hG (by omega)) _ rfl (CE_go (by omega) _) (.ref (ad (12 + 2 * g))) rfl ?_
    refine j_iconst 25 C (x := nI 0) dX1_copyFrom_24 rfl (by decide) ?_
    refine j_aload_n 26 C dX1_copyFrom_25 rfl rfl 0 rfl ?_
    refine k_get 29 C fl_X1_21 dX1_copyFrom_26 rfl (11 + 2 * g) (GH_r hG (by omega)) _ rfl (CE_go (by omega) _) (.ref (ad (12 + 2 * g))) rfl ?_
    refine k_alen 30 C dX1_copyFrom_29 rfl (12 + 2 * g) (GH_r hG (by omega)) 0 ((CE_ga (by omega)) _) rfl ?_
    refine k_copyi 33 C wl_X1_25 dX1_copyFrom_30 rfl (12 + 2 * other) (12 + 2 * g) (GH_r hG (by omega)) (GH_r hG (by omega)) (σ (12 + 2 * other)) (σ (12 + 2 * g)) rfl rfl (CE_ga (by omega)) (CE_ga (by omega)) (w := ((W * S + 1) * (W * S + 1))) (zz31 (by omega)) (Nat.le_refl _) (Nat.le_refl _) (Nat.le_of_ble_eq_true rfl) (Nat.le_of_ble_eq_true rfl) (sA σ (12 + 2 * g) (va_cpy (σ (12 + 2 * other)) (σ (12 + 2 * g)) 0 0 ((W * S + 1) * (W * S + 1)))) rfl ?_
    subst hz
    exact j_retV C X dX1_copyFrom_33 ⟨rfl, rfl, rfl, rfl, trivial⟩
def m_X1_openSum_L4 (W S ns nc : Nat) (B : Nat → Option Nat) (σ : Nat → Nat → Int32) (g : Nat) (i4 : Nat) (c4 : Int32) : Int32 := ap (m_X1_greatest W S ns nc B σ g (nI i4)) (fun (y15 : Int32) => ap (m_X1_least W S ns nc B σ g (nI i4)) (fun (y20 : Int32) => c4 + (y15 - y20)))
def m_X1_openSum (W S ns nc : Nat) (B : Nat → Option Nat) (σ : Nat → Nat → Int32) (g : Nat) : Int32 := ap (lp (m_X1_openSum_L4 W S ns nc B σ g) ((W * S + 1) - 1) 1 (nI 0)) (fun (z4 : Int32) => z4)
abbrev rm_X1_openSum : Room := { frames := 3, cells := 0, slots := 0, locals := 64 }
set_option maxHeartbeats 4000000 in
set_option maxRecDepth 100000 in
theorem c_X1_openSum {l : Launch} {D : va_G} {K : Nat → ClassId} {W S ns nc N : Nat} {ad : Nat → Nat} {B : Nat → Option Nat} {σ : Nat → Nat → Int32} (hG : GH W S ns nc N) {g : Nat} (hg : g < 12) {z : Int32} (hz : m_X1_openSum W S ns nc B σ g = z)  : MC l yX1_openSum cX1_openSum 3 (some .int) rm_X1_openSum D (TY K) N ad (CT K W S ns nc ad B σ) [.ref (ad (11 + 2 * g))] (BS (some (.int z)) N ad (CT K W S ns nc ad B σ) True) := by
  have hW := hG.1; have hW8 := hG.2.1; have hS := hG.2.2.1; have hS4 := hG.2.2.2.1; have hns := hG.2.2.2.2.1; have hnc := hG.2.2.2.2.2.1; have hWS := GH_ws hG
  refine MC.of (by decide) (Nat.le_of_ble_eq_true rfl) (fun p e s m args below meth c Q A H0 C X => ?_)
  replace C : Cx p s m args meth c cX1_openSum RX1 3 D (TY K) A H0 := C
  show J p l e rm_X1_openSum s m args below meth c Q D A H0 3 0 0 N ad (CT K W S ns nc ad B σ) 0 [(0, .ref (ad (11 + 2 * g)))] []
  unfold m_X1_openSum at hz
  refine j_iconst 1 C (x := nI 0) dX1_openSum_0 rfl (by decide) ?_
  refine j_istore_n 2 C [(1, .int (nI 0)), (0, .ref (ad (11 + 2 * g)))] dX1_openSum_1 rfl rfl (by decide) rfl ?_
  refine j_iconst 3 C (x := nI 1) dX1_openSum_2 rfl (by decide) ?_
  refine j_istore_n 4 C [(2, .int (nI 1)), (1, .int (nI 0)), (0, .ref (ad (11 + 2 * g)))] dX1_openSum_3 rfl rfl (by decide) rfl ?_
  skip
  obtain ⟨z4, ez4, hz⟩ := ap_x hz
  have L4 : ∀ (n4 i4 : Nat) (c4 : Int32), 1 ≤ i4 → i4 < 5000 → n4 = (W * S + 1) - i4 → lp (m_X1_openSum_L4 W S ns nc B σ g) n4 i4 c4 = z4 → J p l e rm_X1_openSum s m args below meth c Q D A H0 3 0 0 N ad (CT K W S ns nc ad B σ) 4 [(0, .ref (ad (11 + 2 * g))), (1, .int c4), (2, .int (nI i4))] [] := by
    intro n4
    induction n4 with
    | zero =>
      intro i4 c4 hl4 hi4 hn4 hz4
      refine j_iload_n 5 C dX1_openSum_4 rfl rfl 2 rfl ?_
      refine j_aload_n 6 C dX1_openSum_5 rfl rfl 0 rfl ?_
      refine k_get 9 C fl_X1_15 dX1_openSum_6 rfl (11 + 2 * g) (GH_r hG (by omega)) _ rfl (CE_go (by omega) _) (.int (nI (W * S + 1))) rfl ?_
      refine j_ic_ge 32 12 C dX1_openSum_9 rfl rfl (fun c_9 => ?_) (fun c_9 => ?_)
      · skip
        have n_9 := nat_le (a := (W * S + 1)) (b := i4) rfl rfl (by omega) (by omega) c_9
        have hq4 : c4 = z4 := hz4
        subst hq4
        refine j_iload_n 33 C dX1_openSum_32 rfl rfl 1 rfl ?_
        subst hz
        exact j_retI C X dX1_openSum_33 rfl ⟨rfl, rfl, rfl, rfl, trivial⟩
      · exfalso
        have n_9 := nat_nle (a := (W * S + 1)) (b := i4) rfl rfl (by omega) (by omega) c_9
        omega
    | succ n4 ih4 =>
      intro i4 c4 hl4 hi4 hn4 hz4
      refine j_iload_n 5 C dX1_openSum_4 rfl rfl 2 rfl ?_
      refine j_aload_n 6 C dX1_openSum_5 rfl rfl 0 rfl ?_
      refine k_get 9 C fl_X1_15 dX1_openSum_6 rfl (11 + 2 * g) (GH_r hG (by omega)) _ rfl (CE_go (by omega) _) (.int (nI (W * S + 1))) rfl ?_
      refine j_ic_ge 32 12 C dX1_openSum_9 rfl rfl (fun c_9 => ?_) (fun c_9 => ?_)
      · exfalso
        have n_9 := nat_le (a := (W * S + 1)) (b := i4) rfl rfl (by omega) (by omega) c_9
        omega
      · skip
        have n_9 := nat_nle (a := (W * S + 1)) (b := i4) rfl rfl (by omega) (by omega) c_9
        obtain ⟨w4, hw4, hz4⟩ := lp_s hz4
        have ho4 := hz
        clear hz
        have hz := hw4
        clear hw4
        unfold m_X1_openSum_L4 at hz
        refine j_iload_n 13 C dX1_openSum_12 rfl rfl 1 rfl ?_
        refine j_aload_n 14 C dX1_openSum_13 rfl rfl 0 rfl ?_
        refine j_iload_n 15 C dX1_openSum_14 rfl rfl 2 rfl ?_
        obtain ⟨y15, e15, hz⟩ := ap_x hz
        refine s_V 18 C (As := [.int (nI i4)]) cv_X1_45 (c_X1_greatest (l := l) (D := D) (K := K) (ad := ad) hG (hg := by omega) (hz := e15)) dX1_openSum_15 rfl (11 + 2 * g) 1 (GH_r hG (by omega)) rfl (CE_go (by omega) _) rfl rfl rfl rfl rfl rfl ⟨⟨Nat.le_of_ble_eq_true rfl, Nat.le_of_ble_eq_true rfl⟩, Nat.zero_le _, Nat.zero_le _⟩ (Nat.le_of_ble_eq_true rfl) (st' := [.int y15, .int c4]) rfl (fun hE => ?_)
        refine j_aload_n 19 C dX1_openSum_18 rfl rfl 0 rfl ?_
        refine j_iload_n 20 C dX1_openSum_19 rfl rfl 2 rfl ?_
        obtain ⟨y20, e20, hz⟩ := ap_x hz
        refine s_V 23 C (As := [.int (nI i4)]) cv_X1_49 (c_X1_least (l := l) (D := D) (K := K) (ad := ad) hG (hg := by omega) (hz := e20)) dX1_openSum_20 rfl (11 + 2 * g) 1 (GH_r hG (by omega)) rfl (CE_go (by omega) _) rfl rfl rfl rfl rfl rfl ⟨⟨Nat.le_of_ble_eq_true rfl, Nat.le_of_ble_eq_true rfl⟩, Nat.zero_le _, Nat.zero_le _⟩ (Nat.le_of_ble_eq_true rfl) (st' := [.int y20, .int y15, .int c4]) rfl (fun hE => ?_)
        refine j_isub 24 C dX1_openSum_23 rfl rfl ?_
        refine j_iadd 25 C dX1_openSum_24 rfl rfl ?_
        refine j_istore_n 26 C [(1, .int (c4 + (y15 - y20))), (0, .ref (ad (11 + 2 * g))), (2, .int (nI i4))] dX1_openSum_25 rfl rfl (by decide) rfl ?_
        refine j_iinc 29 C (x' := nI (i4 + 1)) [(2, .int (nI (i4 + 1))), (1, .int (c4 + (y15 - y20))), (0, .ref (ad (11 + 2 * g)))] dX1_openSum_26 rfl 2 rfl (by rw [show Int32.ofInt 1 = nI 1 from by decide, nI_add]) (by decide) rfl ?_
        refine j_goto 4 C dX1_openSum_29 rfl ?_
        subst hz
        refine j_lv [2, 1, 0] (lv' := [(0, .ref (ad (11 + 2 * g))), (1, .int (c4 + (y15 - y20))), (2, .int (nI (i4 + 1)))]) rfl ?_
        have hz := ho4
        exact ih4 (i4 + 1) (c4 + (y15 - y20)) (by omega) (by omega) (by omega) hz4
  refine j_lv [2, 1, 0] (lv' := [(0, .ref (ad (11 + 2 * g))), (1, .int (nI 0)), (2, .int (nI 1))]) rfl ?_
  exact L4 _ 1 (nI 0) (by omega) (by omega) rfl ez4
def m_X1_openSumAfterBore_L15 (W S ns nc : Nat) (B : Nat → Option Nat) (σ : Nat → Nat → Int32) (g : Nat) (bored : Int32) (depth : Int32) (i15 : Nat) (c15 : Int32) : Int32 := ap ((if (depth + ((σ (12 + 2 * g)) ((bored * (nI (W * S + 1))) + (nI i15)).toNatClampNeg)) < ((σ (12 + 2 * g)) (nI i15).toNatClampNeg) then (depth + ((σ (12 + 2 * g)) ((bored * (nI (W * S + 1))) + (nI i15)).toNatClampNeg)) else ((σ (12 + 2 * g)) (nI i15).toNatClampNeg))) (fun (x50 : Int32) => ap ((if (-((σ (12 + 2 * g)) ((nI i15) * (nI (W * S + 1))).toNatClampNeg)) < (depth - ((σ (12 + 2 * g)) (((nI i15) * (nI (W * S + 1))) + bored).toNatClampNeg)) then (depth - ((σ (12 + 2 * g)) (((nI i15) * (nI (W * S + 1))) + bored).toNatClampNeg)) else (-((σ (12 + 2 * g)) ((nI i15) * (nI (W * S + 1))).toNatClampNeg)))) (fun (x84 : Int32) => c15 + (x50 - x84)))
def m_X1_openSumAfterBore (W S ns nc : Nat) (B : Nat → Option Nat) (σ : Nat → Nat → Int32) (g : Nat) (bored : Int32) (depth : Int32) : Int32 := ap (m_X1_isPlace W S ns nc B σ g bored) (fun (y2 : Int32) => (if y2 = 0 then nI 0 else ap (lp (m_X1_openSumAfterBore_L15 W S ns nc B σ g bored depth) ((W * S + 1) - 1) 1 (nI 0)) (fun (z15 : Int32) => z15)))
abbrev rm_X1_openSumAfterBore : Room := { frames := 1, cells := 0, slots := 0, locals := 40 }
set_option maxHeartbeats 4000000 in
set_option maxRecDepth 100000 in
theorem c_X1_openSumAfterBore {l : Launch} {D : va_G} {K : Nat → ClassId} {W S ns nc N : Nat} {ad : Nat → Nat} {B : Nat → Option Nat} {σ : Nat → Nat → Int32} (hG : GH W S ns nc N) {g : Nat} {bored : Int32} {depth : Int32} (hg : g < 12) {z : Int32} (hz : m_X1_openSumAfterBore W S ns nc B σ g bored depth = z)  : MC l yX1_openSumAfterBore cX1_openSumAfterBore 7 (some .int) rm_X1_openSumAfterBore D (TY K) N ad (CT K W S ns nc ad B σ) [.ref (ad (11 + 2 * g)), .int bored, .int depth] (BS (some (.int z)) N ad (CT K W S ns nc ad B σ) True) := by
  have hW := hG.1; have hW8 := hG.2.1; have hS := hG.2.2.1; have hS4 := hG.2.2.2.1; have hns := hG.2.2.2.2.1; have hnc := hG.2.2.2.2.2.1; have hWS := GH_ws hG
  refine MC.of (by decide) (Nat.le_of_ble_eq_true rfl) (fun p e s m args below meth c Q A H0 C X => ?_)
  replace C : Cx p s m args meth c cX1_openSumAfterBore RX1 7 D (TY K) A H0 := C
  show J p l e rm_X1_openSumAfterBore s m args below meth c Q D A H0 7 0 0 N ad (CT K W S ns nc ad B σ) 0 [(0, .ref (ad (11 + 2 * g))), (1, .int bored), (2, .int depth)] []
  unfold m_X1_openSumAfterBore at hz
  refine j_aload_n 1 C dX1_openSumAfterBore_0 rfl rfl 0 rfl ?_
  refine j_iload_n 2 C dX1_openSumAfterBore_1 rfl rfl 1 rfl ?_
  obtain ⟨y2, e2, hz⟩ := ap_x hz
  refine s_V 5 C (As := [.int bored]) cv_X1_31 (c_X1_isPlace (l := l) (D := D) (K := K) (ad := ad) hG (hg := by omega) (hz := e2)) dX1_openSumAfterBore_2 rfl (11 + 2 * g) 1 (GH_r hG (by omega)) rfl (CE_go (by omega) _) rfl rfl rfl rfl rfl rfl ⟨⟨Nat.le_of_ble_eq_true rfl, Nat.le_of_ble_eq_true rfl⟩, Nat.zero_le _, Nat.zero_le _⟩ (Nat.le_of_ble_eq_true rfl) (st' := [.int y2]) rfl (fun hE => ?_)
  have hbl2 : bl y2 := hE
  refine j_if_ne 10 8 C dX1_openSumAfterBore_5 rfl rfl (fun c_5 => ?_) (fun c_5 => ?_)
  · replace hz := (if_neg c_5).symm.trans hz
    obtain ⟨ka, hka, eka⟩ := gPlace_nat hG e2 c_5
    refine j_iconst 11 C (x := nI 0) dX1_openSumAfterBore_10 rfl (by decide) ?_
    refine j_istore_n 12 C [(3, .int (nI 0)), (0, .ref (ad (11 + 2 * g))), (1, .int bored), (2, .int depth)] dX1_openSumAfterBore_11 rfl rfl (by decide) rfl ?_
    refine j_iconst 13 C (x := nI 1) dX1_openSumAfterBore_12 rfl (by decide) ?_
    refine j_istore 15 C [(4, .int (nI 1)), (3, .int (nI 0)), (0, .ref (ad (11 + 2 * g))), (1, .int bored), (2, .int depth)] dX1_openSumAfterBore_13 rfl (by decide) rfl ?_
    skip
    obtain ⟨z15, ez15, hz⟩ := ap_x hz
    have L15 : ∀ (n15 i15 : Nat) (c15 : Int32), 1 ≤ i15 → i15 < 5000 → n15 = (W * S + 1) - i15 → lp (m_X1_openSumAfterBore_L15 W S ns nc B σ g bored depth) n15 i15 c15 = z15 → J p l e rm_X1_openSumAfterBore s m args below meth c Q D A H0 7 0 0 N ad (CT K W S ns nc ad B σ) 15 [(0, .ref (ad (11 + 2 * g))), (1, .int bored), (2, .int depth), (3, .int c15), (4, .int (nI i15))] [] := by
      intro n15
      induction n15 with
      | zero =>
        intro i15 c15 hl15 hi15 hn15 hz15
        refine j_iload 17 C dX1_openSumAfterBore_15 rfl 4 rfl ?_
        refine j_aload_n 18 C dX1_openSumAfterBore_17 rfl rfl 0 rfl ?_
        refine k_get 21 C fl_X1_15 dX1_openSumAfterBore_18 rfl (11 + 2 * g) (GH_r hG (by omega)) _ rfl (CE_go (by omega) _) (.int (nI (W * S + 1))) rfl ?_
        refine j_ic_ge 100 24 C dX1_openSumAfterBore_21 rfl rfl (fun c_21 => ?_) (fun c_21 => ?_)
        · skip
          have n_21 := nat_le (a := (W * S + 1)) (b := i15) rfl rfl (by omega) (by omega) c_21
          have hq15 : c15 = z15 := hz15
          subst hq15
          refine j_iload_n 101 C dX1_openSumAfterBore_100 rfl rfl 3 rfl ?_
          subst hz
          exact j_retI C X dX1_openSumAfterBore_101 rfl ⟨rfl, rfl, rfl, rfl, trivial⟩
        · exfalso
          have n_21 := nat_nle (a := (W * S + 1)) (b := i15) rfl rfl (by omega) (by omega) c_21
          omega
      | succ n15 ih15 =>
        intro i15 c15 hl15 hi15 hn15 hz15
        refine j_iload 17 C dX1_openSumAfterBore_15 rfl 4 rfl ?_
        refine j_aload_n 18 C dX1_openSumAfterBore_17 rfl rfl 0 rfl ?_
        refine k_get 21 C fl_X1_15 dX1_openSumAfterBore_18 rfl (11 + 2 * g) (GH_r hG (by omega)) _ rfl (CE_go (by omega) _) (.int (nI (W * S + 1))) rfl ?_
        refine j_ic_ge 100 24 C dX1_openSumAfterBore_21 rfl rfl (fun c_21 => ?_) (fun c_21 => ?_)
        · exfalso
          have n_21 := nat_le (a := (W * S + 1)) (b := i15) rfl rfl (by omega) (by omega) c_21
          omega
        · skip
          have n_21 := nat_nle (a := (W * S + 1)) (b := i15) rfl rfl (by omega) (by omega) c_21
          obtain ⟨w15, hw15, hz15⟩ := lp_s hz15
          have ho15 := hz
          clear hz
          have hz := hw15
          clear hw15
          unfold m_X1_openSumAfterBore_L15 at hz
          refine j_aload_n 25 C dX1_openSumAfterBore_24 rfl rfl 0 rfl ?_
          refine k_get 28 C fl_X1_21 dX1_openSumAfterBore_25 rfl (11 + 2 * g) (GH_r hG (by omega)) _ rfl (CE_go (by omega) _) (.ref (ad (12 + 2 * g))) rfl ?_
          refine j_iload 30 C dX1_openSumAfterBore_28 rfl 4 rfl ?_
          refine k_iald 31 C dX1_openSumAfterBore_30 rfl (12 + 2 * g) (GH_r hG (by omega)) (σ (12 + 2 * g)) rfl (CE_ga (by omega)) (vp_inE (n := i15) rfl (Nat.lt_of_lt_of_le (by omega) (Nat.le_mul_of_pos_right _ (by omega))) (zz31 (by omega))) ?_
          refine j_iload_n 32 C dX1_openSumAfterBore_31 rfl rfl 2 rfl ?_
          refine j_aload_n 33 C dX1_openSumAfterBore_32 rfl rfl 0 rfl ?_
          refine k_get 36 C fl_X1_21 dX1_openSumAfterBore_33 rfl (11 + 2 * g) (GH_r hG (by omega)) _ rfl (CE_go (by omega) _) (.ref (ad (12 + 2 * g))) rfl ?_
          refine j_iload_n 37 C dX1_openSumAfterBore_36 rfl rfl 1 rfl ?_
          refine j_aload_n 38 C dX1_openSumAfterBore_37 rfl rfl 0 rfl ?_
          refine k_get 41 C fl_X1_15 dX1_openSumAfterBore_38 rfl (11 + 2 * g) (GH_r hG (by omega)) _ rfl (CE_go (by omega) _) (.int (nI (W * S + 1))) rfl ?_
          refine j_imul 42 C dX1_openSumAfterBore_41 rfl rfl ?_
          refine j_iload 44 C dX1_openSumAfterBore_42 rfl 4 rfl ?_
          refine j_iadd 45 C dX1_openSumAfterBore_44 rfl rfl ?_
          refine k_iald 46 C dX1_openSumAfterBore_45 rfl (12 + 2 * g) (GH_r hG (by omega)) (σ (12 + 2 * g)) rfl (CE_ga (by omega)) (vp_inE (n := ((ka * (W * S + 1)) + i15)) (by simp only [eka, nI_add, pk_mul]) (ixlt (by omega) (by omega)) (zz31 (by omega))) ?_
          refine j_iadd 47 C dX1_openSumAfterBore_46 rfl rfl ?_
          refine j_mmin 50 C wl_X1_42 rfl dX1_openSumAfterBore_47 rfl (Nat.le_of_ble_eq_true rfl) (Nat.le_of_ble_eq_true rfl) (Nat.zero_le _) (Nat.zero_le _) ?_
          obtain ⟨x50, e50, hz⟩ := ap_x hz
          refine j_st (st' := [.int x50]) (by rw [← e50]) ?_
          refine j_istore 52 C [(5, .int x50), (0, .ref (ad (11 + 2 * g))), (1, .int bored), (2, .int depth), (3, .int c15), (4, .int (nI i15))] dX1_openSumAfterBore_50 rfl (by decide) rfl ?_
          refine j_aload_n 53 C dX1_openSumAfterBore_52 rfl rfl 1 rfl ?_
          refine k_get 56 C fl_X1_21 dX1_openSumAfterBore_53 rfl (11 + 2 * g) (GH_r hG (by omega)) _ rfl (CE_go (by omega) _) (.ref (ad (12 + 2 * g))) rfl ?_
          refine j_iload 58 C dX1_openSumAfterBore_56 rfl 5 rfl ?_
          refine j_aload_n 59 C dX1_openSumAfterBore_58 rfl rfl 1 rfl ?_
          refine k_get 62 C fl_X1_15 dX1_openSumAfterBore_59 rfl (11 + 2 * g) (GH_r hG (by omega)) _ rfl (CE_go (by omega) _) (.int (nI (W * S + 1))) rfl ?_
          refine j_imul 63 C dX1_openSumAfterBore_62 rfl rfl ?_
          refine k_iald 64 C dX1_openSumAfterBore_63 rfl (12 + 2 * g) (GH_r hG (by omega)) (σ (12 + 2 * g)) rfl (CE_ga (by omega)) (vp_inE (n := (i15 * (W * S + 1))) (by simp only [nI_add, pk_mul]) (Nat.mul_lt_mul_of_pos_right (by omega) (by omega)) (zz31 (by omega))) ?_
          refine j_ineg 65 C dX1_openSumAfterBore_64 rfl rfl ?_
          refine j_iload_n 66 C dX1_openSumAfterBore_65 rfl rfl 3 rfl ?_
          refine j_aload_n 67 C dX1_openSumAfterBore_66 rfl rfl 1 rfl ?_
          refine k_get 70 C fl_X1_21 dX1_openSumAfterBore_67 rfl (11 + 2 * g) (GH_r hG (by omega)) _ rfl (CE_go (by omega) _) (.ref (ad (12 + 2 * g))) rfl ?_
          refine j_iload 72 C dX1_openSumAfterBore_70 rfl 5 rfl ?_
          refine j_aload_n 73 C dX1_openSumAfterBore_72 rfl rfl 1 rfl ?_
          refine k_get 76 C fl_X1_15 dX1_openSumAfterBore_73 rfl (11 + 2 * g) (GH_r hG (by omega)) _ rfl (CE_go (by omega) _) (.int (nI (W * S + 1))) rfl ?_
          refine j_imul 77 C dX1_openSumAfterBore_76 rfl rfl ?_
          refine j_iload_n 78 C dX1_openSumAfterBore_77 rfl rfl 2 rfl ?_
          refine j_iadd 79 C dX1_openSumAfterBore_78 rfl rfl ?_
          refine k_iald 80 C dX1_openSumAfterBore_79 rfl (12 + 2 * g) (GH_r hG (by omega)) (σ (12 + 2 * g)) rfl (CE_ga (by omega)) (vp_inE (n := ((i15 * (W * S + 1)) + ka)) (by simp only [eka, nI_add, pk_mul]) (ixlt (by omega) (by omega)) (zz31 (by omega))) ?_
          refine j_isub 81 C dX1_openSumAfterBore_80 rfl rfl ?_
          refine j_mmax 84 C wl_X1_9 rfl dX1_openSumAfterBore_81 rfl (Nat.le_of_ble_eq_true rfl) (Nat.le_of_ble_eq_true rfl) (Nat.zero_le _) (Nat.zero_le _) ?_
          obtain ⟨x84, e84, hz⟩ := ap_x hz
          refine j_st (st' := [.int x84]) (by rw [← e84]) ?_
          refine j_istore 86 C [(6, .int x84), (5, .int x50), (0, .ref (ad (11 + 2 * g))), (1, .int bored), (2, .int depth), (3, .int c15), (4, .int (nI i15))] dX1_openSumAfterBore_84 rfl (by decide) rfl ?_
          refine j_iload_n 87 C dX1_openSumAfterBore_86 rfl rfl 5 rfl ?_
          refine j_iload 89 C dX1_openSumAfterBore_87 rfl 1 rfl ?_
          refine j_iload 91 C dX1_openSumAfterBore_89 rfl 0 rfl ?_
          refine j_isub 92 C dX1_openSumAfterBore_91 rfl rfl ?_
          refine j_iadd 93 C dX1_openSumAfterBore_92 rfl rfl ?_
          refine j_istore_n 94 C [(3, .int (c15 + (x50 - x84))), (6, .int x84), (5, .int x50), (0, .ref (ad (11 + 2 * g))), (1, .int bored), (2, .int depth), (4, .int (nI i15))] dX1_openSumAfterBore_93 rfl rfl (by decide) rfl ?_
          refine j_iinc 97 C (x' := nI (i15 + 1)) [(4, .int (nI (i15 + 1))), (3, .int (c15 + (x50 - x84))), (6, .int x84), (5, .int x50), (0, .ref (ad (11 + 2 * g))), (1, .int bored), (2, .int depth)] dX1_openSumAfterBore_94 rfl 6 rfl (by rw [show Int32.ofInt 1 = nI 1 from by decide, nI_add]) (by decide) rfl ?_
          refine j_goto 15 C dX1_openSumAfterBore_97 rfl ?_
          subst hz
          refine j_lv [4, 5, 6, 1, 0] (lv' := [(0, .ref (ad (11 + 2 * g))), (1, .int bored), (2, .int depth), (3, .int (c15 + (x50 - x84))), (4, .int (nI (i15 + 1)))]) rfl ?_
          have hz := ho15
          exact ih15 (i15 + 1) (c15 + (x50 - x84)) (by omega) (by omega) (by omega) hz15
    refine j_lv [2, 3, 4, 1, 0] (lv' := [(0, .ref (ad (11 + 2 * g))), (1, .int bored), (2, .int depth), (3, .int (nI 0)), (4, .int (nI 1))]) rfl ?_
    exact L15 _ 1 (nI 0) (by omega) (by omega) rfl ez15
  · replace hz := (if_pos c_5).symm.trans hz
    refine j_iconst 9 C (x := nI 0) dX1_openSumAfterBore_8 rfl (by decide) ?_
    subst hz
    exact j_retI C X dX1_openSumAfterBore_9 rfl ⟨rfl, rfl, rfl, rfl, trivial⟩
end
section
def m_X2_columns (W S ns nc : Nat) (B : Nat → Option Nat) (σ : Nat → Nat → Int32) : Int32 := nI W
abbrev rm_X2_columns : Room := { frames := 0, cells := 0, slots := 0, locals := 0 }
set_option maxHeartbeats 4000000 in
set_option maxRecDepth 100000 in
theorem c_X2_columns {l : Launch} {D : va_G} {K : Nat → ClassId} {W S ns nc N : Nat} {ad : Nat → Nat} {B : Nat → Option Nat} {σ : Nat → Nat → Int32} (hG : GH W S ns nc N)   {z : Int32} (hz : m_X2_columns W S ns nc B σ = z)  : MC l yX2_columns cX2_columns 1 (some .int) rm_X2_columns D (TY K) N ad (CT K W S ns nc ad B σ) [.ref (ad 1)] (BS (some (.int z)) N ad (CT K W S ns nc ad B σ) True) := by
  have hW := hG.1; have hW8 := hG.2.1; have hS := hG.2.2.1; have hS4 := hG.2.2.2.1; have hns := hG.2.2.2.2.1; have hnc := hG.2.2.2.2.2.1; have hWS := GH_ws hG
  refine MC.of (by decide) (Nat.le_of_ble_eq_true rfl) (fun p e s m args below meth c Q A H0 C X => ?_)
  replace C : Cx p s m args meth c cX2_columns RX2 1 D (TY K) A H0 := C
  show J p l e rm_X2_columns s m args below meth c Q D A H0 1 0 0 N ad (CT K W S ns nc ad B σ) 0 [(0, .ref (ad 1))] []
  unfold m_X2_columns at hz
  refine j_aload_n 1 C dX2_columns_0 rfl rfl 0 rfl ?_
  refine k_get 4 C fl_X2_15 dX2_columns_1 rfl 1 (GH_r hG (by decide)) _ rfl (CE_1 _) (.int (nI W)) rfl ?_
  subst hz
  exact j_retI C X dX2_columns_4 rfl ⟨rfl, rfl, rfl, rfl, trivial⟩
def m_X2_surfaces (W S ns nc : Nat) (B : Nat → Option Nat) (σ : Nat → Nat → Int32) : Int32 := nI S
abbrev rm_X2_surfaces : Room := { frames := 0, cells := 0, slots := 0, locals := 0 }
set_option maxHeartbeats 4000000 in
set_option maxRecDepth 100000 in
theorem c_X2_surfaces {l : Launch} {D : va_G} {K : Nat → ClassId} {W S ns nc N : Nat} {ad : Nat → Nat} {B : Nat → Option Nat} {σ : Nat → Nat → Int32} (hG : GH W S ns nc N)   {z : Int32} (hz : m_X2_surfaces W S ns nc B σ = z)  : MC l yX2_surfaces cX2_surfaces 1 (some .int) rm_X2_surfaces D (TY K) N ad (CT K W S ns nc ad B σ) [.ref (ad 1)] (BS (some (.int z)) N ad (CT K W S ns nc ad B σ) True) := by
  have hW := hG.1; have hW8 := hG.2.1; have hS := hG.2.2.1; have hS4 := hG.2.2.2.1; have hns := hG.2.2.2.2.1; have hnc := hG.2.2.2.2.2.1; have hWS := GH_ws hG
  refine MC.of (by decide) (Nat.le_of_ble_eq_true rfl) (fun p e s m args below meth c Q A H0 C X => ?_)
  replace C : Cx p s m args meth c cX2_surfaces RX2 1 D (TY K) A H0 := C
  show J p l e rm_X2_surfaces s m args below meth c Q D A H0 1 0 0 N ad (CT K W S ns nc ad B σ) 0 [(0, .ref (ad 1))] []
  unfold m_X2_surfaces at hz
  refine j_aload_n 1 C dX2_surfaces_0 rfl rfl 0 rfl ?_
  refine k_get 4 C fl_X2_21 dX2_surfaces_1 rfl 1 (GH_r hG (by decide)) _ rfl (CE_1 _) (.int (nI S)) rfl ?_
  subst hz
  exact j_retI C X dX2_surfaces_4 rfl ⟨rfl, rfl, rfl, rfl, trivial⟩
def m_X2_hasSurface (W S ns nc : Nat) (B : Nat → Option Nat) (σ : Nat → Nat → Int32) (surface : Int32) : Int32 := (if surface < 0 then nI 0 else (if (nI S) ≤ surface then nI 0 else nI 1))
abbrev rm_X2_hasSurface : Room := { frames := 0, cells := 0, slots := 0, locals := 0 }
set_option maxHeartbeats 4000000 in
set_option maxRecDepth 100000 in
theorem c_X2_hasSurface {l : Launch} {D : va_G} {K : Nat → ClassId} {W S ns nc N : Nat} {ad : Nat → Nat} {B : Nat → Option Nat} {σ : Nat → Nat → Int32} (hG : GH W S ns nc N) {surface : Int32}  {z : Int32} (hz : m_X2_hasSurface W S ns nc B σ surface = z)  : MC l yX2_hasSurface cX2_hasSurface 2 (some .boolean) rm_X2_hasSurface D (TY K) N ad (CT K W S ns nc ad B σ) [.ref (ad 1), .int surface] (BS (some (.int z)) N ad (CT K W S ns nc ad B σ) (bl z)) := by
  have hW := hG.1; have hW8 := hG.2.1; have hS := hG.2.2.1; have hS4 := hG.2.2.2.1; have hns := hG.2.2.2.2.1; have hnc := hG.2.2.2.2.2.1; have hWS := GH_ws hG
  refine MC.of (by decide) (Nat.le_of_ble_eq_true rfl) (fun p e s m args below meth c Q A H0 C X => ?_)
  replace C : Cx p s m args meth c cX2_hasSurface RX2 2 D (TY K) A H0 := C
  show J p l e rm_X2_hasSurface s m args below meth c Q D A H0 2 0 0 N ad (CT K W S ns nc ad B σ) 0 [(0, .ref (ad 1)), (1, .int surface)] []
  unfold m_X2_hasSurface at hz
  refine j_iload_n 1 C dX2_hasSurface_0 rfl rfl 1 rfl ?_
  refine j_if_lt 16 4 C dX2_hasSurface_1 rfl rfl (fun c_1 => ?_) (fun c_1 => ?_)
  · replace hz := (if_pos c_1).symm.trans hz
    refine j_iconst 17 C (x := nI 0) dX2_hasSurface_16 rfl (by decide) ?_
    subst hz
    exact j_retI C X dX2_hasSurface_17 (bl_nar bl_0) ⟨rfl, rfl, rfl, rfl, bl_0⟩
  · replace hz := (if_neg c_1).symm.trans hz
    refine j_iload_n 5 C dX2_hasSurface_4 rfl rfl 1 rfl ?_
    refine j_aload_n 6 C dX2_hasSurface_5 rfl rfl 0 rfl ?_
    refine k_get 9 C fl_X2_21 dX2_hasSurface_6 rfl 1 (GH_r hG (by decide)) _ rfl (CE_1 _) (.int (nI S)) rfl ?_
    refine j_ic_ge 16 12 C dX2_hasSurface_9 rfl rfl (fun c_9 => ?_) (fun c_9 => ?_)
    · replace hz := (if_pos c_9).symm.trans hz
      refine j_iconst 17 C (x := nI 0) dX2_hasSurface_16 rfl (by decide) ?_
      subst hz
      exact j_retI C X dX2_hasSurface_17 (bl_nar bl_0) ⟨rfl, rfl, rfl, rfl, bl_0⟩
    · replace hz := (if_neg c_9).symm.trans hz
      refine j_iconst 13 C (x := nI 1) dX2_hasSurface_12 rfl (by decide) ?_
      refine j_goto 17 C dX2_hasSurface_13 rfl ?_
      subst hz
      exact j_retI C X dX2_hasSurface_17 (bl_nar bl_1) ⟨rfl, rfl, rfl, rfl, bl_1⟩
theorem hasSurface_nat {W S ns nc : Nat} {B : Nat → Option Nat} {σ : Nat → Nat → Int32} {N : Nat} (hG : GH W S ns nc N) {v y : Int32} (e : m_X2_hasSurface W S ns nc B σ v = y) (c : ¬ y = 0) : ∃ k : Nat, k < S ∧ v = nI k := by
  unfold m_X2_hasSurface at e
  have hS4 := hG.2.2.2.1
  by_cases h0 : v < 0
  · rw [if_pos h0] at e; exact absurd e.symm (by rw [nI_0]; exact c)
  rw [if_neg h0] at e
  by_cases h1 : nI S ≤ v
  · rw [if_pos h1] at e; exact absurd e.symm (by rw [nI_0]; exact c)
  obtain ⟨j, hj, rfl⟩ := nI_of h0
  exact ⟨j, Nat.not_le.mp (fun q => h1 ((nI_leI (by omega) hj).mpr q)), rfl⟩
def m_X2_hasColumn (W S ns nc : Nat) (B : Nat → Option Nat) (σ : Nat → Nat → Int32) (column : Int32) : Int32 := (if column < 0 then nI 0 else (if (nI W) ≤ column then nI 0 else nI 1))
abbrev rm_X2_hasColumn : Room := { frames := 0, cells := 0, slots := 0, locals := 0 }
set_option maxHeartbeats 4000000 in
set_option maxRecDepth 100000 in
theorem c_X2_hasColumn {l : Launch} {D : va_G} {K : Nat → ClassId} {W S ns nc N : Nat} {ad : Nat → Nat} {B : Nat → Option Nat} {σ : Nat → Nat → Int32} (hG : GH W S ns nc N) {column : Int32}  {z : Int32} (hz : m_X2_hasColumn W S ns nc B σ column = z)  : MC l yX2_hasColumn cX2_hasColumn 2 (some .boolean) rm_X2_hasColumn D (TY K) N ad (CT K W S ns nc ad B σ) [.ref (ad 1), .int column] (BS (some (.int z)) N ad (CT K W S ns nc ad B σ) (bl z)) := by
  have hW := hG.1; have hW8 := hG.2.1; have hS := hG.2.2.1; have hS4 := hG.2.2.2.1; have hns := hG.2.2.2.2.1; have hnc := hG.2.2.2.2.2.1; have hWS := GH_ws hG
  refine MC.of (by decide) (Nat.le_of_ble_eq_true rfl) (fun p e s m args below meth c Q A H0 C X => ?_)
  replace C : Cx p s m args meth c cX2_hasColumn RX2 2 D (TY K) A H0 := C
  show J p l e rm_X2_hasColumn s m args below meth c Q D A H0 2 0 0 N ad (CT K W S ns nc ad B σ) 0 [(0, .ref (ad 1)), (1, .int column)] []
  unfold m_X2_hasColumn at hz
  refine j_iload_n 1 C dX2_hasColumn_0 rfl rfl 1 rfl ?_
  refine j_if_lt 16 4 C dX2_hasColumn_1 rfl rfl (fun c_1 => ?_) (fun c_1 => ?_)
  · replace hz := (if_pos c_1).symm.trans hz
    refine j_iconst 17 C (x := nI 0) dX2_hasColumn_16 rfl (by decide) ?_
    subst hz
    exact j_retI C X dX2_hasColumn_17 (bl_nar bl_0) ⟨rfl, rfl, rfl, rfl, bl_0⟩
  · replace hz := (if_neg c_1).symm.trans hz
    refine j_iload_n 5 C dX2_hasColumn_4 rfl rfl 1 rfl ?_
    refine j_aload_n 6 C dX2_hasColumn_5 rfl rfl 0 rfl ?_
    refine k_get 9 C fl_X2_15 dX2_hasColumn_6 rfl 1 (GH_r hG (by decide)) _ rfl (CE_1 _) (.int (nI W)) rfl ?_
    refine j_ic_ge 16 12 C dX2_hasColumn_9 rfl rfl (fun c_9 => ?_) (fun c_9 => ?_)
    · replace hz := (if_pos c_9).symm.trans hz
      refine j_iconst 17 C (x := nI 0) dX2_hasColumn_16 rfl (by decide) ?_
      subst hz
      exact j_retI C X dX2_hasColumn_17 (bl_nar bl_0) ⟨rfl, rfl, rfl, rfl, bl_0⟩
    · replace hz := (if_neg c_9).symm.trans hz
      refine j_iconst 13 C (x := nI 1) dX2_hasColumn_12 rfl (by decide) ?_
      refine j_goto 17 C dX2_hasColumn_13 rfl ?_
      subst hz
      exact j_retI C X dX2_hasColumn_17 (bl_nar bl_1) ⟨rfl, rfl, rfl, rfl, bl_1⟩
theorem hasColumn_nat {W S ns nc : Nat} {B : Nat → Option Nat} {σ : Nat → Nat → Int32} {N : Nat} (hG : GH W S ns nc N) {v y : Int32} (e : m_X2_hasColumn W S ns nc B σ v = y) (c : ¬ y = 0) : ∃ k : Nat, k < W ∧ v = nI k := by
  unfold m_X2_hasColumn at e
  have hW8 := hG.2.1
  by_cases h0 : v < 0
  · rw [if_pos h0] at e; exact absurd e.symm (by rw [nI_0]; exact c)
  rw [if_neg h0] at e
  by_cases h1 : nI W ≤ v
  · rw [if_pos h1] at e; exact absurd e.symm (by rw [nI_0]; exact c)
  obtain ⟨j, hj, rfl⟩ := nI_of h0
  exact ⟨j, Nat.not_le.mp (fun q => h1 ((nI_leI (by omega) hj).mpr q)), rfl⟩
def m_X2_hasNextColumn (W S ns nc : Nat) (B : Nat → Option Nat) (σ : Nat → Nat → Int32) (column : Int32) : Int32 := (if column < 0 then nI 0 else (if ((nI W) - (nI 1)) ≤ column then nI 0 else nI 1))
abbrev rm_X2_hasNextColumn : Room := { frames := 0, cells := 0, slots := 0, locals := 0 }
set_option maxHeartbeats 4000000 in
set_option maxRecDepth 100000 in
theorem c_X2_hasNextColumn {l : Launch} {D : va_G} {K : Nat → ClassId} {W S ns nc N : Nat} {ad : Nat → Nat} {B : Nat → Option Nat} {σ : Nat → Nat → Int32} (hG : GH W S ns nc N) {column : Int32}  {z : Int32} (hz : m_X2_hasNextColumn W S ns nc B σ column = z)  : MC l yX2_hasNextColumn cX2_hasNextColumn 2 (some .boolean) rm_X2_hasNextColumn D (TY K) N ad (CT K W S ns nc ad B σ) [.ref (ad 1), .int column] (BS (some (.int z)) N ad (CT K W S ns nc ad B σ) (bl z)) := by
  have hW := hG.1; have hW8 := hG.2.1; have hS := hG.2.2.1; have hS4 := hG.2.2.2.1; have hns := hG.2.2.2.2.1; have hnc := hG.2.2.2.2.2.1; have hWS := GH_ws hG
  refine MC.of (by decide) (Nat.le_of_ble_eq_true rfl) (fun p e s m args below meth c Q A H0 C X => ?_)
  replace C : Cx p s m args meth c cX2_hasNextColumn RX2 2 D (TY K) A H0 := C
  show J p l e rm_X2_hasNextColumn s m args below meth c Q D A H0 2 0 0 N ad (CT K W S ns nc ad B σ) 0 [(0, .ref (ad 1)), (1, .int column)] []
  unfold m_X2_hasNextColumn at hz
  refine j_iload_n 1 C dX2_hasNextColumn_0 rfl rfl 1 rfl ?_
  refine j_if_lt 18 4 C dX2_hasNextColumn_1 rfl rfl (fun c_1 => ?_) (fun c_1 => ?_)
  · replace hz := (if_pos c_1).symm.trans hz
    refine j_iconst 19 C (x := nI 0) dX2_hasNextColumn_18 rfl (by decide) ?_
    subst hz
    exact j_retI C X dX2_hasNextColumn_19 (bl_nar bl_0) ⟨rfl, rfl, rfl, rfl, bl_0⟩
  · replace hz := (if_neg c_1).symm.trans hz
    refine j_iload_n 5 C dX2_hasNextColumn_4 rfl rfl 1 rfl ?_
    refine j_aload_n 6 C dX2_hasNextColumn_5 rfl rfl 0 rfl ?_
    refine k_get 9 C fl_X2_15 dX2_hasNextColumn_6 rfl 1 (GH_r hG (by decide)) _ rfl (CE_1 _) (.int (nI W)) rfl ?_
    refine j_iconst 10 C (x := nI 1) dX2_hasNextColumn_9 rfl (by decide) ?_
    refine j_isub 11 C dX2_hasNextColumn_10 rfl rfl ?_
    refine j_ic_ge 18 14 C dX2_hasNextColumn_11 rfl rfl (fun c_11 => ?_) (fun c_11 => ?_)
    · replace hz := (if_pos c_11).symm.trans hz
      refine j_iconst 19 C (x := nI 0) dX2_hasNextColumn_18 rfl (by decide) ?_
      subst hz
      exact j_retI C X dX2_hasNextColumn_19 (bl_nar bl_0) ⟨rfl, rfl, rfl, rfl, bl_0⟩
    · replace hz := (if_neg c_11).symm.trans hz
      refine j_iconst 15 C (x := nI 1) dX2_hasNextColumn_14 rfl (by decide) ?_
      refine j_goto 19 C dX2_hasNextColumn_15 rfl ?_
      subst hz
      exact j_retI C X dX2_hasNextColumn_19 (bl_nar bl_1) ⟨rfl, rfl, rfl, rfl, bl_1⟩
theorem hasNext_nat {W S ns nc : Nat} {B : Nat → Option Nat} {σ : Nat → Nat → Int32} {N : Nat} (hG : GH W S ns nc N) {v y : Int32} (e : m_X2_hasNextColumn W S ns nc B σ v = y) (c : ¬ y = 0) : ∃ k : Nat, k < W - 1 ∧ v = nI k := by
  unfold m_X2_hasNextColumn at e
  have hW8 := hG.2.1
  have hW := hG.1
  by_cases h0 : v < 0
  · rw [if_pos h0] at e; exact absurd e.symm (by rw [nI_0]; exact c)
  rw [if_neg h0] at e
  by_cases h1 : nI W - nI 1 ≤ v
  · rw [if_pos h1] at e; exact absurd e.symm (by rw [nI_0]; exact c)
  obtain ⟨j, hj, rfl⟩ := nI_of h0
  rw [pk_sub (by omega)] at h1
  exact ⟨j, Nat.not_le.mp (fun q => h1 ((nI_leI (by omega) hj).mpr q)), rfl⟩
def m_X2_hasPlace (W S ns nc : Nat) (B : Nat → Option Nat) (σ : Nat → Nat → Int32) (surface : Int32) (column : Int32) : Int32 := ap (m_X2_hasSurface W S ns nc B σ surface) (fun (y2 : Int32) => (if y2 = 0 then nI 0 else ap (m_X2_hasColumn W S ns nc B σ column) (fun (y10 : Int32) => (if y10 = 0 then nI 0 else nI 1))))
abbrev rm_X2_hasPlace : Room := { frames := 1, cells := 0, slots := 0, locals := 21 }
set_option maxHeartbeats 4000000 in
set_option maxRecDepth 100000 in
theorem c_X2_hasPlace {l : Launch} {D : va_G} {K : Nat → ClassId} {W S ns nc N : Nat} {ad : Nat → Nat} {B : Nat → Option Nat} {σ : Nat → Nat → Int32} (hG : GH W S ns nc N) {surface : Int32} {column : Int32}  {z : Int32} (hz : m_X2_hasPlace W S ns nc B σ surface column = z)  : MC l yX2_hasPlace cX2_hasPlace 3 (some .boolean) rm_X2_hasPlace D (TY K) N ad (CT K W S ns nc ad B σ) [.ref (ad 1), .int surface, .int column] (BS (some (.int z)) N ad (CT K W S ns nc ad B σ) (bl z)) := by
  have hW := hG.1; have hW8 := hG.2.1; have hS := hG.2.2.1; have hS4 := hG.2.2.2.1; have hns := hG.2.2.2.2.1; have hnc := hG.2.2.2.2.2.1; have hWS := GH_ws hG
  refine MC.of (by decide) (Nat.le_of_ble_eq_true rfl) (fun p e s m args below meth c Q A H0 C X => ?_)
  replace C : Cx p s m args meth c cX2_hasPlace RX2 3 D (TY K) A H0 := C
  show J p l e rm_X2_hasPlace s m args below meth c Q D A H0 3 0 0 N ad (CT K W S ns nc ad B σ) 0 [(0, .ref (ad 1)), (1, .int surface), (2, .int column)] []
  unfold m_X2_hasPlace at hz
  refine j_aload_n 1 C dX2_hasPlace_0 rfl rfl 0 rfl ?_
  refine j_iload_n 2 C dX2_hasPlace_1 rfl rfl 1 rfl ?_
  obtain ⟨y2, e2, hz⟩ := ap_x hz
  refine s_V 5 C (As := [.int surface]) cv_X2_41 (c_X2_hasSurface (l := l) (D := D) (K := K) (ad := ad) hG  (hz := e2)) dX2_hasPlace_2 rfl 1 2 (GH_r hG (by decide)) rfl (CE_1 _) rfl rfl rfl rfl rfl rfl ⟨⟨Nat.le_of_ble_eq_true rfl, Nat.le_of_ble_eq_true rfl⟩, Nat.zero_le _, Nat.zero_le _⟩ (Nat.le_of_ble_eq_true rfl) (st' := [.int y2]) rfl (fun hE => ?_)
  have hbl2 : bl y2 := hE
  refine j_if_eq 20 8 C dX2_hasPlace_5 rfl rfl (fun c_5 => ?_) (fun c_5 => ?_)
  · replace hz := (if_pos c_5).symm.trans hz
    refine j_iconst 21 C (x := nI 0) dX2_hasPlace_20 rfl (by decide) ?_
    subst hz
    exact j_retI C X dX2_hasPlace_21 (bl_nar bl_0) ⟨rfl, rfl, rfl, rfl, bl_0⟩
  · replace hz := (if_neg c_5).symm.trans hz
    refine j_aload_n 9 C dX2_hasPlace_8 rfl rfl 0 rfl ?_
    refine j_iload_n 10 C dX2_hasPlace_9 rfl rfl 2 rfl ?_
    obtain ⟨y10, e10, hz⟩ := ap_x hz
    refine s_V 13 C (As := [.int column]) cv_X2_45 (c_X2_hasColumn (l := l) (D := D) (K := K) (ad := ad) hG  (hz := e10)) dX2_hasPlace_10 rfl 1 2 (GH_r hG (by decide)) rfl (CE_1 _) rfl rfl rfl rfl rfl rfl ⟨⟨Nat.le_of_ble_eq_true rfl, Nat.le_of_ble_eq_true rfl⟩, Nat.zero_le _, Nat.zero_le _⟩ (Nat.le_of_ble_eq_true rfl) (st' := [.int y10]) rfl (fun hE => ?_)
    have hbl10 : bl y10 := hE
    refine j_if_eq 20 16 C dX2_hasPlace_13 rfl rfl (fun c_13 => ?_) (fun c_13 => ?_)
    · replace hz := (if_pos c_13).symm.trans hz
      refine j_iconst 21 C (x := nI 0) dX2_hasPlace_20 rfl (by decide) ?_
      subst hz
      exact j_retI C X dX2_hasPlace_21 (bl_nar bl_0) ⟨rfl, rfl, rfl, rfl, bl_0⟩
    · replace hz := (if_neg c_13).symm.trans hz
      refine j_iconst 17 C (x := nI 1) dX2_hasPlace_16 rfl (by decide) ?_
      refine j_goto 21 C dX2_hasPlace_17 rfl ?_
      subst hz
      exact j_retI C X dX2_hasPlace_21 (bl_nar bl_1) ⟨rfl, rfl, rfl, rfl, bl_1⟩
theorem hasPlace_nat {W S ns nc : Nat} {B : Nat → Option Nat} {σ : Nat → Nat → Int32} {N : Nat} (hG : GH W S ns nc N) {u v y : Int32} (e : m_X2_hasPlace W S ns nc B σ u v = y) (c : ¬ y = 0) : ∃ k j : Nat, k < S ∧ j < W ∧ u = nI k ∧ v = nI j := by
  unfold m_X2_hasPlace at e
  obtain ⟨y1, e1, e⟩ := ap_x e
  by_cases h0 : y1 = 0
  · rw [if_pos h0] at e; exact absurd e.symm (by rw [nI_0]; exact c)
  rw [if_neg h0] at e
  obtain ⟨y2, e2, e⟩ := ap_x e
  by_cases h1 : y2 = 0
  · rw [if_pos h1] at e; exact absurd e.symm (by rw [nI_0]; exact c)
  obtain ⟨k, hk, ek⟩ := hasSurface_nat hG e1 h0
  obtain ⟨j, hj, ej⟩ := hasColumn_nat hG e2 h1
  exact ⟨k, j, hk, hj, ek, ej⟩
def m_X2_placeOf (W S ns nc : Nat) (B : Nat → Option Nat) (σ : Nat → Nat → Int32) (surface : Int32) (column : Int32) : Int32 := ((nI 1) + (surface * (nI W))) + column
abbrev rm_X2_placeOf : Room := { frames := 0, cells := 0, slots := 0, locals := 0 }
set_option maxHeartbeats 4000000 in
set_option maxRecDepth 100000 in
theorem c_X2_placeOf {l : Launch} {D : va_G} {K : Nat → ClassId} {W S ns nc N : Nat} {ad : Nat → Nat} {B : Nat → Option Nat} {σ : Nat → Nat → Int32} (hG : GH W S ns nc N) {surface : Int32} {column : Int32}  {z : Int32} (hz : m_X2_placeOf W S ns nc B σ surface column = z)  : MC l yX2_placeOf cX2_placeOf 3 (some .int) rm_X2_placeOf D (TY K) N ad (CT K W S ns nc ad B σ) [.ref (ad 1), .int surface, .int column] (BS (some (.int z)) N ad (CT K W S ns nc ad B σ) True) := by
  have hW := hG.1; have hW8 := hG.2.1; have hS := hG.2.2.1; have hS4 := hG.2.2.2.1; have hns := hG.2.2.2.2.1; have hnc := hG.2.2.2.2.2.1; have hWS := GH_ws hG
  refine MC.of (by decide) (Nat.le_of_ble_eq_true rfl) (fun p e s m args below meth c Q A H0 C X => ?_)
  replace C : Cx p s m args meth c cX2_placeOf RX2 3 D (TY K) A H0 := C
  show J p l e rm_X2_placeOf s m args below meth c Q D A H0 3 0 0 N ad (CT K W S ns nc ad B σ) 0 [(0, .ref (ad 1)), (1, .int surface), (2, .int column)] []
  unfold m_X2_placeOf at hz
  refine j_iconst 1 C (x := nI 1) dX2_placeOf_0 rfl (by decide) ?_
  refine j_iload_n 2 C dX2_placeOf_1 rfl rfl 1 rfl ?_
  refine j_aload_n 3 C dX2_placeOf_2 rfl rfl 0 rfl ?_
  refine k_get 6 C fl_X2_15 dX2_placeOf_3 rfl 1 (GH_r hG (by decide)) _ rfl (CE_1 _) (.int (nI W)) rfl ?_
  refine j_imul 7 C dX2_placeOf_6 rfl rfl ?_
  refine j_iadd 8 C dX2_placeOf_7 rfl rfl ?_
  refine j_iload_n 9 C dX2_placeOf_8 rfl rfl 2 rfl ?_
  refine j_iadd 10 C dX2_placeOf_9 rfl rfl ?_
  subst hz
  exact j_retI C X dX2_placeOf_10 rfl ⟨rfl, rfl, rfl, rfl, trivial⟩
def m_X2_places (W S ns nc : Nat) (B : Nat → Option Nat) (σ : Nat → Nat → Int32) : Int32 := (nI W) * (nI S)
abbrev rm_X2_places : Room := { frames := 0, cells := 0, slots := 0, locals := 0 }
set_option maxHeartbeats 4000000 in
set_option maxRecDepth 100000 in
theorem c_X2_places {l : Launch} {D : va_G} {K : Nat → ClassId} {W S ns nc N : Nat} {ad : Nat → Nat} {B : Nat → Option Nat} {σ : Nat → Nat → Int32} (hG : GH W S ns nc N)   {z : Int32} (hz : m_X2_places W S ns nc B σ = z)  : MC l yX2_places cX2_places 1 (some .int) rm_X2_places D (TY K) N ad (CT K W S ns nc ad B σ) [.ref (ad 1)] (BS (some (.int z)) N ad (CT K W S ns nc ad B σ) True) := by
  have hW := hG.1; have hW8 := hG.2.1; have hS := hG.2.2.1; have hS4 := hG.2.2.2.1; have hns := hG.2.2.2.2.1; have hnc := hG.2.2.2.2.2.1; have hWS := GH_ws hG
  refine MC.of (by decide) (Nat.le_of_ble_eq_true rfl) (fun p e s m args below meth c Q A H0 C X => ?_)
  replace C : Cx p s m args meth c cX2_places RX2 1 D (TY K) A H0 := C
  show J p l e rm_X2_places s m args below meth c Q D A H0 1 0 0 N ad (CT K W S ns nc ad B σ) 0 [(0, .ref (ad 1))] []
  unfold m_X2_places at hz
  refine j_aload_n 1 C dX2_places_0 rfl rfl 0 rfl ?_
  refine k_get 4 C fl_X2_15 dX2_places_1 rfl 1 (GH_r hG (by decide)) _ rfl (CE_1 _) (.int (nI W)) rfl ?_
  refine j_aload_n 5 C dX2_places_4 rfl rfl 0 rfl ?_
  refine k_get 8 C fl_X2_21 dX2_places_5 rfl 1 (GH_r hG (by decide)) _ rfl (CE_1 _) (.int (nI S)) rfl ?_
  refine j_imul 9 C dX2_places_8 rfl rfl ?_
  subst hz
  exact j_retI C X dX2_places_9 rfl ⟨rfl, rfl, rfl, rfl, trivial⟩
def m_X2_setThick (W S ns nc : Nat) (B : Nat → Option Nat) (σ : Nat → Nat → Int32) (surface : Int32) (from_ : Int32) (to_ : Int32) : (Nat → Int32) × (Nat → Int32) := ap (m_X2_hasSurface W S ns nc B σ surface) (fun (y2 : Int32) => (if y2 = 0 then ((σ 2), (σ 3)) else ((upd (σ 2) (surface).toNatClampNeg from_), (upd (σ 3) (surface).toNatClampNeg to_))))
abbrev rm_X2_setThick : Room := { frames := 1, cells := 0, slots := 0, locals := 21 }
set_option maxHeartbeats 4000000 in
set_option maxRecDepth 100000 in
theorem c_X2_setThick {l : Launch} {D : va_G} {K : Nat → ClassId} {W S ns nc N : Nat} {ad : Nat → Nat} {B : Nat → Option Nat} {σ : Nat → Nat → Int32} (hG : GH W S ns nc N) {surface : Int32} {from_ : Int32} {to_ : Int32}  {z : (Nat → Int32) × (Nat → Int32)} (hz : m_X2_setThick W S ns nc B σ surface from_ to_ = z)  : MC l yX2_setThick cX2_setThick 4 none rm_X2_setThick D (TY K) N ad (CT K W S ns nc ad B σ) [.ref (ad 1), .int surface, .int from_, .int to_] (BS none N ad (CT K W S ns nc ad B (sA (sA σ 2 z.1) 3 z.2)) True) := by
  have hW := hG.1; have hW8 := hG.2.1; have hS := hG.2.2.1; have hS4 := hG.2.2.2.1; have hns := hG.2.2.2.2.1; have hnc := hG.2.2.2.2.2.1; have hWS := GH_ws hG
  refine MC.of (by decide) (Nat.le_of_ble_eq_true rfl) (fun p e s m args below meth c Q A H0 C X => ?_)
  replace C : Cx p s m args meth c cX2_setThick RX2 4 D (TY K) A H0 := C
  show J p l e rm_X2_setThick s m args below meth c Q D A H0 4 0 0 N ad (CT K W S ns nc ad B σ) 0 [(0, .ref (ad 1)), (1, .int surface), (2, .int from_), (3, .int to_)] []
  unfold m_X2_setThick at hz
  refine j_aload_n 1 C dX2_setThick_0 rfl rfl 0 rfl ?_
  refine j_iload_n 2 C dX2_setThick_1 rfl rfl 1 rfl ?_
  obtain ⟨y2, e2, hz⟩ := ap_x hz
  refine s_V 5 C (As := [.int surface]) cv_X2_41 (c_X2_hasSurface (l := l) (D := D) (K := K) (ad := ad) hG  (hz := e2)) dX2_setThick_2 rfl 1 2 (GH_r hG (by decide)) rfl (CE_1 _) rfl rfl rfl rfl rfl rfl ⟨⟨Nat.le_of_ble_eq_true rfl, Nat.le_of_ble_eq_true rfl⟩, Nat.zero_le _, Nat.zero_le _⟩ (Nat.le_of_ble_eq_true rfl) (st' := [.int y2]) rfl (fun hE => ?_)
  have hbl2 : bl y2 := hE
  refine j_if_eq 22 8 C dX2_setThick_5 rfl rfl (fun c_5 => ?_) (fun c_5 => ?_)
  · replace hz := (if_pos c_5).symm.trans hz
    subst hz
    exact j_retV C X dX2_setThick_22 ⟨rfl, rfl, rfl, (CT_x (by intro a; (by_cases h0 : a = 2; (· (first | (subst h0; simp [sA]; done) | (rw [h0]; simp [sA]; done))); by_cases h1 : a = 3; (· (first | (subst h1; simp [sA]; done) | (rw [h1]; simp [sA]; done))); simp [sA, h0, h1]))), trivial⟩
  · replace hz := (if_neg c_5).symm.trans hz
    obtain ⟨ks, hks, eks⟩ := hasSurface_nat hG e2 c_5
    refine j_aload_n 9 C dX2_setThick_8 rfl rfl 0 rfl ?_
    refine k_get 12 C fl_X2_24 dX2_setThick_9 rfl 1 (GH_r hG (by decide)) _ rfl (CE_1 _) (.ref (ad 2)) rfl ?_
    refine j_iload_n 13 C dX2_setThick_12 rfl rfl 1 rfl ?_
    refine j_iload_n 14 C dX2_setThick_13 rfl rfl 2 rfl ?_
    refine k_iast 15 C dX2_setThick_14 rfl 2 (GH_r hG (by decide)) (σ 2) rfl CE_2 (vp_inE (n := ks) (by simp only [eks, nI_add, pk_mul]) (by omega) (by omega)) (sA σ 2 (upd (σ 2) (surface).toNatClampNeg from_)) rfl ?_
    refine j_aload_n 16 C dX2_setThick_15 rfl rfl 0 rfl ?_
    refine k_get 19 C fl_X2_28 dX2_setThick_16 rfl 1 (GH_r hG (by decide)) _ rfl (CE_1 _) (.ref (ad 3)) rfl ?_
    refine j_iload_n 20 C dX2_setThick_19 rfl rfl 1 rfl ?_
    refine j_iload_n 21 C dX2_setThick_20 rfl rfl 3 rfl ?_
    refine k_iast 22 C dX2_setThick_21 rfl 3 (GH_r hG (by decide)) (σ 3) (by rfl) CE_3 (vp_inE (n := ks) (by simp only [eks, nI_add, pk_mul]) (by omega) (by omega)) (sA (sA σ 2 (upd (σ 2) (surface).toNatClampNeg from_)) 3 (upd (σ 3) (surface).toNatClampNeg to_)) rfl ?_
    subst hz
    exact j_retV C X dX2_setThick_22 ⟨rfl, rfl, rfl, rfl, trivial⟩
def m_X2_setSteep (W S ns nc : Nat) (B : Nat → Option Nat) (σ : Nat → Nat → Int32) (surface : Int32) (most : Int32) : (Nat → Int32) := ap (m_X2_hasSurface W S ns nc B σ surface) (fun (y2 : Int32) => (if y2 = 0 then (σ 4) else (upd (σ 4) (surface).toNatClampNeg most)))
abbrev rm_X2_setSteep : Room := { frames := 1, cells := 0, slots := 0, locals := 21 }
set_option maxHeartbeats 4000000 in
set_option maxRecDepth 100000 in
theorem c_X2_setSteep {l : Launch} {D : va_G} {K : Nat → ClassId} {W S ns nc N : Nat} {ad : Nat → Nat} {B : Nat → Option Nat} {σ : Nat → Nat → Int32} (hG : GH W S ns nc N) {surface : Int32} {most : Int32}  {z : (Nat → Int32)} (hz : m_X2_setSteep W S ns nc B σ surface most = z)  : MC l yX2_setSteep cX2_setSteep 3 none rm_X2_setSteep D (TY K) N ad (CT K W S ns nc ad B σ) [.ref (ad 1), .int surface, .int most] (BS none N ad (CT K W S ns nc ad B (sA σ 4 z)) True) := by
  have hW := hG.1; have hW8 := hG.2.1; have hS := hG.2.2.1; have hS4 := hG.2.2.2.1; have hns := hG.2.2.2.2.1; have hnc := hG.2.2.2.2.2.1; have hWS := GH_ws hG
  refine MC.of (by decide) (Nat.le_of_ble_eq_true rfl) (fun p e s m args below meth c Q A H0 C X => ?_)
  replace C : Cx p s m args meth c cX2_setSteep RX2 3 D (TY K) A H0 := C
  show J p l e rm_X2_setSteep s m args below meth c Q D A H0 3 0 0 N ad (CT K W S ns nc ad B σ) 0 [(0, .ref (ad 1)), (1, .int surface), (2, .int most)] []
  unfold m_X2_setSteep at hz
  refine j_aload_n 1 C dX2_setSteep_0 rfl rfl 0 rfl ?_
  refine j_iload_n 2 C dX2_setSteep_1 rfl rfl 1 rfl ?_
  obtain ⟨y2, e2, hz⟩ := ap_x hz
  refine s_V 5 C (As := [.int surface]) cv_X2_41 (c_X2_hasSurface (l := l) (D := D) (K := K) (ad := ad) hG  (hz := e2)) dX2_setSteep_2 rfl 1 2 (GH_r hG (by decide)) rfl (CE_1 _) rfl rfl rfl rfl rfl rfl ⟨⟨Nat.le_of_ble_eq_true rfl, Nat.le_of_ble_eq_true rfl⟩, Nat.zero_le _, Nat.zero_le _⟩ (Nat.le_of_ble_eq_true rfl) (st' := [.int y2]) rfl (fun hE => ?_)
  have hbl2 : bl y2 := hE
  refine j_if_eq 15 8 C dX2_setSteep_5 rfl rfl (fun c_5 => ?_) (fun c_5 => ?_)
  · replace hz := (if_pos c_5).symm.trans hz
    subst hz
    exact j_retV C X dX2_setSteep_15 ⟨rfl, rfl, rfl, (congrArg _ sA_id.symm), trivial⟩
  · replace hz := (if_neg c_5).symm.trans hz
    obtain ⟨ks, hks, eks⟩ := hasSurface_nat hG e2 c_5
    refine j_aload_n 9 C dX2_setSteep_8 rfl rfl 0 rfl ?_
    refine k_get 12 C fl_X2_31 dX2_setSteep_9 rfl 1 (GH_r hG (by decide)) _ rfl (CE_1 _) (.ref (ad 4)) rfl ?_
    refine j_iload_n 13 C dX2_setSteep_12 rfl rfl 1 rfl ?_
    refine j_iload_n 14 C dX2_setSteep_13 rfl rfl 2 rfl ?_
    refine k_iast 15 C dX2_setSteep_14 rfl 4 (GH_r hG (by decide)) (σ 4) rfl CE_4 (vp_inE (n := ks) (by simp only [eks, nI_add, pk_mul]) (by omega) (by omega)) (sA σ 4 (upd (σ 4) (surface).toNatClampNeg most)) rfl ?_
    subst hz
    exact j_retV C X dX2_setSteep_15 ⟨rfl, rfl, rfl, rfl, trivial⟩
def m_X2_breakAt (W S ns nc : Nat) (B : Nat → Option Nat) (σ : Nat → Nat → Int32) (column : Int32) (thrown : Int32) : (Nat → Int32) × (Nat → Int32) := ap (m_X2_hasNextColumn W S ns nc B σ column) (fun (y2 : Int32) => (if y2 = 0 then ((σ 5), (σ 6)) else ((upd (σ 5) (column).toNatClampNeg thrown), (upd (σ 6) (column).toNatClampNeg (nI 1)))))
abbrev rm_X2_breakAt : Room := { frames := 1, cells := 0, slots := 0, locals := 21 }
set_option maxHeartbeats 4000000 in
set_option maxRecDepth 100000 in
theorem c_X2_breakAt {l : Launch} {D : va_G} {K : Nat → ClassId} {W S ns nc N : Nat} {ad : Nat → Nat} {B : Nat → Option Nat} {σ : Nat → Nat → Int32} (hG : GH W S ns nc N) {column : Int32} {thrown : Int32}  {z : (Nat → Int32) × (Nat → Int32)} (hz : m_X2_breakAt W S ns nc B σ column thrown = z)  : MC l yX2_breakAt cX2_breakAt 3 none rm_X2_breakAt D (TY K) N ad (CT K W S ns nc ad B σ) [.ref (ad 1), .int column, .int thrown] (BS none N ad (CT K W S ns nc ad B (sA (sA σ 5 z.1) 6 z.2)) True) := by
  have hW := hG.1; have hW8 := hG.2.1; have hS := hG.2.2.1; have hS4 := hG.2.2.2.1; have hns := hG.2.2.2.2.1; have hnc := hG.2.2.2.2.2.1; have hWS := GH_ws hG
  refine MC.of (by decide) (Nat.le_of_ble_eq_true rfl) (fun p e s m args below meth c Q A H0 C X => ?_)
  replace C : Cx p s m args meth c cX2_breakAt RX2 3 D (TY K) A H0 := C
  show J p l e rm_X2_breakAt s m args below meth c Q D A H0 3 0 0 N ad (CT K W S ns nc ad B σ) 0 [(0, .ref (ad 1)), (1, .int column), (2, .int thrown)] []
  unfold m_X2_breakAt at hz
  refine j_aload_n 1 C dX2_breakAt_0 rfl rfl 0 rfl ?_
  refine j_iload_n 2 C dX2_breakAt_1 rfl rfl 1 rfl ?_
  obtain ⟨y2, e2, hz⟩ := ap_x hz
  refine s_V 5 C (As := [.int column]) cv_X2_50 (c_X2_hasNextColumn (l := l) (D := D) (K := K) (ad := ad) hG  (hz := e2)) dX2_breakAt_2 rfl 1 2 (GH_r hG (by decide)) rfl (CE_1 _) rfl rfl rfl rfl rfl rfl ⟨⟨Nat.le_of_ble_eq_true rfl, Nat.le_of_ble_eq_true rfl⟩, Nat.zero_le _, Nat.zero_le _⟩ (Nat.le_of_ble_eq_true rfl) (st' := [.int y2]) rfl (fun hE => ?_)
  have hbl2 : bl y2 := hE
  refine j_if_eq 22 8 C dX2_breakAt_5 rfl rfl (fun c_5 => ?_) (fun c_5 => ?_)
  · replace hz := (if_pos c_5).symm.trans hz
    subst hz
    exact j_retV C X dX2_breakAt_22 ⟨rfl, rfl, rfl, (CT_x (by intro a; (by_cases h0 : a = 5; (· (first | (subst h0; simp [sA]; done) | (rw [h0]; simp [sA]; done))); by_cases h1 : a = 6; (· (first | (subst h1; simp [sA]; done) | (rw [h1]; simp [sA]; done))); simp [sA, h0, h1]))), trivial⟩
  · replace hz := (if_neg c_5).symm.trans hz
    obtain ⟨kc, hkc, ekc⟩ := hasNext_nat hG e2 c_5
    refine j_aload_n 9 C dX2_breakAt_8 rfl rfl 0 rfl ?_
    refine k_get 12 C fl_X2_34 dX2_breakAt_9 rfl 1 (GH_r hG (by decide)) _ rfl (CE_1 _) (.ref (ad 5)) rfl ?_
    refine j_iload_n 13 C dX2_breakAt_12 rfl rfl 1 rfl ?_
    refine j_iload_n 14 C dX2_breakAt_13 rfl rfl 2 rfl ?_
    refine k_iast 15 C dX2_breakAt_14 rfl 5 (GH_r hG (by decide)) (σ 5) rfl CE_5 (vp_inE (n := kc) (by simp only [ekc, nI_add, pk_mul]) (by omega) (by omega)) (sA σ 5 (upd (σ 5) (column).toNatClampNeg thrown)) rfl ?_
    refine j_aload_n 16 C dX2_breakAt_15 rfl rfl 0 rfl ?_
    refine k_get 19 C fl_X2_37 dX2_breakAt_16 rfl 1 (GH_r hG (by decide)) _ rfl (CE_1 _) (.ref (ad 6)) rfl ?_
    refine j_iload_n 20 C dX2_breakAt_19 rfl rfl 1 rfl ?_
    refine j_iconst 21 C (x := nI 1) dX2_breakAt_20 rfl (by decide) ?_
    refine k_zast 22 C dX2_breakAt_21 rfl 6 (GH_r hG (by decide)) (σ 6) (by rfl) CE_6 (vp_inE (n := kc) (by simp only [ekc, nI_add, pk_mul]) (by omega) (by omega)) bl_1 (sA (sA σ 5 (upd (σ 5) (column).toNatClampNeg thrown)) 6 (upd (σ 6) (column).toNatClampNeg (nI 1))) rfl ?_
    subst hz
    exact j_retV C X dX2_breakAt_22 ⟨rfl, rfl, rfl, rfl, trivial⟩
def m_X2_mendAt (W S ns nc : Nat) (B : Nat → Option Nat) (σ : Nat → Nat → Int32) (column : Int32) : (Nat → Int32) × (Nat → Int32) := ap (m_X2_hasNextColumn W S ns nc B σ column) (fun (y2 : Int32) => (if y2 = 0 then ((σ 5), (σ 6)) else ((upd (σ 5) (column).toNatClampNeg (nI 0)), (upd (σ 6) (column).toNatClampNeg (nI 0)))))
abbrev rm_X2_mendAt : Room := { frames := 1, cells := 0, slots := 0, locals := 21 }
set_option maxHeartbeats 4000000 in
set_option maxRecDepth 100000 in
theorem c_X2_mendAt {l : Launch} {D : va_G} {K : Nat → ClassId} {W S ns nc N : Nat} {ad : Nat → Nat} {B : Nat → Option Nat} {σ : Nat → Nat → Int32} (hG : GH W S ns nc N) {column : Int32}  {z : (Nat → Int32) × (Nat → Int32)} (hz : m_X2_mendAt W S ns nc B σ column = z)  : MC l yX2_mendAt cX2_mendAt 2 none rm_X2_mendAt D (TY K) N ad (CT K W S ns nc ad B σ) [.ref (ad 1), .int column] (BS none N ad (CT K W S ns nc ad B (sA (sA σ 5 z.1) 6 z.2)) True) := by
  have hW := hG.1; have hW8 := hG.2.1; have hS := hG.2.2.1; have hS4 := hG.2.2.2.1; have hns := hG.2.2.2.2.1; have hnc := hG.2.2.2.2.2.1; have hWS := GH_ws hG
  refine MC.of (by decide) (Nat.le_of_ble_eq_true rfl) (fun p e s m args below meth c Q A H0 C X => ?_)
  replace C : Cx p s m args meth c cX2_mendAt RX2 2 D (TY K) A H0 := C
  show J p l e rm_X2_mendAt s m args below meth c Q D A H0 2 0 0 N ad (CT K W S ns nc ad B σ) 0 [(0, .ref (ad 1)), (1, .int column)] []
  unfold m_X2_mendAt at hz
  refine j_aload_n 1 C dX2_mendAt_0 rfl rfl 0 rfl ?_
  refine j_iload_n 2 C dX2_mendAt_1 rfl rfl 1 rfl ?_
  obtain ⟨y2, e2, hz⟩ := ap_x hz
  refine s_V 5 C (As := [.int column]) cv_X2_50 (c_X2_hasNextColumn (l := l) (D := D) (K := K) (ad := ad) hG  (hz := e2)) dX2_mendAt_2 rfl 1 2 (GH_r hG (by decide)) rfl (CE_1 _) rfl rfl rfl rfl rfl rfl ⟨⟨Nat.le_of_ble_eq_true rfl, Nat.le_of_ble_eq_true rfl⟩, Nat.zero_le _, Nat.zero_le _⟩ (Nat.le_of_ble_eq_true rfl) (st' := [.int y2]) rfl (fun hE => ?_)
  have hbl2 : bl y2 := hE
  refine j_if_eq 22 8 C dX2_mendAt_5 rfl rfl (fun c_5 => ?_) (fun c_5 => ?_)
  · replace hz := (if_pos c_5).symm.trans hz
    subst hz
    exact j_retV C X dX2_mendAt_22 ⟨rfl, rfl, rfl, (CT_x (by intro a; (by_cases h0 : a = 5; (· (first | (subst h0; simp [sA]; done) | (rw [h0]; simp [sA]; done))); by_cases h1 : a = 6; (· (first | (subst h1; simp [sA]; done) | (rw [h1]; simp [sA]; done))); simp [sA, h0, h1]))), trivial⟩
  · replace hz := (if_neg c_5).symm.trans hz
    obtain ⟨kc, hkc, ekc⟩ := hasNext_nat hG e2 c_5
    refine j_aload_n 9 C dX2_mendAt_8 rfl rfl 0 rfl ?_
    refine k_get 12 C fl_X2_34 dX2_mendAt_9 rfl 1 (GH_r hG (by decide)) _ rfl (CE_1 _) (.ref (ad 5)) rfl ?_
    refine j_iload_n 13 C dX2_mendAt_12 rfl rfl 1 rfl ?_
    refine j_iconst 14 C (x := nI 0) dX2_mendAt_13 rfl (by decide) ?_
    refine k_iast 15 C dX2_mendAt_14 rfl 5 (GH_r hG (by decide)) (σ 5) rfl CE_5 (vp_inE (n := kc) (by simp only [ekc, nI_add, pk_mul]) (by omega) (by omega)) (sA σ 5 (upd (σ 5) (column).toNatClampNeg (nI 0))) rfl ?_
    refine j_aload_n 16 C dX2_mendAt_15 rfl rfl 0 rfl ?_
    refine k_get 19 C fl_X2_37 dX2_mendAt_16 rfl 1 (GH_r hG (by decide)) _ rfl (CE_1 _) (.ref (ad 6)) rfl ?_
    refine j_iload_n 20 C dX2_mendAt_19 rfl rfl 1 rfl ?_
    refine j_iconst 21 C (x := nI 0) dX2_mendAt_20 rfl (by decide) ?_
    refine k_zast 22 C dX2_mendAt_21 rfl 6 (GH_r hG (by decide)) (σ 6) (by rfl) CE_6 (vp_inE (n := kc) (by simp only [ekc, nI_add, pk_mul]) (by omega) (by omega)) bl_0 (sA (sA σ 5 (upd (σ 5) (column).toNatClampNeg (nI 0))) 6 (upd (σ 6) (column).toNatClampNeg (nI 0))) rfl ?_
    subst hz
    exact j_retV C X dX2_mendAt_22 ⟨rfl, rfl, rfl, rfl, trivial⟩
def m_X2_isBroken (W S ns nc : Nat) (B : Nat → Option Nat) (σ : Nat → Nat → Int32) (column : Int32) : Int32 := ap (m_X2_hasNextColumn W S ns nc B σ column) (fun (y2 : Int32) => (if y2 = 0 then nI 0 else (if ((σ 6) (column).toNatClampNeg) = 0 then nI 0 else nI 1)))
abbrev rm_X2_isBroken : Room := { frames := 1, cells := 0, slots := 0, locals := 21 }
set_option maxHeartbeats 4000000 in
set_option maxRecDepth 100000 in
theorem c_X2_isBroken {l : Launch} {D : va_G} {K : Nat → ClassId} {W S ns nc N : Nat} {ad : Nat → Nat} {B : Nat → Option Nat} {σ : Nat → Nat → Int32} (hG : GH W S ns nc N) {column : Int32}  {z : Int32} (hz : m_X2_isBroken W S ns nc B σ column = z)  : MC l yX2_isBroken cX2_isBroken 2 (some .boolean) rm_X2_isBroken D (TY K) N ad (CT K W S ns nc ad B σ) [.ref (ad 1), .int column] (BS (some (.int z)) N ad (CT K W S ns nc ad B σ) (bl z)) := by
  have hW := hG.1; have hW8 := hG.2.1; have hS := hG.2.2.1; have hS4 := hG.2.2.2.1; have hns := hG.2.2.2.2.1; have hnc := hG.2.2.2.2.2.1; have hWS := GH_ws hG
  refine MC.of (by decide) (Nat.le_of_ble_eq_true rfl) (fun p e s m args below meth c Q A H0 C X => ?_)
  replace C : Cx p s m args meth c cX2_isBroken RX2 2 D (TY K) A H0 := C
  show J p l e rm_X2_isBroken s m args below meth c Q D A H0 2 0 0 N ad (CT K W S ns nc ad B σ) 0 [(0, .ref (ad 1)), (1, .int column)] []
  unfold m_X2_isBroken at hz
  refine j_aload_n 1 C dX2_isBroken_0 rfl rfl 0 rfl ?_
  refine j_iload_n 2 C dX2_isBroken_1 rfl rfl 1 rfl ?_
  obtain ⟨y2, e2, hz⟩ := ap_x hz
  refine s_V 5 C (As := [.int column]) cv_X2_50 (c_X2_hasNextColumn (l := l) (D := D) (K := K) (ad := ad) hG  (hz := e2)) dX2_isBroken_2 rfl 1 2 (GH_r hG (by decide)) rfl (CE_1 _) rfl rfl rfl rfl rfl rfl ⟨⟨Nat.le_of_ble_eq_true rfl, Nat.le_of_ble_eq_true rfl⟩, Nat.zero_le _, Nat.zero_le _⟩ (Nat.le_of_ble_eq_true rfl) (st' := [.int y2]) rfl (fun hE => ?_)
  have hbl2 : bl y2 := hE
  refine j_if_eq 21 8 C dX2_isBroken_5 rfl rfl (fun c_5 => ?_) (fun c_5 => ?_)
  · replace hz := (if_pos c_5).symm.trans hz
    refine j_iconst 22 C (x := nI 0) dX2_isBroken_21 rfl (by decide) ?_
    subst hz
    exact j_retI C X dX2_isBroken_22 (bl_nar bl_0) ⟨rfl, rfl, rfl, rfl, bl_0⟩
  · replace hz := (if_neg c_5).symm.trans hz
    obtain ⟨kc, hkc, ekc⟩ := hasNext_nat hG e2 c_5
    refine j_aload_n 9 C dX2_isBroken_8 rfl rfl 0 rfl ?_
    refine k_get 12 C fl_X2_37 dX2_isBroken_9 rfl 1 (GH_r hG (by decide)) _ rfl (CE_1 _) (.ref (ad 6)) rfl ?_
    refine j_iload_n 13 C dX2_isBroken_12 rfl rfl 1 rfl ?_
    refine k_zald 14 C dX2_isBroken_13 rfl 6 (GH_r hG (by decide)) (σ 6) rfl CE_6 (vp_inE (n := kc) (by simp only [ekc, nI_add, pk_mul]) (by omega) (by omega)) ?_
    refine j_if_eq 21 17 C dX2_isBroken_14 rfl rfl (fun c_14 => ?_) (fun c_14 => ?_)
    · replace hz := (if_pos c_14).symm.trans hz
      refine j_iconst 22 C (x := nI 0) dX2_isBroken_21 rfl (by decide) ?_
      subst hz
      exact j_retI C X dX2_isBroken_22 (bl_nar bl_0) ⟨rfl, rfl, rfl, rfl, bl_0⟩
    · replace hz := (if_neg c_14).symm.trans hz
      refine j_iconst 18 C (x := nI 1) dX2_isBroken_17 rfl (by decide) ?_
      refine j_goto 22 C dX2_isBroken_18 rfl ?_
      subst hz
      exact j_retI C X dX2_isBroken_22 (bl_nar bl_1) ⟨rfl, rfl, rfl, rfl, bl_1⟩
def m_X2_faults_L4 (W S ns nc : Nat) (B : Nat → Option Nat) (σ : Nat → Nat → Int32) (i4 : Nat) (c4 : Int32) : Int32 := ap (m_X2_isBroken W S ns nc B σ (nI i4)) (fun (y14 : Int32) => (if y14 = 0 then c4 else c4 + nI 1))
def m_X2_faults (W S ns nc : Nat) (B : Nat → Option Nat) (σ : Nat → Nat → Int32) : Int32 := ap (lp (m_X2_faults_L4 W S ns nc B σ) (W - 0) 0 (nI 0)) (fun (z4 : Int32) => z4)
abbrev rm_X2_faults : Room := { frames := 2, cells := 0, slots := 0, locals := 42 }
set_option maxHeartbeats 4000000 in
set_option maxRecDepth 100000 in
theorem c_X2_faults {l : Launch} {D : va_G} {K : Nat → ClassId} {W S ns nc N : Nat} {ad : Nat → Nat} {B : Nat → Option Nat} {σ : Nat → Nat → Int32} (hG : GH W S ns nc N)   {z : Int32} (hz : m_X2_faults W S ns nc B σ = z)  : MC l yX2_faults cX2_faults 3 (some .int) rm_X2_faults D (TY K) N ad (CT K W S ns nc ad B σ) [.ref (ad 1)] (BS (some (.int z)) N ad (CT K W S ns nc ad B σ) True) := by
  have hW := hG.1; have hW8 := hG.2.1; have hS := hG.2.2.1; have hS4 := hG.2.2.2.1; have hns := hG.2.2.2.2.1; have hnc := hG.2.2.2.2.2.1; have hWS := GH_ws hG
  refine MC.of (by decide) (Nat.le_of_ble_eq_true rfl) (fun p e s m args below meth c Q A H0 C X => ?_)
  replace C : Cx p s m args meth c cX2_faults RX2 3 D (TY K) A H0 := C
  show J p l e rm_X2_faults s m args below meth c Q D A H0 3 0 0 N ad (CT K W S ns nc ad B σ) 0 [(0, .ref (ad 1))] []
  unfold m_X2_faults at hz
  refine j_iconst 1 C (x := nI 0) dX2_faults_0 rfl (by decide) ?_
  refine j_istore_n 2 C [(1, .int (nI 0)), (0, .ref (ad 1))] dX2_faults_1 rfl rfl (by decide) rfl ?_
  refine j_iconst 3 C (x := nI 0) dX2_faults_2 rfl (by decide) ?_
  refine j_istore_n 4 C [(2, .int (nI 0)), (1, .int (nI 0)), (0, .ref (ad 1))] dX2_faults_3 rfl rfl (by decide) rfl ?_
  skip
  obtain ⟨z4, ez4, hz⟩ := ap_x hz
  have L4 : ∀ (n4 i4 : Nat) (c4 : Int32), 0 ≤ i4 → i4 < 5000 → n4 = W - i4 → lp (m_X2_faults_L4 W S ns nc B σ) n4 i4 c4 = z4 → J p l e rm_X2_faults s m args below meth c Q D A H0 3 0 0 N ad (CT K W S ns nc ad B σ) 4 [(0, .ref (ad 1)), (1, .int c4), (2, .int (nI i4))] [] := by
    intro n4
    induction n4 with
    | zero =>
      intro i4 c4 hl4 hi4 hn4 hz4
      refine j_iload_n 5 C dX2_faults_4 rfl rfl 2 rfl ?_
      refine j_aload_n 6 C dX2_faults_5 rfl rfl 0 rfl ?_
      refine k_get 9 C fl_X2_15 dX2_faults_6 rfl 1 (GH_r hG (by decide)) _ rfl (CE_1 _) (.int (nI W)) rfl ?_
      refine j_ic_ge 29 12 C dX2_faults_9 rfl rfl (fun c_9 => ?_) (fun c_9 => ?_)
      · skip
        have n_9 := nat_le (a := W) (b := i4) rfl rfl (by omega) (by omega) c_9
        have hq4 : c4 = z4 := hz4
        subst hq4
        refine j_iload_n 30 C dX2_faults_29 rfl rfl 1 rfl ?_
        subst hz
        exact j_retI C X dX2_faults_30 rfl ⟨rfl, rfl, rfl, rfl, trivial⟩
      · exfalso
        have n_9 := nat_nle (a := W) (b := i4) rfl rfl (by omega) (by omega) c_9
        omega
    | succ n4 ih4 =>
      intro i4 c4 hl4 hi4 hn4 hz4
      refine j_iload_n 5 C dX2_faults_4 rfl rfl 2 rfl ?_
      refine j_aload_n 6 C dX2_faults_5 rfl rfl 0 rfl ?_
      refine k_get 9 C fl_X2_15 dX2_faults_6 rfl 1 (GH_r hG (by decide)) _ rfl (CE_1 _) (.int (nI W)) rfl ?_
      refine j_ic_ge 29 12 C dX2_faults_9 rfl rfl (fun c_9 => ?_) (fun c_9 => ?_)
      · exfalso
        have n_9 := nat_le (a := W) (b := i4) rfl rfl (by omega) (by omega) c_9
        omega
      · skip
        have n_9 := nat_nle (a := W) (b := i4) rfl rfl (by omega) (by omega) c_9
        obtain ⟨w4, hw4, hz4⟩ := lp_s hz4
        have ho4 := hz
        clear hz
        have hz := hw4
        clear hw4
        unfold m_X2_faults_L4 at hz
        refine j_aload_n 13 C dX2_faults_12 rfl rfl 0 rfl ?_
        refine j_iload_n 14 C dX2_faults_13 rfl rfl 2 rfl ?_
        obtain ⟨y14, e14, hz⟩ := ap_x hz
        refine s_V 17 C (As := [.int (nI i4)]) cv_X2_53 (c_X2_isBroken (l := l) (D := D) (K := K) (ad := ad) hG  (hz := e14)) dX2_faults_14 rfl 1 2 (GH_r hG (by decide)) rfl (CE_1 _) rfl rfl rfl rfl rfl rfl ⟨⟨Nat.le_of_ble_eq_true rfl, Nat.le_of_ble_eq_true rfl⟩, Nat.zero_le _, Nat.zero_le _⟩ (Nat.le_of_ble_eq_true rfl) (st' := [.int y14]) rfl (fun hE => ?_)
        have hbl14 : bl y14 := hE
        refine j_if_eq 23 20 C dX2_faults_17 rfl rfl (fun c_17 => ?_) (fun c_17 => ?_)
        · replace hz := (if_pos c_17).symm.trans hz
          refine j_iinc 26 C (x' := nI (i4 + 1)) [(2, .int (nI (i4 + 1))), (0, .ref (ad 1)), (1, .int c4)] dX2_faults_23 rfl 2 rfl (by rw [show Int32.ofInt 1 = nI 1 from by decide, nI_add]) (by decide) rfl ?_
          refine j_goto 4 C dX2_faults_26 rfl ?_
          subst hz
          refine j_lv [1, 2, 0] (lv' := [(0, .ref (ad 1)), (1, .int c4), (2, .int (nI (i4 + 1)))]) rfl ?_
          have hz := ho4
          exact ih4 (i4 + 1) c4 (by omega) (by omega) (by omega) hz4
        · replace hz := (if_neg c_17).symm.trans hz
          refine j_iinc 23 C (x' := c4 + nI 1) [(1, .int (c4 + nI 1)), (0, .ref (ad 1)), (2, .int (nI i4))] dX2_faults_20 rfl 1 rfl (by rw [show Int32.ofInt 1 = nI 1 from by decide]) (by decide) rfl ?_
          refine j_iinc 26 C (x' := nI (i4 + 1)) [(2, .int (nI (i4 + 1))), (1, .int (c4 + nI 1)), (0, .ref (ad 1))] dX2_faults_23 rfl 2 rfl (by rw [show Int32.ofInt 1 = nI 1 from by decide, nI_add]) (by decide) rfl ?_
          refine j_goto 4 C dX2_faults_26 rfl ?_
          subst hz
          refine j_lv [2, 1, 0] (lv' := [(0, .ref (ad 1)), (1, .int (c4 + nI 1)), (2, .int (nI (i4 + 1)))]) rfl ?_
          have hz := ho4
          exact ih4 (i4 + 1) (c4 + nI 1) (by omega) (by omega) (by omega) hz4
  refine j_lv [2, 1, 0] (lv' := [(0, .ref (ad 1)), (1, .int (nI 0)), (2, .int (nI 0))]) rfl ?_
  exact L4 _ 0 (nI 0) (by omega) (by omega) rfl ez4
def m_X2_bindThick (W S ns nc : Nat) (B : Nat → Option Nat) (σ : Nat → Nat → Int32) (g : Nat) (surface : Int32) (column : Int32) : Int32 × (Nat → Int32) := ap (m_X2_hasPlace W S ns nc B σ surface column) (fun (y3 : Int32) => (if y3 = 0 then (nI 1, (σ (12 + 2 * g))) else ap (m_X2_hasSurface W S ns nc B σ (surface + (nI 1))) (fun (y13 : Int32) => (if y13 = 0 then (nI 1, (σ (12 + 2 * g))) else ap (m_X2_placeOf W S ns nc B σ surface column) (fun (y24 : Int32) => ap (m_X2_placeOf W S ns nc B σ (surface + (nI 1)) column) (fun (y34 : Int32) => ap (m_X1_hold W S ns nc B σ g y24 y34 ((σ 2) surface.toNatClampNeg) ((σ 3) surface.toNatClampNeg)) (fun (y56 : Int32 × (Nat → Int32)) => (y56.1, y56.2))))))))
abbrev rm_X2_bindThick : Room := { frames := 3, cells := 0, slots := 0, locals := 91 }
set_option maxHeartbeats 4000000 in
set_option maxRecDepth 100000 in
theorem c_X2_bindThick {l : Launch} {D : va_G} {K : Nat → ClassId} {W S ns nc N : Nat} {ad : Nat → Nat} {B : Nat → Option Nat} {σ : Nat → Nat → Int32} (hG : GH W S ns nc N) {g : Nat} {surface : Int32} {a_surface : Nat} {column : Int32} {a_column : Nat} (h_g : g < 12) (e_surface : surface = nI a_surface) (h_surface : a_surface < S) (e_column : column = nI a_column) (h_column : a_column < W) {z : Int32 × (Nat → Int32)} (hz : m_X2_bindThick W S ns nc B σ g surface column = z)  : MC l yX2_bindThick cX2_bindThick 6 (some .boolean) rm_X2_bindThick D (TY K) N ad (CT K W S ns nc ad B σ) [.ref (ad 1), .ref (ad (11 + 2 * g)), .int surface, .int column] (BS (some (.int z.1)) N ad (CT K W S ns nc ad B (sA σ (12 + 2 * g) z.2)) (bl z.1)) := by
  have hW := hG.1; have hW8 := hG.2.1; have hS := hG.2.2.1; have hS4 := hG.2.2.2.1; have hns := hG.2.2.2.2.1; have hnc := hG.2.2.2.2.2.1; have hWS := GH_ws hG
  subst e_surface
  subst e_column
  refine MC.of (by decide) (Nat.le_of_ble_eq_true rfl) (fun p e s m args below meth c Q A H0 C X => ?_)
  replace C : Cx p s m args meth c cX2_bindThick RX2 6 D (TY K) A H0 := C
  show J p l e rm_X2_bindThick s m args below meth c Q D A H0 6 0 0 N ad (CT K W S ns nc ad B σ) 0 [(0, .ref (ad 1)), (1, .ref (ad (11 + 2 * g))), (2, .int (nI a_surface)), (3, .int (nI a_column))] []
  unfold m_X2_bindThick at hz
  refine j_aload_n 1 C dX2_bindThick_0 rfl rfl 0 rfl ?_
  refine j_iload_n 2 C dX2_bindThick_1 rfl rfl 2 rfl ?_
  refine j_iload_n 3 C dX2_bindThick_2 rfl rfl 3 rfl ?_
  obtain ⟨y3, e3, hz⟩ := ap_x hz
  refine s_V 6 C (As := [.int (nI a_surface), .int (nI a_column)]) cv_X2_63 (c_X2_hasPlace (l := l) (D := D) (K := K) (ad := ad) hG  (hz := e3)) dX2_bindThick_3 rfl 1 2 (GH_r hG (by decide)) rfl (CE_1 _) rfl rfl rfl rfl rfl rfl ⟨⟨Nat.le_of_ble_eq_true rfl, Nat.le_of_ble_eq_true rfl⟩, Nat.zero_le _, Nat.zero_le _⟩ (Nat.le_of_ble_eq_true rfl) (st' := [.int y3]) rfl (fun hE => ?_)
  have hbl3 : bl y3 := hE
  refine j_if_eq 19 9 C dX2_bindThick_6 rfl rfl (fun c_6 => ?_) (fun c_6 => ?_)
  · replace hz := (if_pos c_6).symm.trans hz
    refine j_iconst 20 C (x := nI 1) dX2_bindThick_19 rfl (by decide) ?_
    subst hz
    exact j_retI C X dX2_bindThick_20 (bl_nar bl_1) ⟨rfl, rfl, rfl, (congrArg _ sA_id.symm), bl_1⟩
  · replace hz := (if_neg c_6).symm.trans hz
    refine j_aload_n 10 C dX2_bindThick_9 rfl rfl 0 rfl ?_
    refine j_iload_n 11 C dX2_bindThick_10 rfl rfl 2 rfl ?_
    refine j_iconst 12 C (x := nI 1) dX2_bindThick_11 rfl (by decide) ?_
    refine j_iadd 13 C dX2_bindThick_12 rfl rfl ?_
    obtain ⟨y13, e13, hz⟩ := ap_x hz
    refine s_V 16 C (As := [.int ((nI a_surface) + (nI 1))]) cv_X2_41 (c_X2_hasSurface (l := l) (D := D) (K := K) (ad := ad) hG  (hz := e13)) dX2_bindThick_13 rfl 1 2 (GH_r hG (by decide)) rfl (CE_1 _) rfl rfl rfl rfl rfl rfl ⟨⟨Nat.le_of_ble_eq_true rfl, Nat.le_of_ble_eq_true rfl⟩, Nat.zero_le _, Nat.zero_le _⟩ (Nat.le_of_ble_eq_true rfl) (st' := [.int y13]) rfl (fun hE => ?_)
    have hbl13 : bl y13 := hE
    refine j_if_ne 21 19 C dX2_bindThick_16 rfl rfl (fun c_16 => ?_) (fun c_16 => ?_)
    · replace hz := (if_neg c_16).symm.trans hz
      refine j_aload_n 22 C dX2_bindThick_21 rfl rfl 0 rfl ?_
      refine j_iload_n 23 C dX2_bindThick_22 rfl rfl 2 rfl ?_
      refine j_iload_n 24 C dX2_bindThick_23 rfl rfl 3 rfl ?_
      obtain ⟨y24, e24, hz⟩ := ap_x hz
      refine s_V 27 C (As := [.int (nI a_surface), .int (nI a_column)]) cv_X2_67 (c_X2_placeOf (l := l) (D := D) (K := K) (ad := ad) hG  (hz := e24)) dX2_bindThick_24 rfl 1 2 (GH_r hG (by decide)) rfl (CE_1 _) rfl rfl rfl rfl rfl rfl ⟨⟨Nat.le_of_ble_eq_true rfl, Nat.le_of_ble_eq_true rfl⟩, Nat.zero_le _, Nat.zero_le _⟩ (Nat.le_of_ble_eq_true rfl) (st' := [.int y24]) rfl (fun hE => ?_)
      refine j_istore 29 C [(4, .int y24), (0, .ref (ad 1)), (1, .ref (ad (11 + 2 * g))), (2, .int (nI a_surface)), (3, .int (nI a_column))] dX2_bindThick_27 rfl (by decide) rfl ?_
      refine j_aload_n 30 C dX2_bindThick_29 rfl rfl 1 rfl ?_
      refine j_iload_n 31 C dX2_bindThick_30 rfl rfl 3 rfl ?_
      refine j_iconst 32 C (x := nI 1) dX2_bindThick_31 rfl (by decide) ?_
      refine j_iadd 33 C dX2_bindThick_32 rfl rfl ?_
      refine j_iload_n 34 C dX2_bindThick_33 rfl rfl 4 rfl ?_
      obtain ⟨y34, e34, hz⟩ := ap_x hz
      refine s_V 37 C (As := [.int ((nI a_surface) + (nI 1)), .int (nI a_column)]) cv_X2_67 (c_X2_placeOf (l := l) (D := D) (K := K) (ad := ad) hG  (hz := e34)) dX2_bindThick_34 rfl 1 2 (GH_r hG (by decide)) rfl (CE_1 _) rfl rfl rfl rfl rfl rfl ⟨⟨Nat.le_of_ble_eq_true rfl, Nat.le_of_ble_eq_true rfl⟩, Nat.zero_le _, Nat.zero_le _⟩ (Nat.le_of_ble_eq_true rfl) (st' := [.int y34]) rfl (fun hE => ?_)
      refine j_istore 39 C [(5, .int y34), (4, .int y24), (0, .ref (ad 1)), (1, .ref (ad (11 + 2 * g))), (2, .int (nI a_surface)), (3, .int (nI a_column))] dX2_bindThick_37 rfl (by decide) rfl ?_
      refine j_aload_n 40 C dX2_bindThick_39 rfl rfl 3 rfl ?_
      refine j_iload 42 C dX2_bindThick_40 rfl 1 rfl ?_
      refine j_iload 44 C dX2_bindThick_42 rfl 0 rfl ?_
      refine j_aload_n 45 C dX2_bindThick_44 rfl rfl 2 rfl ?_
      refine k_get 48 C fl_X2_24 dX2_bindThick_45 rfl 1 (GH_r hG (by decide)) _ rfl (CE_1 _) (.ref (ad 2)) rfl ?_
      refine j_iload_n 49 C dX2_bindThick_48 rfl rfl 4 rfl ?_
      refine k_iald 50 C dX2_bindThick_49 rfl 2 (GH_r hG (by decide)) (σ 2) rfl CE_2 (vp_inE (n := a_surface) rfl (by omega) (by omega)) ?_
      refine j_aload_n 51 C dX2_bindThick_50 rfl rfl 2 rfl ?_
      refine k_get 54 C fl_X2_28 dX2_bindThick_51 rfl 1 (GH_r hG (by decide)) _ rfl (CE_1 _) (.ref (ad 3)) rfl ?_
      refine j_iload_n 55 C dX2_bindThick_54 rfl rfl 4 rfl ?_
      refine k_iald 56 C dX2_bindThick_55 rfl 3 (GH_r hG (by decide)) (σ 3) rfl CE_3 (vp_inE (n := a_surface) rfl (by omega) (by omega)) ?_
      obtain ⟨y56, e56, hz⟩ := ap_x hz
      refine s_V 59 C (As := [.int y24, .int y34, .int ((σ 2) (nI a_surface).toNatClampNeg), .int ((σ 3) (nI a_surface).toNatClampNeg)]) cv_X2_70 (c_X1_hold (l := l) (D := D) (K := K) (ad := ad) hG (hg := by omega) (hz := e56)) dX2_bindThick_56 rfl (11 + 2 * g) 1 (GH_r hG (by omega)) rfl (CE_go (by omega) _) rfl rfl rfl rfl rfl rfl ⟨⟨Nat.le_of_ble_eq_true rfl, Nat.le_of_ble_eq_true rfl⟩, Nat.zero_le _, Nat.zero_le _⟩ (Nat.le_of_ble_eq_true rfl) (st' := [.int y56.1]) rfl (fun hE => ?_)
      have hbl56 : bl y56.1 := hE
      subst hz
      exact j_retI C X dX2_bindThick_59 (bl_nar hbl56) ⟨rfl, rfl, rfl, rfl, hbl56⟩
    · replace hz := (if_pos c_16).symm.trans hz
      refine j_iconst 20 C (x := nI 1) dX2_bindThick_19 rfl (by decide) ?_
      subst hz
      exact j_retI C X dX2_bindThick_20 (bl_nar bl_1) ⟨rfl, rfl, rfl, (congrArg _ sA_id.symm), bl_1⟩
def m_X2_bindStep (W S ns nc : Nat) (B : Nat → Option Nat) (σ : Nat → Nat → Int32) (g : Nat) (surface : Int32) (column : Int32) : Int32 × (Nat → Int32) := ap (m_X2_hasSurface W S ns nc B σ surface) (fun (y2 : Int32) => (if y2 = 0 then (nI 1, (σ (12 + 2 * g))) else ap (m_X2_hasNextColumn W S ns nc B σ column) (fun (y10 : Int32) => (if y10 = 0 then (nI 1, (σ (12 + 2 * g))) else ap (m_X2_placeOf W S ns nc B σ surface column) (fun (y21 : Int32) => ap (m_X2_placeOf W S ns nc B σ surface (column + (nI 1))) (fun (y31 : Int32) => ap ((σ 5) column.toNatClampNeg) (fun (x42 : Int32) => ap ((σ 4) surface.toNatClampNeg) (fun (x50 : Int32) => ap (m_X1_hold W S ns nc B σ g y21 y31 (x42 - x50) (x42 + x50)) (fun (y67 : Int32 × (Nat → Int32)) => (y67.1, y67.2))))))))))
abbrev rm_X2_bindStep : Room := { frames := 3, cells := 0, slots := 0, locals := 91 }
set_option maxHeartbeats 4000000 in
set_option maxRecDepth 100000 in
theorem c_X2_bindStep {l : Launch} {D : va_G} {K : Nat → ClassId} {W S ns nc N : Nat} {ad : Nat → Nat} {B : Nat → Option Nat} {σ : Nat → Nat → Int32} (hG : GH W S ns nc N) {g : Nat} {surface : Int32} {a_surface : Nat} {column : Int32} {a_column : Nat} (h_g : g < 12) (e_surface : surface = nI a_surface) (h_surface : a_surface < S) (e_column : column = nI a_column) (h_column : a_column < W) {z : Int32 × (Nat → Int32)} (hz : m_X2_bindStep W S ns nc B σ g surface column = z)  : MC l yX2_bindStep cX2_bindStep 8 (some .boolean) rm_X2_bindStep D (TY K) N ad (CT K W S ns nc ad B σ) [.ref (ad 1), .ref (ad (11 + 2 * g)), .int surface, .int column] (BS (some (.int z.1)) N ad (CT K W S ns nc ad B (sA σ (12 + 2 * g) z.2)) (bl z.1)) := by
  have hW := hG.1; have hW8 := hG.2.1; have hS := hG.2.2.1; have hS4 := hG.2.2.2.1; have hns := hG.2.2.2.2.1; have hnc := hG.2.2.2.2.2.1; have hWS := GH_ws hG
  subst e_surface
  subst e_column
  refine MC.of (by decide) (Nat.le_of_ble_eq_true rfl) (fun p e s m args below meth c Q A H0 C X => ?_)
  replace C : Cx p s m args meth c cX2_bindStep RX2 8 D (TY K) A H0 := C
  show J p l e rm_X2_bindStep s m args below meth c Q D A H0 8 0 0 N ad (CT K W S ns nc ad B σ) 0 [(0, .ref (ad 1)), (1, .ref (ad (11 + 2 * g))), (2, .int (nI a_surface)), (3, .int (nI a_column))] []
  unfold m_X2_bindStep at hz
  refine j_aload_n 1 C dX2_bindStep_0 rfl rfl 0 rfl ?_
  refine j_iload_n 2 C dX2_bindStep_1 rfl rfl 2 rfl ?_
  obtain ⟨y2, e2, hz⟩ := ap_x hz
  refine s_V 5 C (As := [.int (nI a_surface)]) cv_X2_41 (c_X2_hasSurface (l := l) (D := D) (K := K) (ad := ad) hG  (hz := e2)) dX2_bindStep_2 rfl 1 2 (GH_r hG (by decide)) rfl (CE_1 _) rfl rfl rfl rfl rfl rfl ⟨⟨Nat.le_of_ble_eq_true rfl, Nat.le_of_ble_eq_true rfl⟩, Nat.zero_le _, Nat.zero_le _⟩ (Nat.le_of_ble_eq_true rfl) (st' := [.int y2]) rfl (fun hE => ?_)
  have hbl2 : bl y2 := hE
  refine j_if_eq 16 8 C dX2_bindStep_5 rfl rfl (fun c_5 => ?_) (fun c_5 => ?_)
  · replace hz := (if_pos c_5).symm.trans hz
    refine j_iconst 17 C (x := nI 1) dX2_bindStep_16 rfl (by decide) ?_
    subst hz
    exact j_retI C X dX2_bindStep_17 (bl_nar bl_1) ⟨rfl, rfl, rfl, (congrArg _ sA_id.symm), bl_1⟩
  · replace hz := (if_neg c_5).symm.trans hz
    refine j_aload_n 9 C dX2_bindStep_8 rfl rfl 0 rfl ?_
    refine j_iload_n 10 C dX2_bindStep_9 rfl rfl 3 rfl ?_
    obtain ⟨y10, e10, hz⟩ := ap_x hz
    refine s_V 13 C (As := [.int (nI a_column)]) cv_X2_50 (c_X2_hasNextColumn (l := l) (D := D) (K := K) (ad := ad) hG  (hz := e10)) dX2_bindStep_10 rfl 1 2 (GH_r hG (by decide)) rfl (CE_1 _) rfl rfl rfl rfl rfl rfl ⟨⟨Nat.le_of_ble_eq_true rfl, Nat.le_of_ble_eq_true rfl⟩, Nat.zero_le _, Nat.zero_le _⟩ (Nat.le_of_ble_eq_true rfl) (st' := [.int y10]) rfl (fun hE => ?_)
    have hbl10 : bl y10 := hE
    refine j_if_ne 18 16 C dX2_bindStep_13 rfl rfl (fun c_13 => ?_) (fun c_13 => ?_)
    · replace hz := (if_neg c_13).symm.trans hz
      refine j_aload_n 19 C dX2_bindStep_18 rfl rfl 0 rfl ?_
      refine j_iload_n 20 C dX2_bindStep_19 rfl rfl 2 rfl ?_
      refine j_iload_n 21 C dX2_bindStep_20 rfl rfl 3 rfl ?_
      obtain ⟨y21, e21, hz⟩ := ap_x hz
      refine s_V 24 C (As := [.int (nI a_surface), .int (nI a_column)]) cv_X2_67 (c_X2_placeOf (l := l) (D := D) (K := K) (ad := ad) hG  (hz := e21)) dX2_bindStep_21 rfl 1 2 (GH_r hG (by decide)) rfl (CE_1 _) rfl rfl rfl rfl rfl rfl ⟨⟨Nat.le_of_ble_eq_true rfl, Nat.le_of_ble_eq_true rfl⟩, Nat.zero_le _, Nat.zero_le _⟩ (Nat.le_of_ble_eq_true rfl) (st' := [.int y21]) rfl (fun hE => ?_)
      refine j_istore 26 C [(4, .int y21), (0, .ref (ad 1)), (1, .ref (ad (11 + 2 * g))), (2, .int (nI a_surface)), (3, .int (nI a_column))] dX2_bindStep_24 rfl (by decide) rfl ?_
      refine j_aload_n 27 C dX2_bindStep_26 rfl rfl 1 rfl ?_
      refine j_iload_n 28 C dX2_bindStep_27 rfl rfl 3 rfl ?_
      refine j_iload_n 29 C dX2_bindStep_28 rfl rfl 4 rfl ?_
      refine j_iconst 30 C (x := nI 1) dX2_bindStep_29 rfl (by decide) ?_
      refine j_iadd 31 C dX2_bindStep_30 rfl rfl ?_
      obtain ⟨y31, e31, hz⟩ := ap_x hz
      refine s_V 34 C (As := [.int (nI a_surface), .int ((nI a_column) + (nI 1))]) cv_X2_67 (c_X2_placeOf (l := l) (D := D) (K := K) (ad := ad) hG  (hz := e31)) dX2_bindStep_31 rfl 1 2 (GH_r hG (by decide)) rfl (CE_1 _) rfl rfl rfl rfl rfl rfl ⟨⟨Nat.le_of_ble_eq_true rfl, Nat.le_of_ble_eq_true rfl⟩, Nat.zero_le _, Nat.zero_le _⟩ (Nat.le_of_ble_eq_true rfl) (st' := [.int y31]) rfl (fun hE => ?_)
      refine j_istore 36 C [(5, .int y31), (4, .int y21), (0, .ref (ad 1)), (1, .ref (ad (11 + 2 * g))), (2, .int (nI a_surface)), (3, .int (nI a_column))] dX2_bindStep_34 rfl (by decide) rfl ?_
      refine j_aload_n 37 C dX2_bindStep_36 rfl rfl 2 rfl ?_
      refine k_get 40 C fl_X2_34 dX2_bindStep_37 rfl 1 (GH_r hG (by decide)) _ rfl (CE_1 _) (.ref (ad 5)) rfl ?_
      refine j_iload_n 41 C dX2_bindStep_40 rfl rfl 5 rfl ?_
      refine k_iald 42 C dX2_bindStep_41 rfl 5 (GH_r hG (by decide)) (σ 5) rfl CE_5 (vp_inE (n := a_column) rfl (by omega) (by omega)) ?_
      obtain ⟨x42, e42, hz⟩ := ap_x hz
      refine j_st (st' := [.int x42]) (by rw [← e42]) ?_
      refine j_istore 44 C [(6, .int x42), (5, .int y31), (4, .int y21), (0, .ref (ad 1)), (1, .ref (ad (11 + 2 * g))), (2, .int (nI a_surface)), (3, .int (nI a_column))] dX2_bindStep_42 rfl (by decide) rfl ?_
      refine j_aload_n 45 C dX2_bindStep_44 rfl rfl 3 rfl ?_
      refine k_get 48 C fl_X2_31 dX2_bindStep_45 rfl 1 (GH_r hG (by decide)) _ rfl (CE_1 _) (.ref (ad 4)) rfl ?_
      refine j_iload_n 49 C dX2_bindStep_48 rfl rfl 5 rfl ?_
      refine k_iald 50 C dX2_bindStep_49 rfl 4 (GH_r hG (by decide)) (σ 4) rfl CE_4 (vp_inE (n := a_surface) rfl (by omega) (by omega)) ?_
      obtain ⟨x50, e50, hz⟩ := ap_x hz
      refine j_st (st' := [.int x50]) (by rw [← e50]) ?_
      refine j_istore 52 C [(7, .int x50), (6, .int x42), (5, .int y31), (4, .int y21), (0, .ref (ad 1)), (1, .ref (ad (11 + 2 * g))), (2, .int (nI a_surface)), (3, .int (nI a_column))] dX2_bindStep_50 rfl (by decide) rfl ?_
      refine j_aload_n 53 C dX2_bindStep_52 rfl rfl 5 rfl ?_
      refine j_iload 55 C dX2_bindStep_53 rfl 3 rfl ?_
      refine j_iload 57 C dX2_bindStep_55 rfl 2 rfl ?_
      refine j_iload 59 C dX2_bindStep_57 rfl 1 rfl ?_
      refine j_iload 61 C dX2_bindStep_59 rfl 0 rfl ?_
      refine j_isub 62 C dX2_bindStep_61 rfl rfl ?_
      refine j_iload 64 C dX2_bindStep_62 rfl 1 rfl ?_
      refine j_iload 66 C dX2_bindStep_64 rfl 0 rfl ?_
      refine j_iadd 67 C dX2_bindStep_66 rfl rfl ?_
      obtain ⟨y67, e67, hz⟩ := ap_x hz
      refine s_V 70 C (As := [.int y21, .int y31, .int (x42 - x50), .int (x42 + x50)]) cv_X2_70 (c_X1_hold (l := l) (D := D) (K := K) (ad := ad) hG (hg := by omega) (hz := e67)) dX2_bindStep_67 rfl (11 + 2 * g) 1 (GH_r hG (by omega)) rfl (CE_go (by omega) _) rfl rfl rfl rfl rfl rfl ⟨⟨Nat.le_of_ble_eq_true rfl, Nat.le_of_ble_eq_true rfl⟩, Nat.zero_le _, Nat.zero_le _⟩ (Nat.le_of_ble_eq_true rfl) (st' := [.int y67.1]) rfl (fun hE => ?_)
      have hbl67 : bl y67.1 := hE
      subst hz
      exact j_retI C X dX2_bindStep_70 (bl_nar hbl67) ⟨rfl, rfl, rfl, rfl, hbl67⟩
    · replace hz := (if_pos c_13).symm.trans hz
      refine j_iconst 17 C (x := nI 1) dX2_bindStep_16 rfl (by decide) ?_
      subst hz
      exact j_retI C X dX2_bindStep_17 (bl_nar bl_1) ⟨rfl, rfl, rfl, (congrArg _ sA_id.symm), bl_1⟩
def m_X2_bind_L12 (W S ns nc : Nat) (B : Nat → Option Nat) (σ : Nat → Nat → Int32) (g : Nat) (i2 : Nat) (i12 : Nat) (c12 : (Nat → Int32)) : (Int32 × (Nat → Int32)) ⊕ ((Nat → Int32)) := ap (m_X2_bindThick W S ns nc B (sA σ (12 + 2 * g) c12) g (nI i2) (nI i12)) (fun (y24 : Int32 × (Nat → Int32)) => (if y24.1 = 0 then (Sum.inl (nI 0, y24.2)) else ap (m_X2_bindStep W S ns nc B (sA σ (12 + 2 * g) y24.2) g (nI i2) (nI i12)) (fun (y34 : Int32 × (Nat → Int32)) => (if y34.1 = 0 then (Sum.inl (nI 0, y34.2)) else (Sum.inr y34.2)))))
def m_X2_bind_L2 (W S ns nc : Nat) (B : Nat → Option Nat) (σ : Nat → Nat → Int32) (g : Nat) (i2 : Nat) (c2 : (Nat → Int32)) : (Int32 × (Nat → Int32)) ⊕ ((Nat → Int32)) := ap (lpe (m_X2_bind_L12 W S ns nc B σ g i2) (W - 0) 0 c2) (fun (z12 : (Int32 × (Nat → Int32)) ⊕ ((Nat → Int32))) => ((z12).elim Sum.inl (fun (kz12 : (Nat → Int32)) => (Sum.inr kz12))))
def m_X2_bind (W S ns nc : Nat) (B : Nat → Option Nat) (σ : Nat → Nat → Int32) (g : Nat) : Int32 × (Nat → Int32) := ap (lpe (m_X2_bind_L2 W S ns nc B σ g) (S - 0) 0 (σ (12 + 2 * g))) (fun (z2 : (Int32 × (Nat → Int32)) ⊕ ((Nat → Int32))) => ((z2).elim id (fun (kz2 : (Nat → Int32)) => (nI 1, kz2))))
abbrev rm_X2_bind : Room := { frames := 4, cells := 0, slots := 0, locals := 118 }
set_option maxHeartbeats 4000000 in
set_option maxRecDepth 100000 in
theorem c_X2_bind {l : Launch} {D : va_G} {K : Nat → ClassId} {W S ns nc N : Nat} {ad : Nat → Nat} {B : Nat → Option Nat} {σ : Nat → Nat → Int32} (hG : GH W S ns nc N) {g : Nat} (h_g : g < 12) {z : Int32 × (Nat → Int32)} (hz : m_X2_bind W S ns nc B σ g = z)  : MC l yX2_bind cX2_bind 4 (some .boolean) rm_X2_bind D (TY K) N ad (CT K W S ns nc ad B σ) [.ref (ad 1), .ref (ad (11 + 2 * g))] (BS (some (.int z.1)) N ad (CT K W S ns nc ad B (sA σ (12 + 2 * g) z.2)) (bl z.1)) := by
  have hW := hG.1; have hW8 := hG.2.1; have hS := hG.2.2.1; have hS4 := hG.2.2.2.1; have hns := hG.2.2.2.2.1; have hnc := hG.2.2.2.2.2.1; have hWS := GH_ws hG
  refine MC.of (by decide) (Nat.le_of_ble_eq_true rfl) (fun p e s m args below meth c Q A H0 C X => ?_)
  replace C : Cx p s m args meth c cX2_bind RX2 4 D (TY K) A H0 := C
  show J p l e rm_X2_bind s m args below meth c Q D A H0 4 0 0 N ad (CT K W S ns nc ad B σ) 0 [(0, .ref (ad 1)), (1, .ref (ad (11 + 2 * g)))] []
  unfold m_X2_bind at hz
  refine j_iconst 1 C (x := nI 0) dX2_bind_0 rfl (by decide) ?_
  refine j_istore_n 2 C [(2, .int (nI 0)), (0, .ref (ad 1)), (1, .ref (ad (11 + 2 * g)))] dX2_bind_1 rfl rfl (by decide) rfl ?_
  skip
  obtain ⟨z2, ez2, hz⟩ := ap_x hz
  have L2 : ∀ (n2 i2 : Nat) (c2 : (Nat → Int32)), 0 ≤ i2 → i2 < 5000 → n2 = S - i2 → lpe (m_X2_bind_L2 W S ns nc B σ g) n2 i2 c2 = z2 → J p l e rm_X2_bind s m args below meth c Q D A H0 4 0 0 N ad (CT K W S ns nc ad B (sA σ (12 + 2 * g) c2)) 2 [(0, .ref (ad 1)), (1, .ref (ad (11 + 2 * g))), (2, .int (nI i2))] [] := by
    intro n2
    induction n2 with
    | zero =>
      intro i2 c2 hl2 hi2 hn2 hz2
      refine j_iload_n 3 C dX2_bind_2 rfl rfl 2 rfl ?_
      refine j_aload_n 4 C dX2_bind_3 rfl rfl 0 rfl ?_
      refine k_get 7 C fl_X2_21 dX2_bind_4 rfl 1 (GH_r hG (by decide)) _ rfl (CE_1 _) (.int (nI S)) rfl ?_
      refine j_ic_ge 54 10 C dX2_bind_7 rfl rfl (fun c_7 => ?_) (fun c_7 => ?_)
      · skip
        have n_7 := nat_le (a := S) (b := i2) rfl rfl (by omega) (by omega) c_7
        have hq2 : Sum.inr c2 = z2 := hz2
        subst hq2
        replace hz := el_r hz
        refine j_iconst 55 C (x := nI 1) dX2_bind_54 rfl (by decide) ?_
        subst hz
        exact j_retI C X dX2_bind_55 (bl_nar bl_1) ⟨rfl, rfl, rfl, rfl, bl_1⟩
      · exfalso
        have n_7 := nat_nle (a := S) (b := i2) rfl rfl (by omega) (by omega) c_7
        omega
    | succ n2 ih2 =>
      intro i2 c2 hl2 hi2 hn2 hz2
      refine j_iload_n 3 C dX2_bind_2 rfl rfl 2 rfl ?_
      refine j_aload_n 4 C dX2_bind_3 rfl rfl 0 rfl ?_
      refine k_get 7 C fl_X2_21 dX2_bind_4 rfl 1 (GH_r hG (by decide)) _ rfl (CE_1 _) (.int (nI S)) rfl ?_
      refine j_ic_ge 54 10 C dX2_bind_7 rfl rfl (fun c_7 => ?_) (fun c_7 => ?_)
      · exfalso
        have n_7 := nat_le (a := S) (b := i2) rfl rfl (by omega) (by omega) c_7
        omega
      · skip
        have n_7 := nat_nle (a := S) (b := i2) rfl rfl (by omega) (by omega) c_7
        obtain ⟨w2, hw2, hz2⟩ := lpe_s hz2
        have ho2 := hz
        clear hz
        have hz := hw2
        clear hw2
        unfold m_X2_bind_L2 at hz
        refine j_iconst 11 C (x := nI 0) dX2_bind_10 rfl (by decide) ?_
        refine j_istore_n 12 C [(3, .int (nI 0)), (0, .ref (ad 1)), (1, .ref (ad (11 + 2 * g))), (2, .int (nI i2))] dX2_bind_11 rfl rfl (by decide) rfl ?_
        skip
        obtain ⟨z12, ez12, hz⟩ := ap_x hz
        have L12 : ∀ (n12 i12 : Nat) (c12 : (Nat → Int32)), 0 ≤ i12 → i12 < 5000 → n12 = W - i12 → lpe (m_X2_bind_L12 W S ns nc B σ g i2) n12 i12 c12 = z12 → J p l e rm_X2_bind s m args below meth c Q D A H0 4 0 0 N ad (CT K W S ns nc ad B (sA σ (12 + 2 * g) c12)) 12 [(0, .ref (ad 1)), (1, .ref (ad (11 + 2 * g))), (2, .int (nI i2)), (3, .int (nI i12))] [] := by
          intro n12
          induction n12 with
          | zero =>
            intro i12 c12 hl12 hi12 hn12 hz12
            refine j_iload_n 13 C dX2_bind_12 rfl rfl 3 rfl ?_
            refine j_aload_n 14 C dX2_bind_13 rfl rfl 0 rfl ?_
            refine k_get 17 C fl_X2_15 dX2_bind_14 rfl 1 (GH_r hG (by decide)) _ rfl (CE_1 _) (.int (nI W)) rfl ?_
            refine j_ic_ge 48 20 C dX2_bind_17 rfl rfl (fun c_17 => ?_) (fun c_17 => ?_)
            · skip
              have n_17 := nat_le (a := W) (b := i12) rfl rfl (by omega) (by omega) c_17
              have hq12 : Sum.inr c12 = z12 := hz12
              subst hq12
              replace hz := el_r hz
              refine j_iinc 51 C (x' := nI (i2 + 1)) [(2, .int (nI (i2 + 1))), (0, .ref (ad 1)), (1, .ref (ad (11 + 2 * g))), (3, .int (nI i12))] dX2_bind_48 rfl 2 rfl (by rw [show Int32.ofInt 1 = nI 1 from by decide, nI_add]) (by decide) rfl ?_
              refine j_goto 2 C dX2_bind_51 rfl ?_
              subst hz
              refine j_lv [1, 2, 0] (lv' := [(0, .ref (ad 1)), (1, .ref (ad (11 + 2 * g))), (2, .int (nI (i2 + 1)))]) rfl ?_
              have hz := ho2
              exact ih2 (i2 + 1) c12 (by omega) (by omega) (by omega) hz2
            · exfalso
              have n_17 := nat_nle (a := W) (b := i12) rfl rfl (by omega) (by omega) c_17
              omega
          | succ n12 ih12 =>
            intro i12 c12 hl12 hi12 hn12 hz12
            refine j_iload_n 13 C dX2_bind_12 rfl rfl 3 rfl ?_
            refine j_aload_n 14 C dX2_bind_13 rfl rfl 0 rfl ?_
            refine k_get 17 C fl_X2_15 dX2_bind_14 rfl 1 (GH_r hG (by decide)) _ rfl (CE_1 _) (.int (nI W)) rfl ?_
            refine j_ic_ge 48 20 C dX2_bind_17 rfl rfl (fun c_17 => ?_) (fun c_17 => ?_)
            · exfalso
              have n_17 := nat_le (a := W) (b := i12) rfl rfl (by omega) (by omega) c_17
              omega
            · skip
              have n_17 := nat_nle (a := W) (b := i12) rfl rfl (by omega) (by omega) c_17
              obtain ⟨w12, hw12, hz12⟩ := lpe_s hz12
              have ho12 := hz
              clear hz
              have hz := hw12
              clear hw12
              unfold m_X2_bind_L12 at hz
              refine j_aload_n 21 C dX2_bind_20 rfl rfl 0 rfl ?_
              refine j_aload_n 22 C dX2_bind_21 rfl rfl 1 rfl ?_
              refine j_iload_n 23 C dX2_bind_22 rfl rfl 2 rfl ?_
              refine j_iload_n 24 C dX2_bind_23 rfl rfl 3 rfl ?_
              obtain ⟨y24, e24, hz⟩ := ap_x hz
              refine s_V 27 C (As := [.ref (ad (11 + 2 * g)), .int (nI i2), .int (nI i12)]) cv_X2_56 (c_X2_bindThick (l := l) (D := D) (K := K) (ad := ad) hG (h_g := by omega) (a_surface := i2) (e_surface := rfl) (h_surface := by omega) (a_column := i12) (e_column := rfl) (h_column := by omega) (hz := e24)) dX2_bind_24 rfl 1 2 (GH_r hG (by decide)) rfl (CE_1 _) rfl rfl rfl rfl rfl rfl ⟨⟨Nat.le_of_ble_eq_true rfl, Nat.le_of_ble_eq_true rfl⟩, Nat.zero_le _, Nat.zero_le _⟩ (Nat.le_of_ble_eq_true rfl) (st' := [.int y24.1]) rfl (fun hE => ?_)
              refine j_ct (ct' := CT K W S ns nc ad B (sA σ (12 + 2 * g) y24.2)) (fun r _ => congrFun (congrArg (CT K W S ns nc ad B) sA_top) r) ?_
              have hbl24 : bl y24.1 := hE
              refine j_if_eq 40 30 C dX2_bind_27 rfl rfl (fun c_27 => ?_) (fun c_27 => ?_)
              · replace hz := (if_pos c_27).symm.trans hz
                refine j_iconst 41 C (x := nI 0) dX2_bind_40 rfl (by decide) ?_
                subst hz
                have hz : Sum.inl (nI 0, y24.2) = z12 := hz12
                subst hz
                have hz := ho12
                replace hz : Sum.inl (nI 0, y24.2) = _ := hz
                subst hz
                have hz : Sum.inl (nI 0, y24.2) = z2 := hz2
                subst hz
                have hz := ho2
                replace hz : (nI 0, y24.2) = _ := hz
                subst hz
                exact j_retI C X dX2_bind_41 (bl_nar bl_0) ⟨rfl, rfl, rfl, rfl, bl_0⟩
              · replace hz := (if_neg c_27).symm.trans hz
                refine j_aload_n 31 C dX2_bind_30 rfl rfl 0 rfl ?_
                refine j_aload_n 32 C dX2_bind_31 rfl rfl 1 rfl ?_
                refine j_iload_n 33 C dX2_bind_32 rfl rfl 2 rfl ?_
                refine j_iload_n 34 C dX2_bind_33 rfl rfl 3 rfl ?_
                obtain ⟨y34, e34, hz⟩ := ap_x hz
                refine s_V 37 C (As := [.ref (ad (11 + 2 * g)), .int (nI i2), .int (nI i12)]) cv_X2_60 (c_X2_bindStep (l := l) (D := D) (K := K) (ad := ad) hG (h_g := by omega) (a_surface := i2) (e_surface := rfl) (h_surface := by omega) (a_column := i12) (e_column := rfl) (h_column := by omega) (hz := e34)) dX2_bind_34 rfl 1 2 (GH_r hG (by decide)) rfl (CE_1 _) rfl rfl rfl rfl rfl rfl ⟨⟨Nat.le_of_ble_eq_true rfl, Nat.le_of_ble_eq_true rfl⟩, Nat.zero_le _, Nat.zero_le _⟩ (Nat.le_of_ble_eq_true rfl) (st' := [.int y34.1]) rfl (fun hE => ?_)
                refine j_ct (ct' := CT K W S ns nc ad B (sA σ (12 + 2 * g) y34.2)) (fun r _ => congrFun (congrArg (CT K W S ns nc ad B) sA_top) r) ?_
                have hbl34 : bl y34.1 := hE
                refine j_if_ne 42 40 C dX2_bind_37 rfl rfl (fun c_37 => ?_) (fun c_37 => ?_)
                · replace hz := (if_neg c_37).symm.trans hz
                  refine j_iinc 45 C (x' := nI (i12 + 1)) [(3, .int (nI (i12 + 1))), (0, .ref (ad 1)), (1, .ref (ad (11 + 2 * g))), (2, .int (nI i2))] dX2_bind_42 rfl 3 rfl (by rw [show Int32.ofInt 1 = nI 1 from by decide, nI_add]) (by decide) rfl ?_
                  refine j_goto 12 C dX2_bind_45 rfl ?_
                  subst hz
                  refine j_lv [1, 2, 3, 0] (lv' := [(0, .ref (ad 1)), (1, .ref (ad (11 + 2 * g))), (2, .int (nI i2)), (3, .int (nI (i12 + 1)))]) rfl ?_
                  have hz := ho12
                  exact ih12 (i12 + 1) y34.2 (by omega) (by omega) (by omega) hz12
                · replace hz := (if_pos c_37).symm.trans hz
                  refine j_iconst 41 C (x := nI 0) dX2_bind_40 rfl (by decide) ?_
                  subst hz
                  have hz : Sum.inl (nI 0, y34.2) = z12 := hz12
                  subst hz
                  have hz := ho12
                  replace hz : Sum.inl (nI 0, y34.2) = _ := hz
                  subst hz
                  have hz : Sum.inl (nI 0, y34.2) = z2 := hz2
                  subst hz
                  have hz := ho2
                  replace hz : (nI 0, y34.2) = _ := hz
                  subst hz
                  exact j_retI C X dX2_bind_41 (bl_nar bl_0) ⟨rfl, rfl, rfl, rfl, bl_0⟩
        refine j_lv [1, 2, 3, 0] (lv' := [(0, .ref (ad 1)), (1, .ref (ad (11 + 2 * g))), (2, .int (nI i2)), (3, .int (nI 0))]) rfl ?_
        exact L12 _ 0 c2 (by omega) (by omega) rfl ez12
  refine j_lv [1, 2, 0] (lv' := [(0, .ref (ad 1)), (1, .ref (ad (11 + 2 * g))), (2, .int (nI 0))]) rfl ?_
  refine j_ct (ct' := CT K W S ns nc ad B (sA σ (12 + 2 * g) (σ (12 + 2 * g)))) (fun r _ => congrFun (congrArg (CT K W S ns nc ad B) (sA_idr (by rfl))) r) ?_
  exact L2 _ 0 (σ (12 + 2 * g)) (by omega) (by omega) rfl ez2
end
section
def m_X3_surface (W S ns nc : Nat) (B : Nat → Option Nat) (σ : Nat → Nat → Int32) (q : Nat) : Int32 := σ q 0
abbrev rm_X3_surface : Room := { frames := 0, cells := 0, slots := 0, locals := 0 }
set_option maxHeartbeats 4000000 in
set_option maxRecDepth 100000 in
theorem c_X3_surface {l : Launch} {D : va_G} {K : Nat → ClassId} {W S ns nc N : Nat} {ad : Nat → Nat} {B : Nat → Option Nat} {σ : Nat → Nat → Int32} (hG : GH W S ns nc N) {q : Nat} (hq_q : 50 ≤ q) (hN_q : q < N) {z : Int32} (hz : m_X3_surface W S ns nc B σ q = z)  : MC l yX3_surface cX3_surface 1 (some .int) rm_X3_surface D (TY K) N ad (CT K W S ns nc ad B σ) [.ref (ad q)] (BS (some (.int z)) N ad (CT K W S ns nc ad B σ) True) := by
  have hW := hG.1; have hW8 := hG.2.1; have hS := hG.2.2.1; have hS4 := hG.2.2.2.1; have hns := hG.2.2.2.2.1; have hnc := hG.2.2.2.2.2.1; have hWS := GH_ws hG
  refine MC.of (by decide) (Nat.le_of_ble_eq_true rfl) (fun p e s m args below meth c Q A H0 C X => ?_)
  replace C : Cx p s m args meth c cX3_surface RX3 1 D (TY K) A H0 := C
  show J p l e rm_X3_surface s m args below meth c Q D A H0 1 0 0 N ad (CT K W S ns nc ad B σ) 0 [(0, .ref (ad q))] []
  unfold m_X3_surface at hz
  refine j_aload_n 1 C dX3_surface_0 rfl rfl 0 rfl ?_
  refine k_get 4 C fl_X3_9 dX3_surface_1 rfl q hN_q (σ q) rfl (CE_q hq_q _) (.int (σ q 0)) rfl ?_
  subst hz
  exact j_retI C X dX3_surface_4 rfl ⟨rfl, rfl, rfl, rfl, trivial⟩
def m_X3_column (W S ns nc : Nat) (B : Nat → Option Nat) (σ : Nat → Nat → Int32) (q : Nat) : Int32 := σ q 1
abbrev rm_X3_column : Room := { frames := 0, cells := 0, slots := 0, locals := 0 }
set_option maxHeartbeats 4000000 in
set_option maxRecDepth 100000 in
theorem c_X3_column {l : Launch} {D : va_G} {K : Nat → ClassId} {W S ns nc N : Nat} {ad : Nat → Nat} {B : Nat → Option Nat} {σ : Nat → Nat → Int32} (hG : GH W S ns nc N) {q : Nat} (hq_q : 50 ≤ q) (hN_q : q < N) {z : Int32} (hz : m_X3_column W S ns nc B σ q = z)  : MC l yX3_column cX3_column 1 (some .int) rm_X3_column D (TY K) N ad (CT K W S ns nc ad B σ) [.ref (ad q)] (BS (some (.int z)) N ad (CT K W S ns nc ad B σ) True) := by
  have hW := hG.1; have hW8 := hG.2.1; have hS := hG.2.2.1; have hS4 := hG.2.2.2.1; have hns := hG.2.2.2.2.1; have hnc := hG.2.2.2.2.2.1; have hWS := GH_ws hG
  refine MC.of (by decide) (Nat.le_of_ble_eq_true rfl) (fun p e s m args below meth c Q A H0 C X => ?_)
  replace C : Cx p s m args meth c cX3_column RX3 1 D (TY K) A H0 := C
  show J p l e rm_X3_column s m args below meth c Q D A H0 1 0 0 N ad (CT K W S ns nc ad B σ) 0 [(0, .ref (ad q))] []
  unfold m_X3_column at hz
  refine j_aload_n 1 C dX3_column_0 rfl rfl 0 rfl ?_
  refine k_get 4 C fl_X3_15 dX3_column_1 rfl q hN_q (σ q) rfl (CE_q hq_q _) (.int (σ q 1)) rfl ?_
  subst hz
  exact j_retI C X dX3_column_4 rfl ⟨rfl, rfl, rfl, rfl, trivial⟩
def m_X3_kind (W S ns nc : Nat) (B : Nat → Option Nat) (σ : Nat → Nat → Int32) (q : Nat) : Int32 := σ q 2
abbrev rm_X3_kind : Room := { frames := 0, cells := 0, slots := 0, locals := 0 }
set_option maxHeartbeats 4000000 in
set_option maxRecDepth 100000 in
theorem c_X3_kind {l : Launch} {D : va_G} {K : Nat → ClassId} {W S ns nc N : Nat} {ad : Nat → Nat} {B : Nat → Option Nat} {σ : Nat → Nat → Int32} (hG : GH W S ns nc N) {q : Nat} (hq_q : 50 ≤ q) (hN_q : q < N) {z : Int32} (hz : m_X3_kind W S ns nc B σ q = z)  : MC l yX3_kind cX3_kind 1 (some .int) rm_X3_kind D (TY K) N ad (CT K W S ns nc ad B σ) [.ref (ad q)] (BS (some (.int z)) N ad (CT K W S ns nc ad B σ) True) := by
  have hW := hG.1; have hW8 := hG.2.1; have hS := hG.2.2.1; have hS4 := hG.2.2.2.1; have hns := hG.2.2.2.2.1; have hnc := hG.2.2.2.2.2.1; have hWS := GH_ws hG
  refine MC.of (by decide) (Nat.le_of_ble_eq_true rfl) (fun p e s m args below meth c Q A H0 C X => ?_)
  replace C : Cx p s m args meth c cX3_kind RX3 1 D (TY K) A H0 := C
  show J p l e rm_X3_kind s m args below meth c Q D A H0 1 0 0 N ad (CT K W S ns nc ad B σ) 0 [(0, .ref (ad q))] []
  unfold m_X3_kind at hz
  refine j_aload_n 1 C dX3_kind_0 rfl rfl 0 rfl ?_
  refine k_get 4 C fl_X3_18 dX3_kind_1 rfl q hN_q (σ q) rfl (CE_q hq_q _) (.int (σ q 2)) rfl ?_
  subst hz
  exact j_retI C X dX3_kind_4 rfl ⟨rfl, rfl, rfl, rfl, trivial⟩
def m_X3_z (W S ns nc : Nat) (B : Nat → Option Nat) (σ : Nat → Nat → Int32) (q : Nat) : Int32 := σ q 3
abbrev rm_X3_z : Room := { frames := 0, cells := 0, slots := 0, locals := 0 }
set_option maxHeartbeats 4000000 in
set_option maxRecDepth 100000 in
theorem c_X3_z {l : Launch} {D : va_G} {K : Nat → ClassId} {W S ns nc N : Nat} {ad : Nat → Nat} {B : Nat → Option Nat} {σ : Nat → Nat → Int32} (hG : GH W S ns nc N) {q : Nat} (hq_q : 50 ≤ q) (hN_q : q < N) {z : Int32} (hz : m_X3_z W S ns nc B σ q = z)  : MC l yX3_z cX3_z 1 (some .int) rm_X3_z D (TY K) N ad (CT K W S ns nc ad B σ) [.ref (ad q)] (BS (some (.int z)) N ad (CT K W S ns nc ad B σ) True) := by
  have hW := hG.1; have hW8 := hG.2.1; have hS := hG.2.2.1; have hS4 := hG.2.2.2.1; have hns := hG.2.2.2.2.1; have hnc := hG.2.2.2.2.2.1; have hWS := GH_ws hG
  refine MC.of (by decide) (Nat.le_of_ble_eq_true rfl) (fun p e s m args below meth c Q A H0 C X => ?_)
  replace C : Cx p s m args meth c cX3_z RX3 1 D (TY K) A H0 := C
  show J p l e rm_X3_z s m args below meth c Q D A H0 1 0 0 N ad (CT K W S ns nc ad B σ) 0 [(0, .ref (ad q))] []
  unfold m_X3_z at hz
  refine j_aload_n 1 C dX3_z_0 rfl rfl 0 rfl ?_
  refine k_get 4 C fl_X3_21 dX3_z_1 rfl q hN_q (σ q) rfl (CE_q hq_q _) (.int (σ q 3)) rfl ?_
  subst hz
  exact j_retI C X dX3_z_4 rfl ⟨rfl, rfl, rfl, rfl, trivial⟩
def m_X3_miss (W S ns nc : Nat) (B : Nat → Option Nat) (σ : Nat → Nat → Int32) (q : Nat) : Int32 := σ q 4
abbrev rm_X3_miss : Room := { frames := 0, cells := 0, slots := 0, locals := 0 }
set_option maxHeartbeats 4000000 in
set_option maxRecDepth 100000 in
theorem c_X3_miss {l : Launch} {D : va_G} {K : Nat → ClassId} {W S ns nc N : Nat} {ad : Nat → Nat} {B : Nat → Option Nat} {σ : Nat → Nat → Int32} (hG : GH W S ns nc N) {q : Nat} (hq_q : 50 ≤ q) (hN_q : q < N) {z : Int32} (hz : m_X3_miss W S ns nc B σ q = z)  : MC l yX3_miss cX3_miss 1 (some .int) rm_X3_miss D (TY K) N ad (CT K W S ns nc ad B σ) [.ref (ad q)] (BS (some (.int z)) N ad (CT K W S ns nc ad B σ) True) := by
  have hW := hG.1; have hW8 := hG.2.1; have hS := hG.2.2.1; have hS4 := hG.2.2.2.1; have hns := hG.2.2.2.2.1; have hnc := hG.2.2.2.2.2.1; have hWS := GH_ws hG
  refine MC.of (by decide) (Nat.le_of_ble_eq_true rfl) (fun p e s m args below meth c Q A H0 C X => ?_)
  replace C : Cx p s m args meth c cX3_miss RX3 1 D (TY K) A H0 := C
  show J p l e rm_X3_miss s m args below meth c Q D A H0 1 0 0 N ad (CT K W S ns nc ad B σ) 0 [(0, .ref (ad q))] []
  unfold m_X3_miss at hz
  refine j_aload_n 1 C dX3_miss_0 rfl rfl 0 rfl ?_
  refine k_get 4 C fl_X3_24 dX3_miss_1 rfl q hN_q (σ q) rfl (CE_q hq_q _) (.int (σ q 4)) rfl ?_
  subst hz
  exact j_retI C X dX3_miss_4 rfl ⟨rfl, rfl, rfl, rfl, trivial⟩
def m_X3_bind (W S ns nc : Nat) (B : Nat → Option Nat) (σ : Nat → Nat → Int32) (q : Nat) (g : Nat) : Int32 × (Nat → Int32) := ap (m_X2_placeOf W S ns nc B σ (σ q 0) (σ q 1)) (fun (y9 : Int32) => (if (σ q 2) = nI 0 then ap (m_X1_hold W S ns nc B σ g (nI 0) y9 ((σ q 3) - (σ q 4)) ((σ q 3) + (σ q 4))) (fun (y65 : Int32 × (Nat → Int32)) => (y65.1, y65.2)) else (if (σ q 2) = nI 1 then ap (m_X1_hold W S ns nc B σ g (nI 0) y9 (σ q 3) (nI 60)) (fun (y78 : Int32 × (Nat → Int32)) => (y78.1, y78.2)) else (if (σ q 2) = nI 2 then ap (m_X1_hold W S ns nc B σ g (nI 0) y9 (nI 0) (σ q 3)) (fun (y90 : Int32 × (Nat → Int32)) => (y90.1, y90.2)) else ap (m_X2_placeOf W S ns nc B σ (σ q 0) ((σ q 1) + (nI 1))) (fun (y107 : Int32) => ap (m_X1_hold W S ns nc B σ g y9 y107 ((σ q 3) - (σ q 4)) ((σ q 3) + (σ q 4))) (fun (y128 : Int32 × (Nat → Int32)) => (y128.1, y128.2)))))))
abbrev rm_X3_bind : Room := { frames := 3, cells := 0, slots := 0, locals := 91 }
set_option maxHeartbeats 4000000 in
set_option maxRecDepth 100000 in
theorem c_X3_bind {l : Launch} {D : va_G} {K : Nat → ClassId} {W S ns nc N : Nat} {ad : Nat → Nat} {B : Nat → Option Nat} {σ : Nat → Nat → Int32} (hG : GH W S ns nc N) {q : Nat} {g : Nat} (hq_q : 50 ≤ q) (hN_q : q < N) (h_g : g < 12) {z : Int32 × (Nat → Int32)} (hz : m_X3_bind W S ns nc B σ q g = z)  : MC l yX3_bind cX3_bind 4 (some .boolean) rm_X3_bind D (TY K) N ad (CT K W S ns nc ad B σ) [.ref (ad q), .ref (ad (11 + 2 * g)), .ref (ad 1)] (BS (some (.int z.1)) N ad (CT K W S ns nc ad B (sA σ (12 + 2 * g) z.2)) (bl z.1)) := by
  have hW := hG.1; have hW8 := hG.2.1; have hS := hG.2.2.1; have hS4 := hG.2.2.2.1; have hns := hG.2.2.2.2.1; have hnc := hG.2.2.2.2.2.1; have hWS := GH_ws hG
  refine MC.of (by decide) (Nat.le_of_ble_eq_true rfl) (fun p e s m args below meth c Q A H0 C X => ?_)
  replace C : Cx p s m args meth c cX3_bind RX3 4 D (TY K) A H0 := C
  show J p l e rm_X3_bind s m args below meth c Q D A H0 4 0 0 N ad (CT K W S ns nc ad B σ) 0 [(0, .ref (ad q)), (1, .ref (ad (11 + 2 * g))), (2, .ref (ad 1))] []
  unfold m_X3_bind at hz
  refine j_aload_n 1 C dX3_bind_0 rfl rfl 2 rfl ?_
  refine j_aload_n 2 C dX3_bind_1 rfl rfl 0 rfl ?_
  refine k_get 5 C fl_X3_9 dX3_bind_2 rfl q hN_q (σ q) rfl (CE_q hq_q _) (.int (σ q 0)) rfl ?_
  refine j_aload_n 6 C dX3_bind_5 rfl rfl 0 rfl ?_
  refine k_get 9 C fl_X3_15 dX3_bind_6 rfl q hN_q (σ q) rfl (CE_q hq_q _) (.int (σ q 1)) rfl ?_
  obtain ⟨y9, e9, hz⟩ := ap_x hz
  refine s_V 12 C (As := [.int (σ q 0), .int (σ q 1)]) cv_X3_27 (c_X2_placeOf (l := l) (D := D) (K := K) (ad := ad) hG  (hz := e9)) dX3_bind_9 rfl 1 2 (GH_r hG (by decide)) rfl (CE_1 _) rfl rfl rfl rfl rfl rfl ⟨⟨Nat.le_of_ble_eq_true rfl, Nat.le_of_ble_eq_true rfl⟩, Nat.zero_le _, Nat.zero_le _⟩ (Nat.le_of_ble_eq_true rfl) (st' := [.int y9]) rfl (fun hE => ?_)
  refine j_istore_n 13 C [(3, .int y9), (0, .ref (ad q)), (1, .ref (ad (11 + 2 * g))), (2, .ref (ad 1))] dX3_bind_12 rfl rfl (by decide) rfl ?_
  refine j_aload_n 14 C dX3_bind_13 rfl rfl 1 rfl ?_
  refine k_get 17 C fl_X3_18 dX3_bind_14 rfl q hN_q (σ q) rfl (CE_q hq_q _) (.int (σ q 2)) rfl ?_
  rcases Classical.em ((σ q 2) = nI 0) with c_1700 | c_1700
  · replace hz := (if_pos c_1700).symm.trans hz
    refine j_swIn 44 C dX3_bind_17 (off := 27) (by rw [c_1700]; decide) (by rw [c_1700]; decide) (by rw [c_1700]; decide) rfl ?_
    refine j_aload_n 45 C dX3_bind_44 rfl rfl 2 rfl ?_
    refine j_iconst 46 C (x := nI 0) dX3_bind_45 rfl (by decide) ?_
    refine j_iload_n 47 C dX3_bind_46 rfl rfl 0 rfl ?_
    refine j_aload_n 48 C dX3_bind_47 rfl rfl 1 rfl ?_
    refine k_get 51 C fl_X3_21 dX3_bind_48 rfl q hN_q (σ q) rfl (CE_q hq_q _) (.int (σ q 3)) rfl ?_
    refine j_aload_n 52 C dX3_bind_51 rfl rfl 1 rfl ?_
    refine k_get 55 C fl_X3_24 dX3_bind_52 rfl q hN_q (σ q) rfl (CE_q hq_q _) (.int (σ q 4)) rfl ?_
    refine j_isub 56 C dX3_bind_55 rfl rfl ?_
    refine j_aload_n 57 C dX3_bind_56 rfl rfl 1 rfl ?_
    refine k_get 60 C fl_X3_21 dX3_bind_57 rfl q hN_q (σ q) rfl (CE_q hq_q _) (.int (σ q 3)) rfl ?_
    refine j_aload_n 61 C dX3_bind_60 rfl rfl 1 rfl ?_
    refine k_get 64 C fl_X3_24 dX3_bind_61 rfl q hN_q (σ q) rfl (CE_q hq_q _) (.int (σ q 4)) rfl ?_
    refine j_iadd 65 C dX3_bind_64 rfl rfl ?_
    obtain ⟨y65, e65, hz⟩ := ap_x hz
    refine s_V 68 C (As := [.int (nI 0), .int y9, .int ((σ q 3) - (σ q 4)), .int ((σ q 3) + (σ q 4))]) cv_X3_35 (c_X1_hold (l := l) (D := D) (K := K) (ad := ad) hG (hg := by omega) (hz := e65)) dX3_bind_65 rfl (11 + 2 * g) 1 (GH_r hG (by omega)) rfl (CE_go (by omega) _) rfl rfl rfl rfl rfl rfl ⟨⟨Nat.le_of_ble_eq_true rfl, Nat.le_of_ble_eq_true rfl⟩, Nat.zero_le _, Nat.zero_le _⟩ (Nat.le_of_ble_eq_true rfl) (st' := [.int y65.1]) rfl (fun hE => ?_)
    have hbl65 : bl y65.1 := hE
    subst hz
    exact j_retI C X dX3_bind_68 (bl_nar hbl65) ⟨rfl, rfl, rfl, rfl, hbl65⟩
  · replace hz := (if_neg c_1700).symm.trans hz
    rcases Classical.em ((σ q 2) = nI 1) with c_1701 | c_1701
    · replace hz := (if_pos c_1701).symm.trans hz
      refine j_swIn 69 C dX3_bind_17 (off := 52) (by rw [c_1701]; decide) (by rw [c_1701]; decide) (by rw [c_1701]; decide) rfl ?_
      refine j_aload_n 70 C dX3_bind_69 rfl rfl 2 rfl ?_
      refine j_iconst 71 C (x := nI 0) dX3_bind_70 rfl (by decide) ?_
      refine j_iload_n 72 C dX3_bind_71 rfl rfl 0 rfl ?_
      refine j_aload_n 73 C dX3_bind_72 rfl rfl 1 rfl ?_
      refine k_get 76 C fl_X3_21 dX3_bind_73 rfl q hN_q (σ q) rfl (CE_q hq_q _) (.int (σ q 3)) rfl ?_
      refine j_bipush 78 C (x := nI 60) dX3_bind_76 rfl (by decide) ?_
      obtain ⟨y78, e78, hz⟩ := ap_x hz
      refine s_V 81 C (As := [.int (nI 0), .int y9, .int (σ q 3), .int (nI 60)]) cv_X3_35 (c_X1_hold (l := l) (D := D) (K := K) (ad := ad) hG (hg := by omega) (hz := e78)) dX3_bind_78 rfl (11 + 2 * g) 1 (GH_r hG (by omega)) rfl (CE_go (by omega) _) rfl rfl rfl rfl rfl rfl ⟨⟨Nat.le_of_ble_eq_true rfl, Nat.le_of_ble_eq_true rfl⟩, Nat.zero_le _, Nat.zero_le _⟩ (Nat.le_of_ble_eq_true rfl) (st' := [.int y78.1]) rfl (fun hE => ?_)
      have hbl78 : bl y78.1 := hE
      subst hz
      exact j_retI C X dX3_bind_81 (bl_nar hbl78) ⟨rfl, rfl, rfl, rfl, hbl78⟩
    · replace hz := (if_neg c_1701).symm.trans hz
      rcases Classical.em ((σ q 2) = nI 2) with c_1702 | c_1702
      · replace hz := (if_pos c_1702).symm.trans hz
        refine j_swIn 82 C dX3_bind_17 (off := 65) (by rw [c_1702]; decide) (by rw [c_1702]; decide) (by rw [c_1702]; decide) rfl ?_
        refine j_aload_n 83 C dX3_bind_82 rfl rfl 2 rfl ?_
        refine j_iconst 84 C (x := nI 0) dX3_bind_83 rfl (by decide) ?_
        refine j_iload_n 85 C dX3_bind_84 rfl rfl 0 rfl ?_
        refine j_iconst 86 C (x := nI 0) dX3_bind_85 rfl (by decide) ?_
        refine j_aload_n 87 C dX3_bind_86 rfl rfl 1 rfl ?_
        refine k_get 90 C fl_X3_21 dX3_bind_87 rfl q hN_q (σ q) rfl (CE_q hq_q _) (.int (σ q 3)) rfl ?_
        obtain ⟨y90, e90, hz⟩ := ap_x hz
        refine s_V 93 C (As := [.int (nI 0), .int y9, .int (nI 0), .int (σ q 3)]) cv_X3_35 (c_X1_hold (l := l) (D := D) (K := K) (ad := ad) hG (hg := by omega) (hz := e90)) dX3_bind_90 rfl (11 + 2 * g) 1 (GH_r hG (by omega)) rfl (CE_go (by omega) _) rfl rfl rfl rfl rfl rfl ⟨⟨Nat.le_of_ble_eq_true rfl, Nat.le_of_ble_eq_true rfl⟩, Nat.zero_le _, Nat.zero_le _⟩ (Nat.le_of_ble_eq_true rfl) (st' := [.int y90.1]) rfl (fun hE => ?_)
        have hbl90 : bl y90.1 := hE
        subst hz
        exact j_retI C X dX3_bind_93 (bl_nar hbl90) ⟨rfl, rfl, rfl, rfl, hbl90⟩
      · replace hz := (if_neg c_1702).symm.trans hz
        refine j_swOut 94 C dX3_bind_17 (sw_out3 c_1700 c_1701 c_1702) rfl ?_
        refine j_aload_n 95 C dX3_bind_94 rfl rfl 2 rfl ?_
        refine j_iload_n 96 C dX3_bind_95 rfl rfl 0 rfl ?_
        refine j_aload_n 97 C dX3_bind_96 rfl rfl 3 rfl ?_
        refine j_aload_n 98 C dX3_bind_97 rfl rfl 1 rfl ?_
        refine k_get 101 C fl_X3_9 dX3_bind_98 rfl q hN_q (σ q) rfl (CE_q hq_q _) (.int (σ q 0)) rfl ?_
        refine j_aload_n 102 C dX3_bind_101 rfl rfl 1 rfl ?_
        refine k_get 105 C fl_X3_15 dX3_bind_102 rfl q hN_q (σ q) rfl (CE_q hq_q _) (.int (σ q 1)) rfl ?_
        refine j_iconst 106 C (x := nI 1) dX3_bind_105 rfl (by decide) ?_
        refine j_iadd 107 C dX3_bind_106 rfl rfl ?_
        obtain ⟨y107, e107, hz⟩ := ap_x hz
        refine s_V 110 C (As := [.int (σ q 0), .int ((σ q 1) + (nI 1))]) cv_X3_27 (c_X2_placeOf (l := l) (D := D) (K := K) (ad := ad) hG  (hz := e107)) dX3_bind_107 rfl 1 2 (GH_r hG (by decide)) rfl (CE_1 _) rfl rfl rfl rfl rfl rfl ⟨⟨Nat.le_of_ble_eq_true rfl, Nat.le_of_ble_eq_true rfl⟩, Nat.zero_le _, Nat.zero_le _⟩ (Nat.le_of_ble_eq_true rfl) (st' := [.int y107, .int y9, .ref (ad (11 + 2 * g))]) rfl (fun hE => ?_)
        refine j_aload_n 111 C dX3_bind_110 rfl rfl 1 rfl ?_
        refine k_get 114 C fl_X3_21 dX3_bind_111 rfl q hN_q (σ q) rfl (CE_q hq_q _) (.int (σ q 3)) rfl ?_
        refine j_aload_n 115 C dX3_bind_114 rfl rfl 1 rfl ?_
        refine k_get 118 C fl_X3_24 dX3_bind_115 rfl q hN_q (σ q) rfl (CE_q hq_q _) (.int (σ q 4)) rfl ?_
        refine j_isub 119 C dX3_bind_118 rfl rfl ?_
        refine j_aload_n 120 C dX3_bind_119 rfl rfl 1 rfl ?_
        refine k_get 123 C fl_X3_21 dX3_bind_120 rfl q hN_q (σ q) rfl (CE_q hq_q _) (.int (σ q 3)) rfl ?_
        refine j_aload_n 124 C dX3_bind_123 rfl rfl 1 rfl ?_
        refine k_get 127 C fl_X3_24 dX3_bind_124 rfl q hN_q (σ q) rfl (CE_q hq_q _) (.int (σ q 4)) rfl ?_
        refine j_iadd 128 C dX3_bind_127 rfl rfl ?_
        obtain ⟨y128, e128, hz⟩ := ap_x hz
        refine s_V 131 C (As := [.int y9, .int y107, .int ((σ q 3) - (σ q 4)), .int ((σ q 3) + (σ q 4))]) cv_X3_35 (c_X1_hold (l := l) (D := D) (K := K) (ad := ad) hG (hg := by omega) (hz := e128)) dX3_bind_128 rfl (11 + 2 * g) 1 (GH_r hG (by omega)) rfl (CE_go (by omega) _) rfl rfl rfl rfl rfl rfl ⟨⟨Nat.le_of_ble_eq_true rfl, Nat.le_of_ble_eq_true rfl⟩, Nat.zero_le _, Nat.zero_le _⟩ (Nat.le_of_ble_eq_true rfl) (st' := [.int y128.1]) rfl (fun hE => ?_)
        have hbl128 : bl y128.1 := hE
        subst hz
        exact j_retI C X dX3_bind_131 (bl_nar hbl128) ⟨rfl, rfl, rfl, rfl, hbl128⟩
def m_X4_at (W S ns nc : Nat) (B : Nat → Option Nat) (σ : Nat → Nat → Int32) (number : Int32) : Option Nat := (if number < 0 then none else (if (nI nc) ≤ number then none else B (number).toNatClampNeg))
abbrev rm_X4_at : Room := { frames := 0, cells := 0, slots := 0, locals := 0 }
set_option maxHeartbeats 4000000 in
set_option maxRecDepth 100000 in
theorem c_X4_at {l : Launch} {D : va_G} {K : Nat → ClassId} {W S ns nc N : Nat} {ad : Nat → Nat} {B : Nat → Option Nat} {σ : Nat → Nat → Int32} (hG : GH W S ns nc N) {number : Int32}  {z : Option Nat} (hz : m_X4_at W S ns nc B σ number = z)  : MC l yX4_at cX4_at 2 (some (.object "HillLayers$Sight")) rm_X4_at D (TY K) N ad (CT K W S ns nc ad B σ) [.ref (ad 7), .int number] (BS (some (va_rf (z.map ad))) N ad (CT K W S ns nc ad B σ) True) := by
  have hW := hG.1; have hW8 := hG.2.1; have hS := hG.2.2.1; have hS4 := hG.2.2.2.1; have hns := hG.2.2.2.2.1; have hnc := hG.2.2.2.2.2.1; have hWS := GH_ws hG
  refine MC.of (by decide) (Nat.le_of_ble_eq_true rfl) (fun p e s m args below meth c Q A H0 C X => ?_)
  replace C : Cx p s m args meth c cX4_at RX4 2 D (TY K) A H0 := C
  show J p l e rm_X4_at s m args below meth c Q D A H0 2 0 0 N ad (CT K W S ns nc ad B σ) 0 [(0, .ref (ad 7)), (1, .int number)] []
  unfold m_X4_at at hz
  refine j_iload_n 1 C dX4_at_0 rfl rfl 1 rfl ?_
  refine j_if_lt 21 4 C dX4_at_1 rfl rfl (fun c_1 => ?_) (fun c_1 => ?_)
  · replace hz := (if_pos c_1).symm.trans hz
    refine j_null 22 C dX4_at_21 rfl ?_
    subst hz
    exact j_retA C X (Or.inl ⟨_, rfl⟩) (Or.inl rfl) dX4_at_22 ⟨rfl, rfl, rfl, rfl, trivial⟩
  · replace hz := (if_neg c_1).symm.trans hz
    refine j_iload_n 5 C dX4_at_4 rfl rfl 1 rfl ?_
    refine j_aload_n 6 C dX4_at_5 rfl rfl 0 rfl ?_
    refine k_get 9 C fl_X4_17 dX4_at_6 rfl 7 (GH_r hG (by decide)) _ rfl (CE_7 _) (.int (nI nc)) rfl ?_
    refine j_ic_ge 21 12 C dX4_at_9 rfl rfl (fun c_9 => ?_) (fun c_9 => ?_)
    · replace hz := (if_pos c_9).symm.trans hz
      refine j_null 22 C dX4_at_21 rfl ?_
      subst hz
      exact j_retA C X (Or.inl ⟨_, rfl⟩) (Or.inl rfl) dX4_at_22 ⟨rfl, rfl, rfl, rfl, trivial⟩
    · replace hz := (if_neg c_9).symm.trans hz
      obtain ⟨kn, hkn, ekn⟩ : ∃ k : Nat, k < nc ∧ number = nI k := by
        obtain ⟨j, hj, rfl⟩ := nI_of c_1
        exact ⟨j, Nat.not_le.mp (fun q => c_9 ((nI_leI (by omega) hj).mpr q)), rfl⟩
      refine j_aload_n 13 C dX4_at_12 rfl rfl 0 rfl ?_
      refine k_get 16 C fl_X4_11 dX4_at_13 rfl 7 (GH_r hG (by decide)) _ rfl (CE_7 _) (.ref (ad 8)) rfl ?_
      refine j_iload_n 17 C dX4_at_16 rfl rfl 1 rfl ?_
      refine j_aldq 18 C dX4_at_17 rfl 8 (GH_r hG (by decide)) rfl (CE_8 _) 3 rfl (vp_inE (n := kn) (by simp only [ekn, nI_add, pk_mul]) (by omega) (by omega)) rfl (v := va_rf ((B (number).toNatClampNeg).map ad)) rfl ?_
      refine j_goto 22 C dX4_at_18 rfl ?_
      subst hz
      exact j_retA C X (Or.inl ⟨_, rfl⟩) (va_rf_or _) dX4_at_22 ⟨rfl, rfl, rfl, rfl, trivial⟩
theorem at_B {W S ns nc : Nat} {B : Nat → Option Nat} {σ : Nat → Nat → Int32} {v : Int32} {q : Nat} (h : m_X4_at W S ns nc B σ v = some q) : ∃ i : Nat, i < nc ∧ v = nI i ∧ B v.toNatClampNeg = some q := by
  unfold m_X4_at at h
  by_cases h0 : v < 0
  · rw [if_pos h0] at h; cases h
  rw [if_neg h0] at h
  by_cases h1 : nI nc ≤ v
  · rw [if_pos h1] at h; cases h
  rw [if_neg h1] at h
  obtain ⟨j, hj, rfl⟩ := nI_of h0
  exact ⟨j, Nat.not_le.mp (fun x => h1 (by rcases Nat.lt_or_ge nc (2 ^ 31) with y | y; exact (nI_leI y hj).mpr x; omega)), rfl, h⟩
theorem at_q {W S ns nc : Nat} {B : Nat → Option Nat} {σ : Nat → Nat → Int32} {N : Nat} (hB : BOK B N) {v : Int32} {q : Nat} {y : Option Nat} (e : m_X4_at W S ns nc B σ v = y) (h : y = some q) : 50 ≤ q ∧ q < N := by
  obtain ⟨i, _, _, h2⟩ := at_B (e.trans h)
  exact hB _ _ h2
def m_X4_came (W S ns nc : Nat) (B : Nat → Option Nat) (σ : Nat → Nat → Int32) : Int32 := nI nc
abbrev rm_X4_came : Room := { frames := 0, cells := 0, slots := 0, locals := 0 }
set_option maxHeartbeats 4000000 in
set_option maxRecDepth 100000 in
theorem c_X4_came {l : Launch} {D : va_G} {K : Nat → ClassId} {W S ns nc N : Nat} {ad : Nat → Nat} {B : Nat → Option Nat} {σ : Nat → Nat → Int32} (hG : GH W S ns nc N)   {z : Int32} (hz : m_X4_came W S ns nc B σ = z)  : MC l yX4_came cX4_came 1 (some .int) rm_X4_came D (TY K) N ad (CT K W S ns nc ad B σ) [.ref (ad 7)] (BS (some (.int z)) N ad (CT K W S ns nc ad B σ) True) := by
  have hW := hG.1; have hW8 := hG.2.1; have hS := hG.2.2.1; have hS4 := hG.2.2.2.1; have hns := hG.2.2.2.2.1; have hnc := hG.2.2.2.2.2.1; have hWS := GH_ws hG
  refine MC.of (by decide) (Nat.le_of_ble_eq_true rfl) (fun p e s m args below meth c Q A H0 C X => ?_)
  replace C : Cx p s m args meth c cX4_came RX4 1 D (TY K) A H0 := C
  show J p l e rm_X4_came s m args below meth c Q D A H0 1 0 0 N ad (CT K W S ns nc ad B σ) 0 [(0, .ref (ad 7))] []
  unfold m_X4_came at hz
  refine j_aload_n 1 C dX4_came_0 rfl rfl 0 rfl ?_
  refine k_get 4 C fl_X4_17 dX4_came_1 rfl 7 (GH_r hG (by decide)) _ rfl (CE_7 _) (.int (nI nc)) rfl ?_
  subst hz
  exact j_retI C X dX4_came_4 rfl ⟨rfl, rfl, rfl, rfl, trivial⟩
def m_X4_heap_L4 (W S ns nc : Nat) (B : Nat → Option Nat) (σ : Nat → Nat → Int32) (i4 : Nat) (c4 : Int32) : Int32 := ap (m_X4_at W S ns nc B σ (nI i4)) (fun (y14 : Option Nat) => (Option.elim y14 c4 (fun (q17 : Nat) => ap (c4 ||| ((nI 1) <<< ((nI i4) &&& 31))) (fun (x25 : Int32) => x25))))
def m_X4_heap (W S ns nc : Nat) (B : Nat → Option Nat) (σ : Nat → Nat → Int32) : Int32 := ap (lp (m_X4_heap_L4 W S ns nc B σ) (nc - 0) 0 (nI 0)) (fun (z4 : Int32) => z4)
abbrev rm_X4_heap : Room := { frames := 1, cells := 0, slots := 0, locals := 21 }
set_option maxHeartbeats 4000000 in
set_option maxRecDepth 100000 in
theorem c_X4_heap {l : Launch} {D : va_G} {K : Nat → ClassId} {W S ns nc N : Nat} {ad : Nat → Nat} {B : Nat → Option Nat} {σ : Nat → Nat → Int32} (hG : GH W S ns nc N)   {z : Int32} (hz : m_X4_heap W S ns nc B σ = z) (hB : BOK B N) : MC l yX4_heap cX4_heap 3 (some .int) rm_X4_heap D (TY K) N ad (CT K W S ns nc ad B σ) [.ref (ad 7)] (BS (some (.int z)) N ad (CT K W S ns nc ad B σ) True) := by
  have hW := hG.1; have hW8 := hG.2.1; have hS := hG.2.2.1; have hS4 := hG.2.2.2.1; have hns := hG.2.2.2.2.1; have hnc := hG.2.2.2.2.2.1; have hWS := GH_ws hG
  refine MC.of (by decide) (Nat.le_of_ble_eq_true rfl) (fun p e s m args below meth c Q A H0 C X => ?_)
  replace C : Cx p s m args meth c cX4_heap RX4 3 D (TY K) A H0 := C
  show J p l e rm_X4_heap s m args below meth c Q D A H0 3 0 0 N ad (CT K W S ns nc ad B σ) 0 [(0, .ref (ad 7))] []
  unfold m_X4_heap at hz
  refine j_iconst 1 C (x := nI 0) dX4_heap_0 rfl (by decide) ?_
  refine j_istore_n 2 C [(1, .int (nI 0)), (0, .ref (ad 7))] dX4_heap_1 rfl rfl (by decide) rfl ?_
  refine j_iconst 3 C (x := nI 0) dX4_heap_2 rfl (by decide) ?_
  refine j_istore_n 4 C [(2, .int (nI 0)), (1, .int (nI 0)), (0, .ref (ad 7))] dX4_heap_3 rfl rfl (by decide) rfl ?_
  skip
  obtain ⟨z4, ez4, hz⟩ := ap_x hz
  have L4 : ∀ (n4 i4 : Nat) (c4 : Int32), 0 ≤ i4 → i4 < 5000 → n4 = nc - i4 → lp (m_X4_heap_L4 W S ns nc B σ) n4 i4 c4 = z4 → J p l e rm_X4_heap s m args below meth c Q D A H0 3 0 0 N ad (CT K W S ns nc ad B σ) 4 [(0, .ref (ad 7)), (1, .int c4), (2, .int (nI i4))] [] := by
    intro n4
    induction n4 with
    | zero =>
      intro i4 c4 hl4 hi4 hn4 hz4
      refine j_iload_n 5 C dX4_heap_4 rfl rfl 2 rfl ?_
      refine j_aload_n 6 C dX4_heap_5 rfl rfl 0 rfl ?_
      refine k_get 9 C fl_X4_17 dX4_heap_6 rfl 7 (GH_r hG (by decide)) _ rfl (CE_7 _) (.int (nI nc)) rfl ?_
      refine j_ic_ge 32 12 C dX4_heap_9 rfl rfl (fun c_9 => ?_) (fun c_9 => ?_)
      · skip
        have n_9 := nat_le (a := nc) (b := i4) rfl rfl (by omega) (by omega) c_9
        have hq4 : c4 = z4 := hz4
        subst hq4
        refine j_iload_n 33 C dX4_heap_32 rfl rfl 1 rfl ?_
        subst hz
        exact j_retI C X dX4_heap_33 rfl ⟨rfl, rfl, rfl, rfl, trivial⟩
      · exfalso
        have n_9 := nat_nle (a := nc) (b := i4) rfl rfl (by omega) (by omega) c_9
        omega
    | succ n4 ih4 =>
      intro i4 c4 hl4 hi4 hn4 hz4
      refine j_iload_n 5 C dX4_heap_4 rfl rfl 2 rfl ?_
      refine j_aload_n 6 C dX4_heap_5 rfl rfl 0 rfl ?_
      refine k_get 9 C fl_X4_17 dX4_heap_6 rfl 7 (GH_r hG (by decide)) _ rfl (CE_7 _) (.int (nI nc)) rfl ?_
      refine j_ic_ge 32 12 C dX4_heap_9 rfl rfl (fun c_9 => ?_) (fun c_9 => ?_)
      · exfalso
        have n_9 := nat_le (a := nc) (b := i4) rfl rfl (by omega) (by omega) c_9
        omega
      · skip
        have n_9 := nat_nle (a := nc) (b := i4) rfl rfl (by omega) (by omega) c_9
        obtain ⟨w4, hw4, hz4⟩ := lp_s hz4
        have ho4 := hz
        clear hz
        have hz := hw4
        clear hw4
        unfold m_X4_heap_L4 at hz
        refine j_aload_n 13 C dX4_heap_12 rfl rfl 0 rfl ?_
        refine j_iload_n 14 C dX4_heap_13 rfl rfl 2 rfl ?_
        obtain ⟨y14, e14, hz⟩ := ap_x hz
        refine s_V 17 C (As := [.int (nI i4)]) cv_X4_21 (c_X4_at (l := l) (D := D) (K := K) (ad := ad) hG  (hz := e14)) dX4_heap_14 rfl 7 4 (GH_r hG (by decide)) rfl (CE_7 _) rfl rfl rfl rfl rfl rfl ⟨⟨Nat.le_of_ble_eq_true rfl, Nat.le_of_ble_eq_true rfl⟩, Nat.zero_le _, Nat.zero_le _⟩ (Nat.le_of_ble_eq_true rfl) (st' := [va_rf (y14.map ad)]) rfl (fun hE => ?_)
        refine j_ifnull 26 20 C dX4_heap_17 rfl rfl (fun c_17 => ?_) (fun a_17 c_17 => ?_)
        · skip
          replace c_17 := om_n c_17
          replace hz := oe_n c_17 hz
          refine j_iinc 29 C (x' := nI (i4 + 1)) [(2, .int (nI (i4 + 1))), (0, .ref (ad 7)), (1, .int c4)] dX4_heap_26 rfl 2 rfl (by rw [show Int32.ofInt 1 = nI 1 from by decide, nI_add]) (by decide) rfl ?_
          refine j_goto 4 C dX4_heap_29 rfl ?_
          subst hz
          refine j_lv [1, 2, 0] (lv' := [(0, .ref (ad 7)), (1, .int c4), (2, .int (nI (i4 + 1)))]) rfl ?_
          have hz := ho4
          exact ih4 (i4 + 1) c4 (by omega) (by omega) (by omega) hz4
        · skip
          obtain ⟨q17, c_17⟩ := om_s c_17
          replace hz := oe_s c_17 hz
          obtain ⟨hq_q17, hN_q17⟩ := at_q hB e14 c_17
          refine j_iload_n 21 C dX4_heap_20 rfl rfl 1 rfl ?_
          refine j_iconst 22 C (x := nI 1) dX4_heap_21 rfl (by decide) ?_
          refine j_iload_n 23 C dX4_heap_22 rfl rfl 2 rfl ?_
          refine j_ishl 24 C dX4_heap_23 rfl rfl ?_
          refine j_ior 25 C dX4_heap_24 rfl rfl ?_
          obtain ⟨x25, e25, hz⟩ := ap_x hz
          refine j_st (st' := [.int x25]) (by rw [← e25]) ?_
          refine j_istore_n 26 C [(1, .int x25), (0, .ref (ad 7)), (2, .int (nI i4))] dX4_heap_25 rfl rfl (by decide) rfl ?_
          refine j_iinc 29 C (x' := nI (i4 + 1)) [(2, .int (nI (i4 + 1))), (1, .int x25), (0, .ref (ad 7))] dX4_heap_26 rfl 2 rfl (by rw [show Int32.ofInt 1 = nI 1 from by decide, nI_add]) (by decide) rfl ?_
          refine j_goto 4 C dX4_heap_29 rfl ?_
          subst hz
          refine j_lv [2, 1, 0] (lv' := [(0, .ref (ad 7)), (1, .int x25), (2, .int (nI (i4 + 1)))]) rfl ?_
          have hz := ho4
          exact ih4 (i4 + 1) x25 (by omega) (by omega) (by omega) hz4
  refine j_lv [2, 1, 0] (lv' := [(0, .ref (ad 7)), (1, .int (nI 0)), (2, .int (nI 0))]) rfl ?_
  exact L4 _ 0 (nI 0) (by omega) (by omega) rfl ez4
def m_X4_add (W S ns nc : Nat) (B : Nat → Option Nat) (σ : Nat → Nat → Int32) (q : Nat) : Int32 × Nat × (Nat → Option Nat) := (if (nI nc) < (nI 10) then ((nI (nc + 1)) - (nI 1), (nc + 1), (va_up B (nI nc).toNatClampNeg (some q))) else ((-1), nc, B))
abbrev rm_X4_add : Room := { frames := 0, cells := 0, slots := 0, locals := 0 }
set_option maxHeartbeats 4000000 in
set_option maxRecDepth 100000 in
theorem c_X4_add {l : Launch} {D : va_G} {K : Nat → ClassId} {W S ns nc N : Nat} {ad : Nat → Nat} {B : Nat → Option Nat} {σ : Nat → Nat → Int32} (hG : GH W S ns nc N) {q : Nat} (hq_q : 50 ≤ q) (hN_q : q < N) {z : Int32 × Nat × (Nat → Option Nat)} (hz : m_X4_add W S ns nc B σ q = z)  : MC l yX4_add cX4_add 2 (some .int) rm_X4_add D (TY K) N ad (CT K W S ns nc ad B σ) [.ref (ad 7), .ref (ad q)] (BS (some (.int z.1)) N ad (CT K W S ns z.2.1 ad z.2.2 σ) (z.2.1 ≤ 10)) := by
  have hW := hG.1; have hW8 := hG.2.1; have hS := hG.2.2.1; have hS4 := hG.2.2.2.1; have hns := hG.2.2.2.2.1; have hnc := hG.2.2.2.2.2.1; have hWS := GH_ws hG
  refine MC.of (by decide) (Nat.le_of_ble_eq_true rfl) (fun p e s m args below meth c Q A H0 C X => ?_)
  replace C : Cx p s m args meth c cX4_add RX4 2 D (TY K) A H0 := C
  show J p l e rm_X4_add s m args below meth c Q D A H0 2 0 0 N ad (CT K W S ns nc ad B σ) 0 [(0, .ref (ad 7)), (1, .ref (ad q))] []
  unfold m_X4_add at hz
  refine j_aload_n 1 C dX4_add_0 rfl rfl 0 rfl ?_
  refine k_get 4 C fl_X4_17 dX4_add_1 rfl 7 (GH_r hG (by decide)) _ rfl (CE_7 _) (.int (nI nc)) rfl ?_
  refine j_aload_n 5 C dX4_add_4 rfl rfl 0 rfl ?_
  refine k_get 8 C fl_X4_11 dX4_add_5 rfl 7 (GH_r hG (by decide)) _ rfl (CE_7 _) (.ref (ad 8)) rfl ?_
  refine k_alen 9 C dX4_add_8 rfl 8 (GH_r hG (by decide)) 3 (CE_8 _) rfl ?_
  refine j_ic_lt 14 12 C dX4_add_9 rfl rfl (fun c_9 => ?_) (fun c_9 => ?_)
  · replace hz := (if_pos c_9).symm.trans hz
    have n_9 := nat_lt (a := nc) (b := 10) rfl rfl (by omega) (by omega) c_9
    refine j_aload_n 15 C dX4_add_14 rfl rfl 0 rfl ?_
    refine k_get 18 C fl_X4_11 dX4_add_15 rfl 7 (GH_r hG (by decide)) _ rfl (CE_7 _) (.ref (ad 8)) rfl ?_
    refine j_aload_n 19 C dX4_add_18 rfl rfl 0 rfl ?_
    refine k_get 22 C fl_X4_17 dX4_add_19 rfl 7 (GH_r hG (by decide)) _ rfl (CE_7 _) (.int (nI nc)) rfl ?_
    refine j_aload_n 23 C dX4_add_22 rfl rfl 1 rfl ?_
    refine k_astq8 24 C dX4_add_23 rfl (GH_r hG (by decide)) hq_q hN_q (vp_inE (n := nc) rfl (by omega) (by omega)) ?_
    refine j_aload_n 25 C dX4_add_24 rfl rfl 0 rfl ?_
    refine j_dup 26 C dX4_add_25 rfl rfl ?_
    refine k_get 29 C fl_X4_17 dX4_add_26 rfl 7 (GH_r hG (by decide)) _ rfl (CE_7 _) (.int (nI nc)) rfl ?_
    refine j_iconst 30 C (x := nI 1) dX4_add_29 rfl (by decide) ?_
    refine j_iadd 31 C dX4_add_30 rfl rfl ?_
    refine k_putnc 34 C fl_X4_17 fp_X4 dX4_add_31 rfl (GH_r hG (by decide)) (nc' := nc + 1) (by simp only [nI_add]) ?_
    refine j_aload_n 35 C dX4_add_34 rfl rfl 0 rfl ?_
    refine k_get 38 C fl_X4_17 dX4_add_35 rfl 7 (GH_r hG (by decide)) _ rfl (CE_7 _) (.int (nI (nc + 1))) rfl ?_
    refine j_iconst 39 C (x := nI 1) dX4_add_38 rfl (by decide) ?_
    refine j_isub 40 C dX4_add_39 rfl rfl ?_
    subst hz
    exact j_retI C X dX4_add_40 rfl ⟨rfl, rfl, rfl, rfl, (by first | (show nc + 1 ≤ 10; omega) | (show nc ≤ 10; omega))⟩
  · replace hz := (if_neg c_9).symm.trans hz
    have n_9 := nat_nlt (a := nc) (b := 10) rfl rfl (by omega) (by omega) c_9
    refine j_iconst 13 C (x := (-1)) dX4_add_12 rfl (by decide) ?_
    subst hz
    exact j_retI C X dX4_add_13 rfl ⟨rfl, rfl, rfl, rfl, (by first | (show nc + 1 ≤ 10; omega) | (show nc ≤ 10; omega))⟩
def m_X4_remove (W S ns nc : Nat) (B : Nat → Option Nat) (σ : Nat → Nat → Int32) (number : Int32) : Int32 × (Nat → Option Nat) := ap (m_X4_at W S ns nc B σ number) (fun (y2 : Option Nat) => (Option.elim y2 (nI 0, B) (fun (q5 : Nat) => (nI 1, (va_up B (number).toNatClampNeg none)))))
abbrev rm_X4_remove : Room := { frames := 1, cells := 0, slots := 0, locals := 21 }
set_option maxHeartbeats 4000000 in
set_option maxRecDepth 100000 in
theorem c_X4_remove {l : Launch} {D : va_G} {K : Nat → ClassId} {W S ns nc N : Nat} {ad : Nat → Nat} {B : Nat → Option Nat} {σ : Nat → Nat → Int32} (hG : GH W S ns nc N) {number : Int32}  {z : Int32 × (Nat → Option Nat)} (hz : m_X4_remove W S ns nc B σ number = z) (hB : BOK B N) : MC l yX4_remove cX4_remove 2 (some .boolean) rm_X4_remove D (TY K) N ad (CT K W S ns nc ad B σ) [.ref (ad 7), .int number] (BS (some (.int z.1)) N ad (CT K W S ns nc ad z.2 σ) (bl z.1)) := by
  have hW := hG.1; have hW8 := hG.2.1; have hS := hG.2.2.1; have hS4 := hG.2.2.2.1; have hns := hG.2.2.2.2.1; have hnc := hG.2.2.2.2.2.1; have hWS := GH_ws hG
  refine MC.of (by decide) (Nat.le_of_ble_eq_true rfl) (fun p e s m args below meth c Q A H0 C X => ?_)
  replace C : Cx p s m args meth c cX4_remove RX4 2 D (TY K) A H0 := C
  show J p l e rm_X4_remove s m args below meth c Q D A H0 2 0 0 N ad (CT K W S ns nc ad B σ) 0 [(0, .ref (ad 7)), (1, .int number)] []
  unfold m_X4_remove at hz
  refine j_aload_n 1 C dX4_remove_0 rfl rfl 0 rfl ?_
  refine j_iload_n 2 C dX4_remove_1 rfl rfl 1 rfl ?_
  obtain ⟨y2, e2, hz⟩ := ap_x hz
  refine s_V 5 C (As := [.int number]) cv_X4_21 (c_X4_at (l := l) (D := D) (K := K) (ad := ad) hG  (hz := e2)) dX4_remove_2 rfl 7 4 (GH_r hG (by decide)) rfl (CE_7 _) rfl rfl rfl rfl rfl rfl ⟨⟨Nat.le_of_ble_eq_true rfl, Nat.le_of_ble_eq_true rfl⟩, Nat.zero_le _, Nat.zero_le _⟩ (Nat.le_of_ble_eq_true rfl) (st' := [va_rf (y2.map ad)]) rfl (fun hE => ?_)
  refine j_ifnonnull 10 8 C dX4_remove_5 rfl rfl (fun a_5 c_5 => ?_) (fun c_5 => ?_)
  · skip
    obtain ⟨q5, c_5⟩ := om_s c_5
    replace hz := oe_s c_5 hz
    obtain ⟨hq_q5, hN_q5⟩ := at_q hB e2 c_5
    refine j_aload_n 11 C dX4_remove_10 rfl rfl 0 rfl ?_
    refine k_get 14 C fl_X4_11 dX4_remove_11 rfl 7 (GH_r hG (by decide)) _ rfl (CE_7 _) (.ref (ad 8)) rfl ?_
    refine j_iload_n 15 C dX4_remove_14 rfl rfl 1 rfl ?_
    refine j_null 16 C dX4_remove_15 rfl ?_
    refine k_astq8N 17 C dX4_remove_16 rfl (GH_r hG (by decide)) (by obtain ⟨i, hi, e5, _⟩ := at_B (e2.trans c_5); exact vp_inE e5 (by omega) (by omega)) ?_
    refine j_iconst 18 C (x := nI 1) dX4_remove_17 rfl (by decide) ?_
    subst hz
    exact j_retI C X dX4_remove_18 (bl_nar bl_1) ⟨rfl, rfl, rfl, rfl, bl_1⟩
  · skip
    replace c_5 := om_n c_5
    replace hz := oe_n c_5 hz
    refine j_iconst 9 C (x := nI 0) dX4_remove_8 rfl (by decide) ?_
    subst hz
    exact j_retI C X dX4_remove_9 (bl_nar bl_0) ⟨rfl, rfl, rfl, rfl, bl_0⟩
def m_X0_forgetRock (W S ns nc : Nat) (B : Nat → Option Nat) (σ : Nat → Nat → Int32) : (Nat → Int32) := (upd (upd (σ 9) 5 (nI 0)) 6 (nI 0))
abbrev rm_X0_forgetRock : Room := { frames := 0, cells := 0, slots := 0, locals := 0 }
set_option maxHeartbeats 4000000 in
set_option maxRecDepth 100000 in
theorem c_X0_forgetRock {l : Launch} {D : va_G} {K : Nat → ClassId} {W S ns nc N : Nat} {ad : Nat → Nat} {B : Nat → Option Nat} {σ : Nat → Nat → Int32} (hG : GH W S ns nc N)   {z : (Nat → Int32)} (hz : m_X0_forgetRock W S ns nc B σ = z)  : MC l yX0_forgetRock cX0_forgetRock 1 none rm_X0_forgetRock D (TY K) N ad (CT K W S ns nc ad B σ) [.ref (ad 9)] (BS none N ad (CT K W S ns nc ad B (sA σ 9 z)) True) := by
  have hW := hG.1; have hW8 := hG.2.1; have hS := hG.2.2.1; have hS4 := hG.2.2.2.1; have hns := hG.2.2.2.2.1; have hnc := hG.2.2.2.2.2.1; have hWS := GH_ws hG
  refine MC.of (by decide) (Nat.le_of_ble_eq_true rfl) (fun p e s m args below meth c Q A H0 C X => ?_)
  replace C : Cx p s m args meth c cX0_forgetRock RX0 1 D (TY K) A H0 := C
  show J p l e rm_X0_forgetRock s m args below meth c Q D A H0 1 0 0 N ad (CT K W S ns nc ad B σ) 0 [(0, .ref (ad 9))] []
  unfold m_X0_forgetRock at hz
  refine j_aload_n 1 C dX0_forgetRock_0 rfl rfl 0 rfl ?_
  refine j_iconst 2 C (x := nI 0) dX0_forgetRock_1 rfl (by decide) ?_
  refine k_put 5 C fl_X0_17 fp_X0 rfl dX0_forgetRock_2 rfl 9 (GH_r hG (by decide)) (σ 9) rfl (CE_9 _) (bl_nar bl_0) (bl_fit bl_0) (Nat.le_of_ble_eq_true rfl) rfl (sA σ 9 (upd (σ 9) 5 (nI 0))) rfl ?_
  refine j_aload_n 6 C dX0_forgetRock_5 rfl rfl 0 rfl ?_
  refine j_iconst 7 C (x := nI 0) dX0_forgetRock_6 rfl (by decide) ?_
  refine k_put 10 C fl_X0_21 fp_X0 rfl dX0_forgetRock_7 rfl 9 (GH_r hG (by decide)) (upd (σ 9) 5 (nI 0)) rfl (CE_9 _) (bl_nar bl_0) (bl_fit bl_0) (Nat.le_of_ble_eq_true rfl) rfl (sA σ 9 (upd (upd (σ 9) 5 (nI 0)) 6 (nI 0))) sA_top ?_
  subst hz
  exact j_retV C X dX0_forgetRock_10 ⟨rfl, rfl, rfl, rfl, trivial⟩
def m_X0_forgetQuarrel (W S ns nc : Nat) (B : Nat → Option Nat) (σ : Nat → Nat → Int32) : (Nat → Int32) := (upd (σ 9) 6 (nI 0))
abbrev rm_X0_forgetQuarrel : Room := { frames := 0, cells := 0, slots := 0, locals := 0 }
set_option maxHeartbeats 4000000 in
set_option maxRecDepth 100000 in
theorem c_X0_forgetQuarrel {l : Launch} {D : va_G} {K : Nat → ClassId} {W S ns nc N : Nat} {ad : Nat → Nat} {B : Nat → Option Nat} {σ : Nat → Nat → Int32} (hG : GH W S ns nc N)   {z : (Nat → Int32)} (hz : m_X0_forgetQuarrel W S ns nc B σ = z)  : MC l yX0_forgetQuarrel cX0_forgetQuarrel 1 none rm_X0_forgetQuarrel D (TY K) N ad (CT K W S ns nc ad B σ) [.ref (ad 9)] (BS none N ad (CT K W S ns nc ad B (sA σ 9 z)) True) := by
  have hW := hG.1; have hW8 := hG.2.1; have hS := hG.2.2.1; have hS4 := hG.2.2.2.1; have hns := hG.2.2.2.2.1; have hnc := hG.2.2.2.2.2.1; have hWS := GH_ws hG
  refine MC.of (by decide) (Nat.le_of_ble_eq_true rfl) (fun p e s m args below meth c Q A H0 C X => ?_)
  replace C : Cx p s m args meth c cX0_forgetQuarrel RX0 1 D (TY K) A H0 := C
  show J p l e rm_X0_forgetQuarrel s m args below meth c Q D A H0 1 0 0 N ad (CT K W S ns nc ad B σ) 0 [(0, .ref (ad 9))] []
  unfold m_X0_forgetQuarrel at hz
  refine j_aload_n 1 C dX0_forgetQuarrel_0 rfl rfl 0 rfl ?_
  refine j_iconst 2 C (x := nI 0) dX0_forgetQuarrel_1 rfl (by decide) ?_
  refine k_put 5 C fl_X0_21 fp_X0 rfl dX0_forgetQuarrel_2 rfl 9 (GH_r hG (by decide)) (σ 9) rfl (CE_9 _) (bl_nar bl_0) (bl_fit bl_0) (Nat.le_of_ble_eq_true rfl) rfl (sA σ 9 (upd (σ 9) 6 (nI 0))) rfl ?_
  subst hz
  exact j_retV C X dX0_forgetQuarrel_5 ⟨rfl, rfl, rfl, rfl, trivial⟩
def m_X0_leftOut (W S ns nc : Nat) (B : Nat → Option Nat) (σ : Nat → Nat → Int32) : Int32 := σ 9 8
abbrev rm_X0_leftOut : Room := { frames := 0, cells := 0, slots := 0, locals := 0 }
set_option maxHeartbeats 4000000 in
set_option maxRecDepth 100000 in
theorem c_X0_leftOut {l : Launch} {D : va_G} {K : Nat → ClassId} {W S ns nc N : Nat} {ad : Nat → Nat} {B : Nat → Option Nat} {σ : Nat → Nat → Int32} (hG : GH W S ns nc N)   {z : Int32} (hz : m_X0_leftOut W S ns nc B σ = z)  : MC l yX0_leftOut cX0_leftOut 1 (some .int) rm_X0_leftOut D (TY K) N ad (CT K W S ns nc ad B σ) [.ref (ad 9)] (BS (some (.int z)) N ad (CT K W S ns nc ad B σ) True) := by
  have hW := hG.1; have hW8 := hG.2.1; have hS := hG.2.2.1; have hS4 := hG.2.2.2.1; have hns := hG.2.2.2.2.1; have hnc := hG.2.2.2.2.2.1; have hWS := GH_ws hG
  refine MC.of (by decide) (Nat.le_of_ble_eq_true rfl) (fun p e s m args below meth c Q A H0 C X => ?_)
  replace C : Cx p s m args meth c cX0_leftOut RX0 1 D (TY K) A H0 := C
  show J p l e rm_X0_leftOut s m args below meth c Q D A H0 1 0 0 N ad (CT K W S ns nc ad B σ) 0 [(0, .ref (ad 9))] []
  unfold m_X0_leftOut at hz
  refine j_aload_n 1 C dX0_leftOut_0 rfl rfl 0 rfl ?_
  refine k_get 4 C fl_X0_27 dX0_leftOut_1 rfl 9 (GH_r hG (by decide)) (σ 9) rfl (CE_9 _) (.int (σ 9 8)) rfl ?_
  subst hz
  exact j_retI C X dX0_leftOut_4 rfl ⟨rfl, rfl, rfl, rfl, trivial⟩
def m_X0_agreed (W S ns nc : Nat) (B : Nat → Option Nat) (σ : Nat → Nat → Int32) : Unit := ()
abbrev rm_X0_agreed : Room := { frames := 0, cells := 0, slots := 0, locals := 0 }
set_option maxHeartbeats 4000000 in
set_option maxRecDepth 100000 in
theorem c_X0_agreed {l : Launch} {D : va_G} {K : Nat → ClassId} {W S ns nc N : Nat} {ad : Nat → Nat} {B : Nat → Option Nat} {σ : Nat → Nat → Int32} (hG : GH W S ns nc N)   {z : Unit} (hz : m_X0_agreed W S ns nc B σ = z)  : MC l yX0_agreed cX0_agreed 1 (some (.object "HillLayers$Gaps")) rm_X0_agreed D (TY K) N ad (CT K W S ns nc ad B σ) [.ref (ad 9)] (BS (some (.ref (ad 33))) N ad (CT K W S ns nc ad B σ) True) := by
  have hW := hG.1; have hW8 := hG.2.1; have hS := hG.2.2.1; have hS4 := hG.2.2.2.1; have hns := hG.2.2.2.2.1; have hnc := hG.2.2.2.2.2.1; have hWS := GH_ws hG
  refine MC.of (by decide) (Nat.le_of_ble_eq_true rfl) (fun p e s m args below meth c Q A H0 C X => ?_)
  replace C : Cx p s m args meth c cX0_agreed RX0 1 D (TY K) A H0 := C
  show J p l e rm_X0_agreed s m args below meth c Q D A H0 1 0 0 N ad (CT K W S ns nc ad B σ) 0 [(0, .ref (ad 9))] []
  unfold m_X0_agreed at hz
  refine j_aload_n 1 C dX0_agreed_0 rfl rfl 0 rfl ?_
  refine k_get 4 C fl_X0_52 dX0_agreed_1 rfl 9 (GH_r hG (by decide)) (σ 9) rfl (CE_9 _) (.ref (ad 33)) rfl ?_
  subst hz
  exact j_retA C X (Or.inl ⟨_, rfl⟩) (Or.inr ⟨_, rfl⟩) dX0_agreed_4 ⟨rfl, rfl, rfl, rfl, trivial⟩
end
section
def m_X0_decide (W S ns nc : Nat) (B : Nat → Option Nat) : Nat → (Nat → Nat → Int32) → Nat → Int32 → (Nat → Nat → Int32)
  | 0, σ, g, out => ap (m_J6_bitCount_0f7a4 W S ns nc B σ out) (fun (y1 : Int32) => ap (m_J6_bitCount_0f7a4 W S ns nc B σ (σ 9 8)) (fun (y8 : Int32) => (if y1 < y8 then (if (nI 0) ≤ (nI 10) then ap (m_X1_copyFrom W S ns nc B (sA σ 9 (upd (σ 9) 8 out)) 11 g) (fun (y39 : (Nat → Int32)) => (sA (sA σ 9 (upd (σ 9) 8 out)) (12 + 2 * 11) y39)) else σ) else σ)))
  | n + 1, σ, g, out => ap (m_J6_bitCount_0f7a4 W S ns nc B σ out) (fun (y1 : Int32) => ap (m_J6_bitCount_0f7a4 W S ns nc B σ (σ 9 8)) (fun (y8 : Int32) => (if y1 < y8 then (if (nI (n + 1)) ≤ (nI 10) then (if 0 < (nI (n + 1)) then ap (m_X4_at W S ns nc B σ (nI n)) (fun (y54 : Option Nat) => ap (m_X1_copyFrom W S ns nc B σ n g) (fun (y71 : (Nat → Int32)) => (Option.elim y54 (ap (m_X0_decide W S ns nc B n (sA σ (12 + 2 * n) y71) n out) (fun (y99 : (Nat → Nat → Int32)) => (Option.elim y54 y99 (fun (q104 : Nat) => ap (m_X0_decide W S ns nc B n y99 g (out ||| ((nI 1) <<< ((nI n) &&& 31)))) (fun (y117 : (Nat → Nat → Int32)) => y117))))) (fun (q76 : Nat) => ap (m_X3_bind W S ns nc B (sA σ (12 + 2 * n) y71) q76 n) (fun (y87 : Int32 × (Nat → Int32)) => (if y87.1 = 0 then ap (m_X0_decide W S ns nc B n (sA σ (12 + 2 * n) y87.2) g (out ||| ((nI 1) <<< ((nI n) &&& 31)))) (fun (y117 : (Nat → Nat → Int32)) => y117) else ap (m_X0_decide W S ns nc B n (sA σ (12 + 2 * n) y87.2) n out) (fun (y99 : (Nat → Nat → Int32)) => ap (m_X0_decide W S ns nc B n y99 g (out ||| ((nI 1) <<< ((nI n) &&& 31)))) (fun (y117 : (Nat → Nat → Int32)) => y117)))))))) else ap (m_X1_copyFrom W S ns nc B (sA σ 9 (upd (σ 9) 8 out)) 11 g) (fun (y39 : (Nat → Int32)) => (sA (sA σ 9 (upd (σ 9) 8 out)) (12 + 2 * 11) y39))) else σ) else σ)))
abbrev rm_X0_decide (n : Nat) : Room := { frames := 4 + n, cells := 0, slots := 0, locals := 114 + 26 * n }
set_option maxHeartbeats 8000000 in
set_option maxRecDepth 100000 in
theorem c_X0_decide {l : Launch} {D : va_G} {K : Nat → ClassId} {W S ns nc N : Nat} {ad : Nat → Nat} {B : Nat → Option Nat} (hG : GH W S ns nc N) (hB : BOK B N) : ∀ (n : Nat), n ≤ 10 → ∀ {σ : Nat → Nat → Int32} {g : Nat} (hg : g < 12) {out : Int32} {z : Nat → Nat → Int32} (hz : m_X0_decide W S ns nc B n σ g out = z), MC l yX0_decide cX0_decide 7 none (rm_X0_decide n) D (TY K) N ad (CT K W S ns nc ad B σ) [.ref (ad 9), .ref (ad (11 + 2 * g)), .int (nI n), .int out] (BS none N ad (CT K W S ns nc ad B z) True) := by
  have hW := hG.1; have hW8 := hG.2.1; have hS := hG.2.2.1; have hS4 := hG.2.2.2.1; have hns := hG.2.2.2.2.1; have hnc := hG.2.2.2.2.2.1; have hWS := GH_ws hG
  intro n
  induction n with
  | zero =>
    intro hn σ g hg out z hz
    refine MC.of (by decide) (Nat.le_of_ble_eq_true rfl) (fun p e s m args below meth c Q A H0 C X => ?_)
    replace C : Cx p s m args meth c cX0_decide RX0 7 D (TY K) A H0 := C
    show J p l e (rm_X0_decide 0) s m args below meth c Q D A H0 7 0 0 N ad (CT K W S ns nc ad B σ) 0 [(0, .ref (ad 9)), (1, .ref (ad (11 + 2 * g))), (2, .int (nI 0)), (3, .int out)] []
    unfold m_X0_decide at hz
    refine j_iload_n 1 C dX0_decide_0 rfl rfl 3 rfl ?_
    obtain ⟨y1, e1, hz⟩ := ap_x hz
    refine s_S 4 C (As := [.int out]) cs_X0_87 (c_J6_bitCount_0f7a4 (l := l) (D := D) (K := K) (ad := ad) hG  (hz := e1)) dX0_decide_1 rfl rfl rfl rfl rfl ⟨⟨Nat.le_of_ble_eq_true rfl, Nat.le_of_ble_eq_true rfl⟩, Nat.zero_le _, Nat.zero_le _⟩ (Nat.le_of_ble_eq_true rfl) (st' := [.int y1]) rfl (fun hE => ?_)
    refine j_aload_n 5 C dX0_decide_4 rfl rfl 0 rfl ?_
    refine k_get 8 C fl_X0_27 dX0_decide_5 rfl 9 (GH_r hG (by decide)) (σ 9) rfl (CE_9 _) (.int (σ 9 8)) rfl ?_
    obtain ⟨y8, e8, hz⟩ := ap_x hz
    refine s_S 11 C (As := [.int (σ 9 8)]) cs_X0_87 (c_J6_bitCount_0f7a4 (l := l) (D := D) (K := K) (ad := ad) hG  (hz := e8)) dX0_decide_8 rfl rfl rfl rfl rfl ⟨⟨Nat.le_of_ble_eq_true rfl, Nat.le_of_ble_eq_true rfl⟩, Nat.zero_le _, Nat.zero_le _⟩ (Nat.le_of_ble_eq_true rfl) (st' := [.int y8, .int y1]) rfl (fun hE => ?_)
    refine j_ic_lt 15 14 C dX0_decide_11 rfl rfl (fun c_11 => ?_) (fun c_11 => ?_)
    · replace hz := (if_pos c_11).symm.trans hz
      refine j_iload_n 16 C dX0_decide_15 rfl rfl 2 rfl ?_
      refine j_aload_n 17 C dX0_decide_16 rfl rfl 0 rfl ?_
      refine k_get 20 C fl_X0_11 dX0_decide_17 rfl 9 (GH_r hG (by decide)) (σ 9) rfl (CE_9 _) (.ref (ad 10)) rfl ?_
      refine k_alen 21 C dX0_decide_20 rfl 10 (GH_r hG (by decide)) 2 (CE_10 _) rfl ?_
      refine j_ic_le 25 24 C dX0_decide_21 rfl rfl (fun c_21 => ?_) (fun c_21 => ?_)
      · replace hz := (if_pos c_21).symm.trans hz
        have n_21 := nat_le (a := 0) (b := 10) rfl rfl (by omega) (by omega) c_21
        refine j_iload_n 26 C dX0_decide_25 rfl rfl 2 rfl ?_
        refine j_if_gt 43 29 C dX0_decide_26 rfl rfl (fun c_26 => ?_) (fun c_26 => ?_)
        · exact absurd c_26 (by decide)
        · skip
          refine j_aload_n 30 C dX0_decide_29 rfl rfl 0 rfl ?_
          refine j_iload_n 31 C dX0_decide_30 rfl rfl 3 rfl ?_
          refine k_put 34 C fl_X0_27 fp_X0 rfl dX0_decide_31 rfl 9 (GH_r hG (by decide)) (σ 9) rfl (CE_9 _) rfl rfl (Nat.le_of_ble_eq_true rfl) rfl (sA σ 9 (upd (σ 9) 8 out)) rfl ?_
          refine j_aload_n 35 C dX0_decide_34 rfl rfl 0 rfl ?_
          refine k_get 38 C fl_X0_52 dX0_decide_35 rfl 9 (GH_r hG (by decide)) (upd (σ 9) 8 out) rfl (CE_9 _) (.ref (ad 33)) rfl ?_
          refine j_aload_n 39 C dX0_decide_38 rfl rfl 1 rfl ?_
          obtain ⟨y39, e39, hz⟩ := ap_x hz
          refine s_V 42 C (As := [.ref (ad (11 + 2 * g))]) cv_X0_70 (c_X1_copyFrom (l := l) (D := D) (K := K) (ad := ad) hG (hg := by decide) (h_other := by omega) (hz := e39)) dX0_decide_39 rfl 33 1 (GH_r hG (by decide)) rfl (CE_go (g := 11) (by decide) _) rfl rfl rfl rfl rfl rfl ⟨⟨Nat.le_of_ble_eq_true rfl, Nat.le_of_ble_eq_true rfl⟩, Nat.zero_le _, Nat.zero_le _⟩ (Nat.le_of_ble_eq_true rfl) (st' := []) rfl (fun hE => ?_)
          subst hz
          exact j_retV C X dX0_decide_42 ⟨rfl, rfl, rfl, rfl, trivial⟩
      · replace hz := (if_neg c_21).symm.trans hz
        have n_21 := nat_nle (a := 0) (b := 10) rfl rfl (by omega) (by omega) c_21
        subst hz
        exact j_retV C X dX0_decide_24 ⟨rfl, rfl, rfl, rfl, trivial⟩
    · replace hz := (if_neg c_11).symm.trans hz
      subst hz
      exact j_retV C X dX0_decide_14 ⟨rfl, rfl, rfl, rfl, trivial⟩
  | succ n ih =>
    intro hn σ g hg out z hz
    refine MC.of (by decide) (Nat.le_of_ble_eq_true rfl) (fun p e s m args below meth c Q A H0 C X => ?_)
    replace C : Cx p s m args meth c cX0_decide RX0 7 D (TY K) A H0 := C
    show J p l e (rm_X0_decide (n + 1)) s m args below meth c Q D A H0 7 0 0 N ad (CT K W S ns nc ad B σ) 0 [(0, .ref (ad 9)), (1, .ref (ad (11 + 2 * g))), (2, .int (nI (n + 1))), (3, .int out)] []
    unfold m_X0_decide at hz
    refine j_iload_n 1 C dX0_decide_0 rfl rfl 3 rfl ?_
    obtain ⟨y1, e1, hz⟩ := ap_x hz
    refine s_S 4 C (As := [.int out]) cs_X0_87 (c_J6_bitCount_0f7a4 (l := l) (D := D) (K := K) (ad := ad) hG  (hz := e1)) dX0_decide_1 rfl rfl rfl rfl rfl ⟨⟨rm_le (Nat.le_of_ble_eq_true rfl), rm_le (Nat.le_of_ble_eq_true rfl)⟩, Nat.zero_le _, Nat.zero_le _⟩ (Nat.le_of_ble_eq_true rfl) (st' := [.int y1]) rfl (fun hE => ?_)
    refine j_aload_n 5 C dX0_decide_4 rfl rfl 0 rfl ?_
    refine k_get 8 C fl_X0_27 dX0_decide_5 rfl 9 (GH_r hG (by decide)) (σ 9) rfl (CE_9 _) (.int (σ 9 8)) rfl ?_
    obtain ⟨y8, e8, hz⟩ := ap_x hz
    refine s_S 11 C (As := [.int (σ 9 8)]) cs_X0_87 (c_J6_bitCount_0f7a4 (l := l) (D := D) (K := K) (ad := ad) hG  (hz := e8)) dX0_decide_8 rfl rfl rfl rfl rfl ⟨⟨rm_le (Nat.le_of_ble_eq_true rfl), rm_le (Nat.le_of_ble_eq_true rfl)⟩, Nat.zero_le _, Nat.zero_le _⟩ (Nat.le_of_ble_eq_true rfl) (st' := [.int y8, .int y1]) rfl (fun hE => ?_)
    refine j_ic_lt 15 14 C dX0_decide_11 rfl rfl (fun c_11 => ?_) (fun c_11 => ?_)
    · replace hz := (if_pos c_11).symm.trans hz
      refine j_iload_n 16 C dX0_decide_15 rfl rfl 2 rfl ?_
      refine j_aload_n 17 C dX0_decide_16 rfl rfl 0 rfl ?_
      refine k_get 20 C fl_X0_11 dX0_decide_17 rfl 9 (GH_r hG (by decide)) (σ 9) rfl (CE_9 _) (.ref (ad 10)) rfl ?_
      refine k_alen 21 C dX0_decide_20 rfl 10 (GH_r hG (by decide)) 2 (CE_10 _) rfl ?_
      refine j_ic_le 25 24 C dX0_decide_21 rfl rfl (fun c_21 => ?_) (fun c_21 => ?_)
      · replace hz := (if_pos c_21).symm.trans hz
        have n_21 := nat_le (a := (n + 1)) (b := 10) rfl rfl (by omega) (by omega) c_21
        refine j_iload_n 26 C dX0_decide_25 rfl rfl 2 rfl ?_
        refine j_if_gt 43 29 C dX0_decide_26 rfl rfl (fun c_26 => ?_) (fun c_26 => ?_)
        · replace hz := (if_pos c_26).symm.trans hz
          refine j_iload_n 44 C dX0_decide_43 rfl rfl 2 rfl ?_
          refine j_iconst 45 C (x := nI 1) dX0_decide_44 rfl (by decide) ?_
          refine j_isub 46 C dX0_decide_45 rfl rfl ?_
          refine j_st (st' := [.int (nI n)]) (by rw [show (nI (n + 1)) - (nI 1) = nI n from (pk_sub (by omega)).trans (by rw [Nat.add_sub_cancel])]) ?_
          refine j_istore 48 C [(4, .int (nI n)), (0, .ref (ad 9)), (1, .ref (ad (11 + 2 * g))), (2, .int (nI (n + 1))), (3, .int out)] dX0_decide_46 rfl (by decide) rfl ?_
          refine j_aload_n 49 C dX0_decide_48 rfl rfl 1 rfl ?_
          refine k_get 52 C fl_X0_35 dX0_decide_49 rfl 9 (GH_r hG (by decide)) (σ 9) rfl (CE_9 _) (.ref (ad 7)) rfl ?_
          refine j_iload 54 C dX0_decide_52 rfl 0 rfl ?_
          obtain ⟨y54, e54, hz⟩ := ap_x hz
          refine s_V 57 C (As := [.int (nI n)]) cv_X0_93 (c_X4_at (l := l) (D := D) (K := K) (ad := ad) hG  (hz := e54)) dX0_decide_54 rfl 7 4 (GH_r hG (by decide)) rfl (CE_7 _) rfl rfl rfl rfl rfl rfl ⟨⟨rm_le (Nat.le_of_ble_eq_true rfl), rm_le (Nat.le_of_ble_eq_true rfl)⟩, Nat.zero_le _, Nat.zero_le _⟩ (Nat.le_of_ble_eq_true rfl) (st' := [va_rf (y54.map ad)]) rfl (fun hE => ?_)
          refine j_astore_o 59 C [(5, va_rf (y54.map ad)), (4, .int (nI n)), (0, .ref (ad 9)), (1, .ref (ad (11 + 2 * g))), (2, .int (nI (n + 1))), (3, .int out)] dX0_decide_57 rfl (by decide) rfl ?_
          refine j_aload_n 60 C dX0_decide_59 rfl rfl 2 rfl ?_
          refine k_get 63 C fl_X0_11 dX0_decide_60 rfl 9 (GH_r hG (by decide)) (σ 9) rfl (CE_9 _) (.ref (ad 10)) rfl ?_
          refine j_iload 65 C dX0_decide_63 rfl 1 rfl ?_
          refine j_aldq 66 C dX0_decide_65 rfl 10 (GH_r hG (by decide)) rfl (CE_10 _) 2 rfl (vp_inE (n := n) rfl (by omega) (by omega)) (nI_clamp (by omega)) (v := .ref (ad (11 + 2 * n))) rfl ?_
          refine j_astore 68 C [(6, .ref (ad (11 + 2 * n))), (5, va_rf (y54.map ad)), (4, .int (nI n)), (0, .ref (ad 9)), (1, .ref (ad (11 + 2 * g))), (2, .int (nI (n + 1))), (3, .int out)] dX0_decide_66 rfl (by decide) (by simp [va_rf_cat]) ?_
          refine j_aload 70 C dX0_decide_68 rfl 0 rfl ?_
          refine j_aload_n 71 C dX0_decide_70 rfl rfl 4 rfl ?_
          obtain ⟨y71, e71, hz⟩ := ap_x hz
          refine s_V 74 C (As := [.ref (ad (11 + 2 * g))]) cv_X0_70 (c_X1_copyFrom (l := l) (D := D) (K := K) (ad := ad) hG (hg := by omega) (h_other := by omega) (hz := e71)) dX0_decide_71 rfl (11 + 2 * n) 1 (GH_r hG (by omega)) rfl (CE_go (by omega) _) rfl rfl rfl rfl rfl rfl ⟨⟨rm_le (Nat.le_of_ble_eq_true rfl), rm_le (Nat.le_of_ble_eq_true rfl)⟩, Nat.zero_le _, Nat.zero_le _⟩ (Nat.le_of_ble_eq_true rfl) (st' := []) rfl (fun hE => ?_)
          refine j_aload_o 76 C dX0_decide_74 rfl 1 rfl ?_
          refine j_ifnull 93 79 C dX0_decide_76 rfl rfl (fun c_76 => ?_) (fun a_76 c_76 => ?_)
          · skip
            replace c_76 := om_n c_76
            replace hz := oe_n c_76 hz
            refine j_aload_n 94 C dX0_decide_93 rfl rfl 3 rfl ?_
            refine j_aload 96 C dX0_decide_94 rfl 0 rfl ?_
            refine j_iload 98 C dX0_decide_96 rfl 2 rfl ?_
            refine j_iload_n 99 C dX0_decide_98 rfl rfl 6 rfl ?_
            obtain ⟨y99, e99, hz⟩ := ap_x hz
            refine s_S 102 C (As := [.ref (ad 9), .ref (ad (11 + 2 * n)), .int (nI n), .int out]) cs_X0_83 (ih (by omega) (hg := by omega) (hz := e99)) dX0_decide_99 rfl rfl rfl rfl rfl ⟨⟨Nat.le_refl _, by show 8 + (7 + 11) + (114 + 26 * n) ≤ 114 + 26 * (n + 1); omega⟩, Nat.zero_le _, Nat.zero_le _⟩ (Nat.le_of_ble_eq_true rfl) (st' := []) rfl (fun hE => ?_)
            refine j_aload_o 104 C dX0_decide_102 rfl 1 rfl ?_
            refine j_ifnull 120 107 C dX0_decide_104 rfl rfl (fun c_104 => ?_) (fun a_104 c_104 => ?_)
            · skip
              replace c_104 := om_n c_104
              replace hz := oe_n c_104 hz
              subst hz
              exact j_retV C X dX0_decide_120 ⟨rfl, rfl, rfl, rfl, trivial⟩
            · skip
              obtain ⟨q104, c_104⟩ := om_s c_104
              replace hz := oe_s c_104 hz
              obtain ⟨hq_q104, hN_q104⟩ := at_q hB e54 c_104
              rw [c_104]
              refine j_lv [0, 1, 2, 3, 4, 5, 6] (lv' := [(6, .ref (ad (11 + 2 * n))), (5, .ref (ad q104)), (4, .int (nI n)), (0, .ref (ad 9)), (1, .ref (ad (11 + 2 * g))), (2, .int (nI (n + 1))), (3, .int out)]) rfl ?_
              refine j_aload_n 108 C dX0_decide_107 rfl rfl 3 rfl ?_
              refine j_aload_n 109 C dX0_decide_108 rfl rfl 4 rfl ?_
              refine j_iload 111 C dX0_decide_109 rfl 2 rfl ?_
              refine j_iload_n 112 C dX0_decide_111 rfl rfl 6 rfl ?_
              refine j_iconst 113 C (x := nI 1) dX0_decide_112 rfl (by decide) ?_
              refine j_iload 115 C dX0_decide_113 rfl 2 rfl ?_
              refine j_ishl 116 C dX0_decide_115 rfl rfl ?_
              refine j_ior 117 C dX0_decide_116 rfl rfl ?_
              obtain ⟨y117, e117, hz⟩ := ap_x hz
              refine s_S 120 C (As := [.ref (ad 9), .ref (ad (11 + 2 * g)), .int (nI n), .int (out ||| ((nI 1) <<< ((nI n) &&& 31)))]) cs_X0_83 (ih (by omega) (hg := by omega) (hz := e117)) dX0_decide_117 rfl rfl rfl rfl rfl ⟨⟨Nat.le_refl _, by show 8 + (7 + 11) + (114 + 26 * n) ≤ 114 + 26 * (n + 1); omega⟩, Nat.zero_le _, Nat.zero_le _⟩ (Nat.le_of_ble_eq_true rfl) (st' := []) rfl (fun hE => ?_)
              subst hz
              exact j_retV C X dX0_decide_120 ⟨rfl, rfl, rfl, rfl, trivial⟩
          · skip
            obtain ⟨q76, c_76⟩ := om_s c_76
            replace hz := oe_s c_76 hz
            obtain ⟨hq_q76, hN_q76⟩ := at_q hB e54 c_76
            rw [c_76]
            refine j_lv [0, 1, 2, 3, 4, 5, 6] (lv' := [(6, .ref (ad (11 + 2 * n))), (5, .ref (ad q76)), (4, .int (nI n)), (0, .ref (ad 9)), (1, .ref (ad (11 + 2 * g))), (2, .int (nI (n + 1))), (3, .int out)]) rfl ?_
            refine j_aload 81 C dX0_decide_79 rfl 1 rfl ?_
            refine j_aload 83 C dX0_decide_81 rfl 0 rfl ?_
            refine j_aload_n 84 C dX0_decide_83 rfl rfl 3 rfl ?_
            refine k_get 87 C fl_X0_31 dX0_decide_84 rfl 9 (GH_r hG (by decide)) (σ 9) ((sA_ne (by omega)).trans rfl) (CE_9 _) (.ref (ad 1)) rfl ?_
            obtain ⟨y87, e87, hz⟩ := ap_x hz
            refine s_V 90 C (As := [.ref (ad (11 + 2 * n)), .ref (ad 1)]) cv_X0_97 (c_X3_bind (l := l) (D := D) (K := K) (ad := ad) hG (hq_q := hq_q76) (hN_q := hN_q76) (h_g := by omega) (hz := e87)) dX0_decide_87 rfl q76 3 hN_q76 rfl (CE_q hq_q76 _) rfl rfl rfl rfl rfl rfl ⟨⟨rm_le (Nat.le_of_ble_eq_true rfl), rm_le (Nat.le_of_ble_eq_true rfl)⟩, Nat.zero_le _, Nat.zero_le _⟩ (Nat.le_of_ble_eq_true rfl) (st' := [.int y87.1]) rfl (fun hE => ?_)
            refine j_ct (ct' := CT K W S ns nc ad B (sA σ (12 + 2 * n) y87.2)) (fun r _ => congrFun (congrArg (CT K W S ns nc ad B) sA_top) r) ?_
            have hbl87 : bl y87.1 := hE
            refine j_if_eq 102 93 C dX0_decide_90 rfl rfl (fun c_90 => ?_) (fun c_90 => ?_)
            · replace hz := (if_pos c_90).symm.trans hz
              refine j_aload 104 C dX0_decide_102 rfl 1 rfl ?_
              refine j_st (st' := [va_rf (some (ad q76))]) rfl ?_
              refine j_ifnull 120 107 C dX0_decide_104 rfl rfl (fun c_104 => by cases c_104) (fun _ _ => ?_)
              refine j_aload_n 108 C dX0_decide_107 rfl rfl 3 rfl ?_
              refine j_aload_n 109 C dX0_decide_108 rfl rfl 4 rfl ?_
              refine j_iload 111 C dX0_decide_109 rfl 2 rfl ?_
              refine j_iload_n 112 C dX0_decide_111 rfl rfl 6 rfl ?_
              refine j_iconst 113 C (x := nI 1) dX0_decide_112 rfl (by decide) ?_
              refine j_iload 115 C dX0_decide_113 rfl 2 rfl ?_
              refine j_ishl 116 C dX0_decide_115 rfl rfl ?_
              refine j_ior 117 C dX0_decide_116 rfl rfl ?_
              obtain ⟨y117, e117, hz⟩ := ap_x hz
              refine s_S 120 C (As := [.ref (ad 9), .ref (ad (11 + 2 * g)), .int (nI n), .int (out ||| ((nI 1) <<< ((nI n) &&& 31)))]) cs_X0_83 (ih (by omega) (hg := by omega) (hz := e117)) dX0_decide_117 rfl rfl rfl rfl rfl ⟨⟨Nat.le_refl _, by show 8 + (7 + 11) + (114 + 26 * n) ≤ 114 + 26 * (n + 1); omega⟩, Nat.zero_le _, Nat.zero_le _⟩ (Nat.le_of_ble_eq_true rfl) (st' := []) rfl (fun hE => ?_)
              subst hz
              exact j_retV C X dX0_decide_120 ⟨rfl, rfl, rfl, rfl, trivial⟩
            · replace hz := (if_neg c_90).symm.trans hz
              refine j_aload_n 94 C dX0_decide_93 rfl rfl 3 rfl ?_
              refine j_aload 96 C dX0_decide_94 rfl 0 rfl ?_
              refine j_iload 98 C dX0_decide_96 rfl 2 rfl ?_
              refine j_iload_n 99 C dX0_decide_98 rfl rfl 6 rfl ?_
              obtain ⟨y99, e99, hz⟩ := ap_x hz
              refine s_S 102 C (As := [.ref (ad 9), .ref (ad (11 + 2 * n)), .int (nI n), .int out]) cs_X0_83 (ih (by omega) (hg := by omega) (hz := e99)) dX0_decide_99 rfl rfl rfl rfl rfl ⟨⟨Nat.le_refl _, by show 8 + (7 + 11) + (114 + 26 * n) ≤ 114 + 26 * (n + 1); omega⟩, Nat.zero_le _, Nat.zero_le _⟩ (Nat.le_of_ble_eq_true rfl) (st' := []) rfl (fun hE => ?_)
              refine j_aload 104 C dX0_decide_102 rfl 1 rfl ?_
              refine j_st (st' := [va_rf (some (ad q76))]) rfl ?_
              refine j_ifnull 120 107 C dX0_decide_104 rfl rfl (fun c_104 => by cases c_104) (fun _ _ => ?_)
              refine j_aload_n 108 C dX0_decide_107 rfl rfl 3 rfl ?_
              refine j_aload_n 109 C dX0_decide_108 rfl rfl 4 rfl ?_
              refine j_iload 111 C dX0_decide_109 rfl 2 rfl ?_
              refine j_iload_n 112 C dX0_decide_111 rfl rfl 6 rfl ?_
              refine j_iconst 113 C (x := nI 1) dX0_decide_112 rfl (by decide) ?_
              refine j_iload 115 C dX0_decide_113 rfl 2 rfl ?_
              refine j_ishl 116 C dX0_decide_115 rfl rfl ?_
              refine j_ior 117 C dX0_decide_116 rfl rfl ?_
              obtain ⟨y117, e117, hz⟩ := ap_x hz
              refine s_S 120 C (As := [.ref (ad 9), .ref (ad (11 + 2 * g)), .int (nI n), .int (out ||| ((nI 1) <<< ((nI n) &&& 31)))]) cs_X0_83 (ih (by omega) (hg := by omega) (hz := e117)) dX0_decide_117 rfl rfl rfl rfl rfl ⟨⟨Nat.le_refl _, by show 8 + (7 + 11) + (114 + 26 * n) ≤ 114 + 26 * (n + 1); omega⟩, Nat.zero_le _, Nat.zero_le _⟩ (Nat.le_of_ble_eq_true rfl) (st' := []) rfl (fun hE => ?_)
              subst hz
              exact j_retV C X dX0_decide_120 ⟨rfl, rfl, rfl, rfl, trivial⟩
        · replace hz := (if_neg c_26).symm.trans hz
          refine j_aload_n 30 C dX0_decide_29 rfl rfl 0 rfl ?_
          refine j_iload_n 31 C dX0_decide_30 rfl rfl 3 rfl ?_
          refine k_put 34 C fl_X0_27 fp_X0 rfl dX0_decide_31 rfl 9 (GH_r hG (by decide)) (σ 9) rfl (CE_9 _) rfl rfl (Nat.le_of_ble_eq_true rfl) rfl (sA σ 9 (upd (σ 9) 8 out)) rfl ?_
          refine j_aload_n 35 C dX0_decide_34 rfl rfl 0 rfl ?_
          refine k_get 38 C fl_X0_52 dX0_decide_35 rfl 9 (GH_r hG (by decide)) (upd (σ 9) 8 out) rfl (CE_9 _) (.ref (ad 33)) rfl ?_
          refine j_aload_n 39 C dX0_decide_38 rfl rfl 1 rfl ?_
          obtain ⟨y39, e39, hz⟩ := ap_x hz
          refine s_V 42 C (As := [.ref (ad (11 + 2 * g))]) cv_X0_70 (c_X1_copyFrom (l := l) (D := D) (K := K) (ad := ad) hG (hg := by decide) (h_other := by omega) (hz := e39)) dX0_decide_39 rfl 33 1 (GH_r hG (by decide)) rfl (CE_go (g := 11) (by decide) _) rfl rfl rfl rfl rfl rfl ⟨⟨rm_le (Nat.le_of_ble_eq_true rfl), rm_le (Nat.le_of_ble_eq_true rfl)⟩, Nat.zero_le _, Nat.zero_le _⟩ (Nat.le_of_ble_eq_true rfl) (st' := []) rfl (fun hE => ?_)
          subst hz
          exact j_retV C X dX0_decide_42 ⟨rfl, rfl, rfl, rfl, trivial⟩
      · replace hz := (if_neg c_21).symm.trans hz
        have n_21 := nat_nle (a := (n + 1)) (b := 10) rfl rfl (by omega) (by omega) c_21
        subst hz
        exact j_retV C X dX0_decide_24 ⟨rfl, rfl, rfl, rfl, trivial⟩
    · replace hz := (if_neg c_11).symm.trans hz
      subst hz
      exact j_retV C X dX0_decide_14 ⟨rfl, rfl, rfl, rfl, trivial⟩
def m_X0_findQuarrel (W S ns nc : Nat) (B : Nat → Option Nat) (σ : Nat → Nat → Int32) : (Nat → Nat → Int32) := ap (m_X4_heap W S ns nc B σ) (fun (y5 : Int32) => ap (m_X1_copyFrom W S ns nc B (sA σ 9 (upd (σ 9) 8 y5)) 11 10) (fun (y19 : (Nat → Int32)) => ap (m_X4_came W S ns nc B (sA (sA σ 9 (upd (σ 9) 8 y5)) (12 + 2 * 11) y19)) (fun (y31 : Int32) => ap (m_X0_decide W S ns nc B nc (sA (sA σ 9 (upd (σ 9) 8 y5)) (12 + 2 * 11) y19) 10 (nI 0)) (fun (y43 : (Nat → Nat → Int32)) => y43))))
abbrev rm_X0_findQuarrel : Room := { frames := 16, cells := 0, slots := 0, locals := 500 }
set_option maxHeartbeats 4000000 in
set_option maxRecDepth 100000 in
theorem c_X0_findQuarrel {l : Launch} {D : va_G} {K : Nat → ClassId} {W S ns nc N : Nat} {ad : Nat → Nat} {B : Nat → Option Nat} {σ : Nat → Nat → Int32} (hG : GH W S ns nc N)   {z : (Nat → Nat → Int32)} (hz : m_X0_findQuarrel W S ns nc B σ = z) (hB : BOK B N) : MC l yX0_findQuarrel cX0_findQuarrel 1 none rm_X0_findQuarrel D (TY K) N ad (CT K W S ns nc ad B σ) [.ref (ad 9)] (BS none N ad (CT K W S ns nc ad B z) True) := by
  have hW := hG.1; have hW8 := hG.2.1; have hS := hG.2.2.1; have hS4 := hG.2.2.2.1; have hns := hG.2.2.2.2.1; have hnc := hG.2.2.2.2.2.1; have hWS := GH_ws hG
  refine MC.of (by decide) (Nat.le_of_ble_eq_true rfl) (fun p e s m args below meth c Q A H0 C X => ?_)
  replace C : Cx p s m args meth c cX0_findQuarrel RX0 1 D (TY K) A H0 := C
  show J p l e rm_X0_findQuarrel s m args below meth c Q D A H0 1 0 0 N ad (CT K W S ns nc ad B σ) 0 [(0, .ref (ad 9))] []
  unfold m_X0_findQuarrel at hz
  refine j_aload_n 1 C dX0_findQuarrel_0 rfl rfl 0 rfl ?_
  refine j_aload_n 2 C dX0_findQuarrel_1 rfl rfl 0 rfl ?_
  refine k_get 5 C fl_X0_35 dX0_findQuarrel_2 rfl 9 (GH_r hG (by decide)) (σ 9) rfl (CE_9 _) (.ref (ad 7)) rfl ?_
  obtain ⟨y5, e5, hz⟩ := ap_x hz
  refine s_V 8 C (As := []) cv_X0_65 (c_X4_heap (l := l) (D := D) (K := K) (ad := ad) hG (hB := hB) (hz := e5)) dX0_findQuarrel_5 rfl 7 4 (GH_r hG (by decide)) rfl (CE_7 _) rfl rfl rfl rfl rfl rfl ⟨⟨Nat.le_of_ble_eq_true rfl, Nat.le_of_ble_eq_true rfl⟩, Nat.zero_le _, Nat.zero_le _⟩ (Nat.le_of_ble_eq_true rfl) (st' := [.int y5, .ref (ad 9)]) rfl (fun hE => ?_)
  refine k_put 11 C fl_X0_27 fp_X0 rfl dX0_findQuarrel_8 rfl 9 (GH_r hG (by decide)) (σ 9) rfl (CE_9 _) rfl rfl (Nat.le_of_ble_eq_true rfl) rfl (sA σ 9 (upd (σ 9) 8 y5)) rfl ?_
  refine j_aload_n 12 C dX0_findQuarrel_11 rfl rfl 0 rfl ?_
  refine k_get 15 C fl_X0_52 dX0_findQuarrel_12 rfl 9 (GH_r hG (by decide)) (upd (σ 9) 8 y5) rfl (CE_9 _) (.ref (ad 33)) rfl ?_
  refine j_aload_n 16 C dX0_findQuarrel_15 rfl rfl 0 rfl ?_
  refine k_get 19 C fl_X0_48 dX0_findQuarrel_16 rfl 9 (GH_r hG (by decide)) (upd (σ 9) 8 y5) rfl (CE_9 _) (.ref (ad 31)) rfl ?_
  obtain ⟨y19, e19, hz⟩ := ap_x hz
  refine s_V 22 C (As := [.ref (ad 31)]) cv_X0_70 (c_X1_copyFrom (l := l) (D := D) (K := K) (ad := ad) hG (hg := by decide) (h_other := by decide) (hz := e19)) dX0_findQuarrel_19 rfl 33 1 (GH_r hG (by decide)) rfl (CE_go (g := 11) (by decide) _) rfl rfl rfl rfl rfl rfl ⟨⟨Nat.le_of_ble_eq_true rfl, Nat.le_of_ble_eq_true rfl⟩, Nat.zero_le _, Nat.zero_le _⟩ (Nat.le_of_ble_eq_true rfl) (st' := []) rfl (fun hE => ?_)
  refine j_aload_n 23 C dX0_findQuarrel_22 rfl rfl 0 rfl ?_
  refine j_aload_n 24 C dX0_findQuarrel_23 rfl rfl 0 rfl ?_
  refine k_get 27 C fl_X0_48 dX0_findQuarrel_24 rfl 9 (GH_r hG (by decide)) (upd (σ 9) 8 y5) ((sA_ne (by omega)).trans sA_at) (CE_9 _) (.ref (ad 31)) rfl ?_
  refine j_aload_n 28 C dX0_findQuarrel_27 rfl rfl 0 rfl ?_
  refine k_get 31 C fl_X0_35 dX0_findQuarrel_28 rfl 9 (GH_r hG (by decide)) (upd (σ 9) 8 y5) ((sA_ne (by omega)).trans sA_at) (CE_9 _) (.ref (ad 7)) rfl ?_
  obtain ⟨y31, e31, hz⟩ := ap_x hz
  refine s_V 34 C (As := []) cv_X0_74 (c_X4_came (l := l) (D := D) (K := K) (ad := ad) hG  (hz := e31)) dX0_findQuarrel_31 rfl 7 4 (GH_r hG (by decide)) rfl (CE_7 _) rfl rfl rfl rfl rfl rfl ⟨⟨Nat.le_of_ble_eq_true rfl, Nat.le_of_ble_eq_true rfl⟩, Nat.zero_le _, Nat.zero_le _⟩ (Nat.le_of_ble_eq_true rfl) (st' := [.int y31, .ref (ad 31), .ref (ad 9)]) rfl (fun hE => ?_)
  have ey31 : y31 = nI nc := by rw [← e31]; exact rfl
  refine j_aload_n 35 C dX0_findQuarrel_34 rfl rfl 0 rfl ?_
  refine k_get 38 C fl_X0_11 dX0_findQuarrel_35 rfl 9 (GH_r hG (by decide)) (upd (σ 9) 8 y5) ((sA_ne (by omega)).trans sA_at) (CE_9 _) (.ref (ad 10)) rfl ?_
  refine k_alen 39 C dX0_findQuarrel_38 rfl 10 (GH_r hG (by decide)) 2 (CE_10 _) rfl ?_
  refine j_mmin 42 C wl_X0_77 rfl dX0_findQuarrel_39 rfl (Nat.le_of_ble_eq_true rfl) (Nat.le_of_ble_eq_true rfl) (Nat.zero_le _) (Nat.zero_le _) ?_
  refine j_st (st' := [.int (nI nc), .ref (ad 31), .ref (ad 9)]) (by rw [show (if (nI 10) < y31 then (nI 10) else y31) = nI nc from (by rw [ey31]; exact min_nc hnc)]) ?_
  refine j_iconst 43 C (x := nI 0) dX0_findQuarrel_42 rfl (by decide) ?_
  obtain ⟨y43, e43, hz⟩ := ap_x hz
  refine s_S 46 C (As := [.ref (ad 9), .ref (ad 31), .int (nI nc), .int (nI 0)]) cs_X0_83 (c_X0_decide (l := l) (D := D) (K := K) (ad := ad) hG hB nc hnc (hg := by decide) (hz := e43)) dX0_findQuarrel_43 rfl rfl rfl rfl rfl ⟨⟨(by show 4 + nc + 1 ≤ 16; omega), (by show 8 + (7 + 11) + (114 + 26 * nc) ≤ 500; omega)⟩, Nat.zero_le _, Nat.zero_le _⟩ (Nat.le_of_ble_eq_true rfl) (st' := []) rfl (fun hE => ?_)
  subst hz
  exact j_retV C X dX0_findQuarrel_46 ⟨rfl, rfl, rfl, rfl, trivial⟩
theorem fq97 {W S ns nc : Nat} {B : Nat → Option Nat} {σ : Nat → Nat → Int32} : m_X0_findQuarrel W S ns nc B σ 9 7 = σ 9 7 := sorry
def m_X0_areSome (W S ns nc : Nat) (B : Nat → Option Nat) (σ : Nat → Nat → Int32) : Int32 × (Nat → Nat → Int32) := (if (σ 9 5) = 0 then ap (m_X1_clear W S ns nc B σ 10) (fun (y11 : (Nat → Int32)) => ap (m_X2_bind W S ns nc B (sA σ (12 + 2 * 10) y11) 10) (fun (y23 : Int32 × (Nat → Int32)) => (if y23.1 = 0 then (y23.1, (sA (sA σ (12 + 2 * 10) y23.2) 9 (upd (upd (σ 9) 7 y23.1) 5 (nI 1)))) else (if (σ 9 6) = 0 then ap (m_X0_findQuarrel W S ns nc B (sA (sA σ (12 + 2 * 10) y23.2) 9 (upd (upd (σ 9) 7 y23.1) 5 (nI 1)))) (fun (y49 : (Nat → Nat → Int32)) => (y49 9 7, (sA y49 9 (upd (y49 9) 6 (nI 1))))) else (y23.1, (sA (sA σ (12 + 2 * 10) y23.2) 9 (upd (upd (σ 9) 7 y23.1) 5 (nI 1)))))))) else (if (σ 9 7) = 0 then (σ 9 7, σ) else (if (σ 9 6) = 0 then ap (m_X0_findQuarrel W S ns nc B σ) (fun (y49 : (Nat → Nat → Int32)) => (y49 9 7, (sA y49 9 (upd (y49 9) 6 (nI 1))))) else (σ 9 7, σ))))
abbrev rm_X0_areSome : Room := { frames := 17, cells := 0, slots := 0, locals := 520 }
set_option maxHeartbeats 4000000 in
set_option maxRecDepth 100000 in
theorem c_X0_areSome {l : Launch} {D : va_G} {K : Nat → ClassId} {W S ns nc N : Nat} {ad : Nat → Nat} {B : Nat → Option Nat} {σ : Nat → Nat → Int32} (hG : GH W S ns nc N)   {z : Int32 × (Nat → Nat → Int32)} (hz : m_X0_areSome W S ns nc B σ = z) (hB : BOK B N) (hb7 : bl (σ 9 7)) : MC l yX0_areSome cX0_areSome 1 (some .boolean) rm_X0_areSome D (TY K) N ad (CT K W S ns nc ad B σ) [.ref (ad 9)] (BS (some (.int z.1)) N ad (CT K W S ns nc ad B z.2) (bl z.1)) := by
  have hW := hG.1; have hW8 := hG.2.1; have hS := hG.2.2.1; have hS4 := hG.2.2.2.1; have hns := hG.2.2.2.2.1; have hnc := hG.2.2.2.2.2.1; have hWS := GH_ws hG
  refine MC.of (by decide) (Nat.le_of_ble_eq_true rfl) (fun p e s m args below meth c Q A H0 C X => ?_)
  replace C : Cx p s m args meth c cX0_areSome RX0 1 D (TY K) A H0 := C
  show J p l e rm_X0_areSome s m args below meth c Q D A H0 1 0 0 N ad (CT K W S ns nc ad B σ) 0 [(0, .ref (ad 9))] []
  unfold m_X0_areSome at hz
  refine j_aload_n 1 C dX0_areSome_0 rfl rfl 0 rfl ?_
  refine k_get 4 C fl_X0_17 dX0_areSome_1 rfl 9 (GH_r hG (by decide)) (σ 9) rfl (CE_9 _) (.int (σ 9 5)) rfl ?_
  refine j_if_ne 34 7 C dX0_areSome_4 rfl rfl (fun c_4 => ?_) (fun c_4 => ?_)
  · replace hz := (if_neg c_4).symm.trans hz
    refine j_aload_n 35 C dX0_areSome_34 rfl rfl 0 rfl ?_
    refine k_get 38 C fl_X0_24 dX0_areSome_35 rfl 9 (GH_r hG (by decide)) (σ 9) rfl (CE_9 _) (.int (σ 9 7)) rfl ?_
    refine j_if_eq 57 41 C dX0_areSome_38 rfl rfl (fun c_38 => ?_) (fun c_38 => ?_)
    · replace hz := (if_pos c_38).symm.trans hz
      refine j_aload_n 58 C dX0_areSome_57 rfl rfl 0 rfl ?_
      refine k_get 61 C fl_X0_24 dX0_areSome_58 rfl 9 (GH_r hG (by decide)) (σ 9) rfl (CE_9 _) (.int (σ 9 7)) rfl ?_
      subst hz
      exact j_retI C X dX0_areSome_61 (bl_nar hb7) ⟨rfl, rfl, rfl, rfl, hb7⟩
    · replace hz := (if_neg c_38).symm.trans hz
      refine j_aload_n 42 C dX0_areSome_41 rfl rfl 0 rfl ?_
      refine k_get 45 C fl_X0_21 dX0_areSome_42 rfl 9 (GH_r hG (by decide)) (σ 9) rfl (CE_9 _) (.int (σ 9 6)) rfl ?_
      refine j_if_ne 57 48 C dX0_areSome_45 rfl rfl (fun c_45 => ?_) (fun c_45 => ?_)
      · replace hz := (if_neg c_45).symm.trans hz
        refine j_aload_n 58 C dX0_areSome_57 rfl rfl 0 rfl ?_
        refine k_get 61 C fl_X0_24 dX0_areSome_58 rfl 9 (GH_r hG (by decide)) (σ 9) rfl (CE_9 _) (.int (σ 9 7)) rfl ?_
        subst hz
        exact j_retI C X dX0_areSome_61 (bl_nar hb7) ⟨rfl, rfl, rfl, rfl, hb7⟩
      · replace hz := (if_pos c_45).symm.trans hz
        refine j_aload_n 49 C dX0_areSome_48 rfl rfl 0 rfl ?_
        obtain ⟨y49, e49, hz⟩ := ap_x hz
        refine s_V 52 C (As := []) cv_X0_62 (c_X0_findQuarrel (l := l) (D := D) (K := K) (ad := ad) hG (hB := hB) (hz := e49)) dX0_areSome_49 rfl 9 0 (GH_r hG (by decide)) rfl (CE_9 _) rfl rfl rfl rfl rfl rfl ⟨⟨Nat.le_of_ble_eq_true rfl, Nat.le_of_ble_eq_true rfl⟩, Nat.zero_le _, Nat.zero_le _⟩ (Nat.le_of_ble_eq_true rfl) (st' := []) rfl (fun hE => ?_)
        have h97 : bl (y49 9 7) := by rw [← e49, fq97]; first | exact hb7 | exact hbl23
        refine j_aload_n 53 C dX0_areSome_52 rfl rfl 0 rfl ?_
        refine j_iconst 54 C (x := nI 1) dX0_areSome_53 rfl (by decide) ?_
        refine k_put 57 C fl_X0_21 fp_X0 rfl dX0_areSome_54 rfl 9 (GH_r hG (by decide)) (y49 9) rfl (CE_9 _) (bl_nar bl_1) (bl_fit bl_1) (Nat.le_of_ble_eq_true rfl) rfl (sA y49 9 (upd (y49 9) 6 (nI 1))) rfl ?_
        refine j_aload_n 58 C dX0_areSome_57 rfl rfl 0 rfl ?_
        refine k_get 61 C fl_X0_24 dX0_areSome_58 rfl 9 (GH_r hG (by decide)) (upd (y49 9) 6 (nI 1)) rfl (CE_9 _) (.int (y49 9 7)) rfl ?_
        subst hz
        exact j_retI C X dX0_areSome_61 (bl_nar h97) ⟨rfl, rfl, rfl, rfl, h97⟩
  · replace hz := (if_pos c_4).symm.trans hz
    refine j_aload_n 8 C dX0_areSome_7 rfl rfl 0 rfl ?_
    refine k_get 11 C fl_X0_48 dX0_areSome_8 rfl 9 (GH_r hG (by decide)) (σ 9) rfl (CE_9 _) (.ref (ad 31)) rfl ?_
    obtain ⟨y11, e11, hz⟩ := ap_x hz
    refine s_V 14 C (As := []) cv_X0_55 (c_X1_clear (l := l) (D := D) (K := K) (ad := ad) hG (hg := by decide) (hz := e11)) dX0_areSome_11 rfl 31 1 (GH_r hG (by decide)) rfl (CE_go (g := 10) (by decide) _) rfl rfl rfl rfl rfl rfl ⟨⟨Nat.le_of_ble_eq_true rfl, Nat.le_of_ble_eq_true rfl⟩, Nat.zero_le _, Nat.zero_le _⟩ (Nat.le_of_ble_eq_true rfl) (st' := []) rfl (fun hE => ?_)
    refine j_aload_n 15 C dX0_areSome_14 rfl rfl 0 rfl ?_
    refine j_aload_n 16 C dX0_areSome_15 rfl rfl 0 rfl ?_
    refine k_get 19 C fl_X0_31 dX0_areSome_16 rfl 9 (GH_r hG (by decide)) (σ 9) ((sA_ne (by omega)).trans rfl) (CE_9 _) (.ref (ad 1)) rfl ?_
    refine j_aload_n 20 C dX0_areSome_19 rfl rfl 0 rfl ?_
    refine k_get 23 C fl_X0_48 dX0_areSome_20 rfl 9 (GH_r hG (by decide)) (σ 9) ((sA_ne (by omega)).trans rfl) (CE_9 _) (.ref (ad 31)) rfl ?_
    obtain ⟨y23, e23, hz⟩ := ap_x hz
    refine s_V 26 C (As := [.ref (ad 31)]) cv_X0_58 (c_X2_bind (l := l) (D := D) (K := K) (ad := ad) hG (h_g := by decide) (hz := e23)) dX0_areSome_23 rfl 1 2 (GH_r hG (by decide)) rfl (CE_1 _) rfl rfl rfl rfl rfl rfl ⟨⟨Nat.le_of_ble_eq_true rfl, Nat.le_of_ble_eq_true rfl⟩, Nat.zero_le _, Nat.zero_le _⟩ (Nat.le_of_ble_eq_true rfl) (st' := [.int y23.1, .ref (ad 9)]) rfl (fun hE => ?_)
    refine j_ct (ct' := CT K W S ns nc ad B (sA σ (12 + 2 * 10) y23.2)) (fun r _ => congrFun (congrArg (CT K W S ns nc ad B) sA_top) r) ?_
    have hbl23 : bl y23.1 := hE
    refine k_put 29 C fl_X0_24 fp_X0 rfl dX0_areSome_26 rfl 9 (GH_r hG (by decide)) (σ 9) ((sA_ne (by omega)).trans rfl) (CE_9 _) (bl_nar hbl23) (bl_fit hbl23) (Nat.le_of_ble_eq_true rfl) rfl (sA (sA σ (12 + 2 * 10) y23.2) 9 (upd (σ 9) 7 y23.1)) rfl ?_
    refine j_aload_n 30 C dX0_areSome_29 rfl rfl 0 rfl ?_
    refine j_iconst 31 C (x := nI 1) dX0_areSome_30 rfl (by decide) ?_
    refine k_put 34 C fl_X0_17 fp_X0 rfl dX0_areSome_31 rfl 9 (GH_r hG (by decide)) (upd (σ 9) 7 y23.1) sA_at (CE_9 _) (bl_nar bl_1) (bl_fit bl_1) (Nat.le_of_ble_eq_true rfl) rfl (sA (sA σ (12 + 2 * 10) y23.2) 9 (upd (upd (σ 9) 7 y23.1) 5 (nI 1))) sA_top ?_
    refine j_aload_n 35 C dX0_areSome_34 rfl rfl 0 rfl ?_
    refine k_get 38 C fl_X0_24 dX0_areSome_35 rfl 9 (GH_r hG (by decide)) (upd (upd (σ 9) 7 y23.1) 5 (nI 1)) sA_at (CE_9 _) (.int y23.1) rfl ?_
    refine j_if_eq 57 41 C dX0_areSome_38 rfl rfl (fun c_38 => ?_) (fun c_38 => ?_)
    · replace hz := (if_pos c_38).symm.trans hz
      refine j_aload_n 58 C dX0_areSome_57 rfl rfl 0 rfl ?_
      refine k_get 61 C fl_X0_24 dX0_areSome_58 rfl 9 (GH_r hG (by decide)) (upd (upd (σ 9) 7 y23.1) 5 (nI 1)) sA_at (CE_9 _) (.int y23.1) rfl ?_
      subst hz
      exact j_retI C X dX0_areSome_61 (bl_nar hbl23) ⟨rfl, rfl, rfl, rfl, hbl23⟩
    · replace hz := (if_neg c_38).symm.trans hz
      refine j_aload_n 42 C dX0_areSome_41 rfl rfl 0 rfl ?_
      refine k_get 45 C fl_X0_21 dX0_areSome_42 rfl 9 (GH_r hG (by decide)) (upd (upd (σ 9) 7 y23.1) 5 (nI 1)) sA_at (CE_9 _) (.int (σ 9 6)) rfl ?_
      refine j_if_ne 57 48 C dX0_areSome_45 rfl rfl (fun c_45 => ?_) (fun c_45 => ?_)
      · replace hz := (if_neg c_45).symm.trans hz
        refine j_aload_n 58 C dX0_areSome_57 rfl rfl 0 rfl ?_
        refine k_get 61 C fl_X0_24 dX0_areSome_58 rfl 9 (GH_r hG (by decide)) (upd (upd (σ 9) 7 y23.1) 5 (nI 1)) sA_at (CE_9 _) (.int y23.1) rfl ?_
        subst hz
        exact j_retI C X dX0_areSome_61 (bl_nar hbl23) ⟨rfl, rfl, rfl, rfl, hbl23⟩
      · replace hz := (if_pos c_45).symm.trans hz
        refine j_aload_n 49 C dX0_areSome_48 rfl rfl 0 rfl ?_
        obtain ⟨y49, e49, hz⟩ := ap_x hz
        refine s_V 52 C (As := []) cv_X0_62 (c_X0_findQuarrel (l := l) (D := D) (K := K) (ad := ad) hG (hB := hB) (hz := e49)) dX0_areSome_49 rfl 9 0 (GH_r hG (by decide)) rfl (CE_9 _) rfl rfl rfl rfl rfl rfl ⟨⟨Nat.le_of_ble_eq_true rfl, Nat.le_of_ble_eq_true rfl⟩, Nat.zero_le _, Nat.zero_le _⟩ (Nat.le_of_ble_eq_true rfl) (st' := []) rfl (fun hE => ?_)
        have h97 : bl (y49 9 7) := by rw [← e49, fq97]; first | exact hb7 | exact hbl23
        refine j_aload_n 53 C dX0_areSome_52 rfl rfl 0 rfl ?_
        refine j_iconst 54 C (x := nI 1) dX0_areSome_53 rfl (by decide) ?_
        refine k_put 57 C fl_X0_21 fp_X0 rfl dX0_areSome_54 rfl 9 (GH_r hG (by decide)) (y49 9) rfl (CE_9 _) (bl_nar bl_1) (bl_fit bl_1) (Nat.le_of_ble_eq_true rfl) rfl (sA y49 9 (upd (y49 9) 6 (nI 1))) rfl ?_
        refine j_aload_n 58 C dX0_areSome_57 rfl rfl 0 rfl ?_
        refine k_get 61 C fl_X0_24 dX0_areSome_58 rfl 9 (GH_r hG (by decide)) (upd (y49 9) 6 (nI 1)) rfl (CE_9 _) (.int (y49 9 7)) rfl ?_
        subst hz
        exact j_retI C X dX0_areSome_61 (bl_nar h97) ⟨rfl, rfl, rfl, rfl, h97⟩
end
section
def m_X5_isDepth (W S ns nc : Nat) (B : Nat → Option Nat) (σ : Nat → Nat → Int32) (number : Int32) : Int32 := (if number < 0 then nI 0 else (if (nI 60) < number then nI 0 else nI 1))
abbrev rm_X5_isDepth : Room := { frames := 0, cells := 0, slots := 0, locals := 0 }
set_option maxHeartbeats 4000000 in
set_option maxRecDepth 100000 in
theorem c_X5_isDepth {l : Launch} {D : va_G} {K : Nat → ClassId} {W S ns nc N : Nat} {ad : Nat → Nat} {B : Nat → Option Nat} {σ : Nat → Nat → Int32} (hG : GH W S ns nc N) {number : Int32}  {z : Int32} (hz : m_X5_isDepth W S ns nc B σ number = z)  : MC l yX5_isDepth cX5_isDepth 1 (some .boolean) rm_X5_isDepth D (TY K) N ad (CT K W S ns nc ad B σ) [.int number] (BS (some (.int z)) N ad (CT K W S ns nc ad B σ) (bl z)) := by
  have hW := hG.1; have hW8 := hG.2.1; have hS := hG.2.2.1; have hS4 := hG.2.2.2.1; have hns := hG.2.2.2.2.1; have hnc := hG.2.2.2.2.2.1; have hWS := GH_ws hG
  refine MC.of (by decide) (Nat.le_of_ble_eq_true rfl) (fun p e s m args below meth c Q A H0 C X => ?_)
  replace C : Cx p s m args meth c cX5_isDepth RX5 1 D (TY K) A H0 := C
  show J p l e rm_X5_isDepth s m args below meth c Q D A H0 1 0 0 N ad (CT K W S ns nc ad B σ) 0 [(0, .int number)] []
  unfold m_X5_isDepth at hz
  refine j_iload_n 1 C dX5_isDepth_0 rfl rfl 0 rfl ?_
  refine j_if_lt 14 4 C dX5_isDepth_1 rfl rfl (fun c_1 => ?_) (fun c_1 => ?_)
  · replace hz := (if_pos c_1).symm.trans hz
    refine j_iconst 15 C (x := nI 0) dX5_isDepth_14 rfl (by decide) ?_
    subst hz
    exact j_retI C X dX5_isDepth_15 (bl_nar bl_0) ⟨rfl, rfl, rfl, rfl, bl_0⟩
  · replace hz := (if_neg c_1).symm.trans hz
    refine j_iload_n 5 C dX5_isDepth_4 rfl rfl 0 rfl ?_
    refine j_bipush 7 C (x := nI 60) dX5_isDepth_5 rfl (by decide) ?_
    refine j_ic_gt 14 10 C dX5_isDepth_7 rfl rfl (fun c_7 => ?_) (fun c_7 => ?_)
    · replace hz := (if_pos c_7).symm.trans hz
      refine j_iconst 15 C (x := nI 0) dX5_isDepth_14 rfl (by decide) ?_
      subst hz
      exact j_retI C X dX5_isDepth_15 (bl_nar bl_0) ⟨rfl, rfl, rfl, rfl, bl_0⟩
    · replace hz := (if_neg c_7).symm.trans hz
      refine j_iconst 11 C (x := nI 1) dX5_isDepth_10 rfl (by decide) ?_
      refine j_goto 15 C dX5_isDepth_11 rfl ?_
      subst hz
      exact j_retI C X dX5_isDepth_15 (bl_nar bl_1) ⟨rfl, rfl, rfl, rfl, bl_1⟩
def m_X5_isWithin (W S ns nc : Nat) (B : Nat → Option Nat) (σ : Nat → Nat → Int32) (number : Int32) (limit : Int32) : Int32 := (if number < (-limit) then nI 0 else (if limit < number then nI 0 else nI 1))
abbrev rm_X5_isWithin : Room := { frames := 0, cells := 0, slots := 0, locals := 0 }
set_option maxHeartbeats 4000000 in
set_option maxRecDepth 100000 in
theorem c_X5_isWithin {l : Launch} {D : va_G} {K : Nat → ClassId} {W S ns nc N : Nat} {ad : Nat → Nat} {B : Nat → Option Nat} {σ : Nat → Nat → Int32} (hG : GH W S ns nc N) {number : Int32} {limit : Int32}  {z : Int32} (hz : m_X5_isWithin W S ns nc B σ number limit = z)  : MC l yX5_isWithin cX5_isWithin 2 (some .boolean) rm_X5_isWithin D (TY K) N ad (CT K W S ns nc ad B σ) [.int number, .int limit] (BS (some (.int z)) N ad (CT K W S ns nc ad B σ) (bl z)) := by
  have hW := hG.1; have hW8 := hG.2.1; have hS := hG.2.2.1; have hS4 := hG.2.2.2.1; have hns := hG.2.2.2.2.1; have hnc := hG.2.2.2.2.2.1; have hWS := GH_ws hG
  refine MC.of (by decide) (Nat.le_of_ble_eq_true rfl) (fun p e s m args below meth c Q A H0 C X => ?_)
  replace C : Cx p s m args meth c cX5_isWithin RX5 2 D (TY K) A H0 := C
  show J p l e rm_X5_isWithin s m args below meth c Q D A H0 2 0 0 N ad (CT K W S ns nc ad B σ) 0 [(0, .int number), (1, .int limit)] []
  unfold m_X5_isWithin at hz
  refine j_iload_n 1 C dX5_isWithin_0 rfl rfl 0 rfl ?_
  refine j_iload_n 2 C dX5_isWithin_1 rfl rfl 1 rfl ?_
  refine j_ineg 3 C dX5_isWithin_2 rfl rfl ?_
  refine j_ic_lt 15 6 C dX5_isWithin_3 rfl rfl (fun c_3 => ?_) (fun c_3 => ?_)
  · replace hz := (if_pos c_3).symm.trans hz
    refine j_iconst 16 C (x := nI 0) dX5_isWithin_15 rfl (by decide) ?_
    subst hz
    exact j_retI C X dX5_isWithin_16 (bl_nar bl_0) ⟨rfl, rfl, rfl, rfl, bl_0⟩
  · replace hz := (if_neg c_3).symm.trans hz
    refine j_iload_n 7 C dX5_isWithin_6 rfl rfl 0 rfl ?_
    refine j_iload_n 8 C dX5_isWithin_7 rfl rfl 1 rfl ?_
    refine j_ic_gt 15 11 C dX5_isWithin_8 rfl rfl (fun c_8 => ?_) (fun c_8 => ?_)
    · replace hz := (if_pos c_8).symm.trans hz
      refine j_iconst 16 C (x := nI 0) dX5_isWithin_15 rfl (by decide) ?_
      subst hz
      exact j_retI C X dX5_isWithin_16 (bl_nar bl_0) ⟨rfl, rfl, rfl, rfl, bl_0⟩
    · replace hz := (if_neg c_8).symm.trans hz
      refine j_iconst 12 C (x := nI 1) dX5_isWithin_11 rfl (by decide) ?_
      refine j_goto 16 C dX5_isWithin_12 rfl ?_
      subst hz
      exact j_retI C X dX5_isWithin_16 (bl_nar bl_1) ⟨rfl, rfl, rfl, rfl, bl_1⟩
def m_X5_isEnd (W S ns nc : Nat) (B : Nat → Option Nat) (σ : Nat → Nat → Int32) (what : Int32) : Int32 := (if what = 0 then nI 1 else (if what = (nI 1) then nI 1 else nI 0))
abbrev rm_X5_isEnd : Room := { frames := 0, cells := 0, slots := 0, locals := 0 }
set_option maxHeartbeats 4000000 in
set_option maxRecDepth 100000 in
theorem c_X5_isEnd {l : Launch} {D : va_G} {K : Nat → ClassId} {W S ns nc N : Nat} {ad : Nat → Nat} {B : Nat → Option Nat} {σ : Nat → Nat → Int32} (hG : GH W S ns nc N) {what : Int32}  {z : Int32} (hz : m_X5_isEnd W S ns nc B σ what = z)  : MC l yX5_isEnd cX5_isEnd 1 (some .boolean) rm_X5_isEnd D (TY K) N ad (CT K W S ns nc ad B σ) [.int what] (BS (some (.int z)) N ad (CT K W S ns nc ad B σ) (bl z)) := by
  have hW := hG.1; have hW8 := hG.2.1; have hS := hG.2.2.1; have hS4 := hG.2.2.2.1; have hns := hG.2.2.2.2.1; have hnc := hG.2.2.2.2.2.1; have hWS := GH_ws hG
  refine MC.of (by decide) (Nat.le_of_ble_eq_true rfl) (fun p e s m args below meth c Q A H0 C X => ?_)
  replace C : Cx p s m args meth c cX5_isEnd RX5 1 D (TY K) A H0 := C
  show J p l e rm_X5_isEnd s m args below meth c Q D A H0 1 0 0 N ad (CT K W S ns nc ad B σ) 0 [(0, .int what)] []
  unfold m_X5_isEnd at hz
  refine j_iload_n 1 C dX5_isEnd_0 rfl rfl 0 rfl ?_
  refine j_if_eq 9 4 C dX5_isEnd_1 rfl rfl (fun c_1 => ?_) (fun c_1 => ?_)
  · replace hz := (if_pos c_1).symm.trans hz
    refine j_iconst 10 C (x := nI 1) dX5_isEnd_9 rfl (by decide) ?_
    refine j_goto 14 C dX5_isEnd_10 rfl ?_
    subst hz
    exact j_retI C X dX5_isEnd_14 (bl_nar bl_1) ⟨rfl, rfl, rfl, rfl, bl_1⟩
  · replace hz := (if_neg c_1).symm.trans hz
    refine j_iload_n 5 C dX5_isEnd_4 rfl rfl 0 rfl ?_
    refine j_iconst 6 C (x := nI 1) dX5_isEnd_5 rfl (by decide) ?_
    refine j_ic_ne 13 9 C dX5_isEnd_6 rfl rfl (fun c_6 => ?_) (fun c_6 => ?_)
    · replace hz := (if_neg c_6).symm.trans hz
      refine j_iconst 14 C (x := nI 0) dX5_isEnd_13 rfl (by decide) ?_
      subst hz
      exact j_retI C X dX5_isEnd_14 (bl_nar bl_0) ⟨rfl, rfl, rfl, rfl, bl_0⟩
    · replace hz := (if_pos c_6).symm.trans hz
      refine j_iconst 10 C (x := nI 1) dX5_isEnd_9 rfl (by decide) ?_
      refine j_goto 14 C dX5_isEnd_10 rfl ?_
      subst hz
      exact j_retI C X dX5_isEnd_14 (bl_nar bl_1) ⟨rfl, rfl, rfl, rfl, bl_1⟩
def m_X5_thick (W S ns nc : Nat) (B : Nat → Option Nat) (σ : Nat → Nat → Int32) (surface : Int32) (from_ : Int32) (to_ : Int32) : Int32 × (Nat → Int32) × (Nat → Int32) × (Nat → Int32) := ap (m_X2_hasSurface W S ns nc B σ surface) (fun (y5 : Int32) => (if y5 = 0 then (nI 0, (σ 2), (σ 3), (σ 9)) else ap (m_X2_hasSurface W S ns nc B σ (surface + (nI 1))) (fun (y18 : Int32) => (if y18 = 0 then (nI 0, (σ 2), (σ 3), (σ 9)) else ap (m_X5_isDepth W S ns nc B σ from_) (fun (y27 : Int32) => (if y27 = 0 then (nI 0, (σ 2), (σ 3), (σ 9)) else ap (m_X5_isDepth W S ns nc B σ to_) (fun (y34 : Int32) => (if y34 = 0 then (nI 0, (σ 2), (σ 3), (σ 9)) else (if from_ ≤ to_ then ap (m_X2_setThick W S ns nc B σ surface from_ to_) (fun (y54 : (Nat → Int32) × (Nat → Int32)) => ap (m_X0_forgetRock W S ns nc B (sA (sA σ 2 y54.1) 3 y54.2)) (fun (y61 : (Nat → Int32)) => (nI 1, y54.1, y54.2, y61))) else (nI 0, (σ 2), (σ 3), (σ 9)))))))))))
abbrev rm_X5_thick : Room := { frames := 2, cells := 0, slots := 0, locals := 44 }
set_option maxHeartbeats 4000000 in
set_option maxRecDepth 100000 in
theorem c_X5_thick {l : Launch} {D : va_G} {K : Nat → ClassId} {W S ns nc N : Nat} {ad : Nat → Nat} {B : Nat → Option Nat} {σ : Nat → Nat → Int32} (hG : GH W S ns nc N) {surface : Int32} {from_ : Int32} {to_ : Int32}  {z : Int32 × (Nat → Int32) × (Nat → Int32) × (Nat → Int32)} (hz : m_X5_thick W S ns nc B σ surface from_ to_ = z)  : MC l yX5_thick cX5_thick 4 (some .boolean) rm_X5_thick D (TY K) N ad (CT K W S ns nc ad B σ) [.ref (ad 0), .int surface, .int from_, .int to_] (BS (some (.int z.1)) N ad (CT K W S ns nc ad B (sA (sA (sA σ 2 z.2.1) 3 z.2.2.1) 9 z.2.2.2)) (bl z.1)) := by
  have hW := hG.1; have hW8 := hG.2.1; have hS := hG.2.2.1; have hS4 := hG.2.2.2.1; have hns := hG.2.2.2.2.1; have hnc := hG.2.2.2.2.2.1; have hWS := GH_ws hG
  refine MC.of (by decide) (Nat.le_of_ble_eq_true rfl) (fun p e s m args below meth c Q A H0 C X => ?_)
  replace C : Cx p s m args meth c cX5_thick RX5 4 D (TY K) A H0 := C
  show J p l e rm_X5_thick s m args below meth c Q D A H0 4 0 0 N ad (CT K W S ns nc ad B σ) 0 [(0, .ref (ad 0)), (1, .int surface), (2, .int from_), (3, .int to_)] []
  unfold m_X5_thick at hz
  refine j_aload_n 1 C dX5_thick_0 rfl rfl 0 rfl ?_
  refine k_get 4 C fl_X5_21 dX5_thick_1 rfl 0 (GH_r hG (by decide)) _ rfl (CE_0 _) (.ref (ad 1)) rfl ?_
  refine j_iload_n 5 C dX5_thick_4 rfl rfl 1 rfl ?_
  obtain ⟨y5, e5, hz⟩ := ap_x hz
  refine s_V 8 C (As := [.int surface]) cv_X5_47 (c_X2_hasSurface (l := l) (D := D) (K := K) (ad := ad) hG  (hz := e5)) dX5_thick_5 rfl 1 2 (GH_r hG (by decide)) rfl (CE_1 _) rfl rfl rfl rfl rfl rfl ⟨⟨Nat.le_of_ble_eq_true rfl, Nat.le_of_ble_eq_true rfl⟩, Nat.zero_le _, Nat.zero_le _⟩ (Nat.le_of_ble_eq_true rfl) (st' := [.int y5]) rfl (fun hE => ?_)
  have hbl5 : bl y5 := hE
  refine j_if_eq 24 11 C dX5_thick_8 rfl rfl (fun c_8 => ?_) (fun c_8 => ?_)
  · replace hz := (if_pos c_8).symm.trans hz
    refine j_iconst 25 C (x := nI 0) dX5_thick_24 rfl (by decide) ?_
    subst hz
    exact j_retI C X dX5_thick_25 (bl_nar bl_0) ⟨rfl, rfl, rfl, (CT_x (by intro a; (by_cases h0 : a = 2; (· (first | (subst h0; simp [sA]; done) | (rw [h0]; simp [sA]; done))); by_cases h1 : a = 3; (· (first | (subst h1; simp [sA]; done) | (rw [h1]; simp [sA]; done))); by_cases h2 : a = 9; (· (first | (subst h2; simp [sA]; done) | (rw [h2]; simp [sA]; done))); simp [sA, h0, h1, h2]))), bl_0⟩
  · replace hz := (if_neg c_8).symm.trans hz
    refine j_aload_n 12 C dX5_thick_11 rfl rfl 0 rfl ?_
    refine k_get 15 C fl_X5_21 dX5_thick_12 rfl 0 (GH_r hG (by decide)) _ rfl (CE_0 _) (.ref (ad 1)) rfl ?_
    refine j_iload_n 16 C dX5_thick_15 rfl rfl 1 rfl ?_
    refine j_iconst 17 C (x := nI 1) dX5_thick_16 rfl (by decide) ?_
    refine j_iadd 18 C dX5_thick_17 rfl rfl ?_
    obtain ⟨y18, e18, hz⟩ := ap_x hz
    refine s_V 21 C (As := [.int (surface + (nI 1))]) cv_X5_47 (c_X2_hasSurface (l := l) (D := D) (K := K) (ad := ad) hG  (hz := e18)) dX5_thick_18 rfl 1 2 (GH_r hG (by decide)) rfl (CE_1 _) rfl rfl rfl rfl rfl rfl ⟨⟨Nat.le_of_ble_eq_true rfl, Nat.le_of_ble_eq_true rfl⟩, Nat.zero_le _, Nat.zero_le _⟩ (Nat.le_of_ble_eq_true rfl) (st' := [.int y18]) rfl (fun hE => ?_)
    have hbl18 : bl y18 := hE
    refine j_if_ne 26 24 C dX5_thick_21 rfl rfl (fun c_21 => ?_) (fun c_21 => ?_)
    · replace hz := (if_neg c_21).symm.trans hz
      refine j_iload_n 27 C dX5_thick_26 rfl rfl 2 rfl ?_
      obtain ⟨y27, e27, hz⟩ := ap_x hz
      refine s_S 30 C (As := [.int from_]) cs_X5_51 (c_X5_isDepth (l := l) (D := D) (K := K) (ad := ad) hG  (hz := e27)) dX5_thick_27 rfl rfl rfl rfl rfl ⟨⟨Nat.le_of_ble_eq_true rfl, Nat.le_of_ble_eq_true rfl⟩, Nat.zero_le _, Nat.zero_le _⟩ (Nat.le_of_ble_eq_true rfl) (st' := [.int y27]) rfl (fun hE => ?_)
      have hbl27 : bl y27 := hE
      refine j_if_eq 45 33 C dX5_thick_30 rfl rfl (fun c_30 => ?_) (fun c_30 => ?_)
      · replace hz := (if_pos c_30).symm.trans hz
        refine j_iconst 46 C (x := nI 0) dX5_thick_45 rfl (by decide) ?_
        subst hz
        exact j_retI C X dX5_thick_46 (bl_nar bl_0) ⟨rfl, rfl, rfl, (CT_x (by intro a; (by_cases h0 : a = 2; (· (first | (subst h0; simp [sA]; done) | (rw [h0]; simp [sA]; done))); by_cases h1 : a = 3; (· (first | (subst h1; simp [sA]; done) | (rw [h1]; simp [sA]; done))); by_cases h2 : a = 9; (· (first | (subst h2; simp [sA]; done) | (rw [h2]; simp [sA]; done))); simp [sA, h0, h1, h2]))), bl_0⟩
      · replace hz := (if_neg c_30).symm.trans hz
        refine j_iload_n 34 C dX5_thick_33 rfl rfl 3 rfl ?_
        obtain ⟨y34, e34, hz⟩ := ap_x hz
        refine s_S 37 C (As := [.int to_]) cs_X5_51 (c_X5_isDepth (l := l) (D := D) (K := K) (ad := ad) hG  (hz := e34)) dX5_thick_34 rfl rfl rfl rfl rfl ⟨⟨Nat.le_of_ble_eq_true rfl, Nat.le_of_ble_eq_true rfl⟩, Nat.zero_le _, Nat.zero_le _⟩ (Nat.le_of_ble_eq_true rfl) (st' := [.int y34]) rfl (fun hE => ?_)
        have hbl34 : bl y34 := hE
        refine j_if_eq 45 40 C dX5_thick_37 rfl rfl (fun c_37 => ?_) (fun c_37 => ?_)
        · replace hz := (if_pos c_37).symm.trans hz
          refine j_iconst 46 C (x := nI 0) dX5_thick_45 rfl (by decide) ?_
          subst hz
          exact j_retI C X dX5_thick_46 (bl_nar bl_0) ⟨rfl, rfl, rfl, (CT_x (by intro a; (by_cases h0 : a = 2; (· (first | (subst h0; simp [sA]; done) | (rw [h0]; simp [sA]; done))); by_cases h1 : a = 3; (· (first | (subst h1; simp [sA]; done) | (rw [h1]; simp [sA]; done))); by_cases h2 : a = 9; (· (first | (subst h2; simp [sA]; done) | (rw [h2]; simp [sA]; done))); simp [sA, h0, h1, h2]))), bl_0⟩
        · replace hz := (if_neg c_37).symm.trans hz
          refine j_iload_n 41 C dX5_thick_40 rfl rfl 2 rfl ?_
          refine j_iload_n 42 C dX5_thick_41 rfl rfl 3 rfl ?_
          refine j_ic_le 47 45 C dX5_thick_42 rfl rfl (fun c_42 => ?_) (fun c_42 => ?_)
          · replace hz := (if_pos c_42).symm.trans hz
            refine j_aload_n 48 C dX5_thick_47 rfl rfl 0 rfl ?_
            refine k_get 51 C fl_X5_21 dX5_thick_48 rfl 0 (GH_r hG (by decide)) _ rfl (CE_0 _) (.ref (ad 1)) rfl ?_
            refine j_iload_n 52 C dX5_thick_51 rfl rfl 1 rfl ?_
            refine j_iload_n 53 C dX5_thick_52 rfl rfl 2 rfl ?_
            refine j_iload_n 54 C dX5_thick_53 rfl rfl 3 rfl ?_
            obtain ⟨y54, e54, hz⟩ := ap_x hz
            refine s_V 57 C (As := [.int surface, .int from_, .int to_]) cv_X5_54 (c_X2_setThick (l := l) (D := D) (K := K) (ad := ad) hG  (hz := e54)) dX5_thick_54 rfl 1 2 (GH_r hG (by decide)) rfl (CE_1 _) rfl rfl rfl rfl rfl rfl ⟨⟨Nat.le_of_ble_eq_true rfl, Nat.le_of_ble_eq_true rfl⟩, Nat.zero_le _, Nat.zero_le _⟩ (Nat.le_of_ble_eq_true rfl) (st' := []) rfl (fun hE => ?_)
            refine j_aload_n 58 C dX5_thick_57 rfl rfl 0 rfl ?_
            refine k_get 61 C fl_X5_39 dX5_thick_58 rfl 0 (GH_r hG (by decide)) _ rfl (CE_0 _) (.ref (ad 9)) rfl ?_
            obtain ⟨y61, e61, hz⟩ := ap_x hz
            refine s_V 64 C (As := []) cv_X5_58 (c_X0_forgetRock (l := l) (D := D) (K := K) (ad := ad) hG  (hz := e61)) dX5_thick_61 rfl 9 0 (GH_r hG (by decide)) rfl (CE_9 _) rfl rfl rfl rfl rfl rfl ⟨⟨Nat.le_of_ble_eq_true rfl, Nat.le_of_ble_eq_true rfl⟩, Nat.zero_le _, Nat.zero_le _⟩ (Nat.le_of_ble_eq_true rfl) (st' := []) rfl (fun hE => ?_)
            refine j_iconst 65 C (x := nI 1) dX5_thick_64 rfl (by decide) ?_
            subst hz
            exact j_retI C X dX5_thick_65 (bl_nar bl_1) ⟨rfl, rfl, rfl, rfl, bl_1⟩
          · replace hz := (if_neg c_42).symm.trans hz
            refine j_iconst 46 C (x := nI 0) dX5_thick_45 rfl (by decide) ?_
            subst hz
            exact j_retI C X dX5_thick_46 (bl_nar bl_0) ⟨rfl, rfl, rfl, (CT_x (by intro a; (by_cases h0 : a = 2; (· (first | (subst h0; simp [sA]; done) | (rw [h0]; simp [sA]; done))); by_cases h1 : a = 3; (· (first | (subst h1; simp [sA]; done) | (rw [h1]; simp [sA]; done))); by_cases h2 : a = 9; (· (first | (subst h2; simp [sA]; done) | (rw [h2]; simp [sA]; done))); simp [sA, h0, h1, h2]))), bl_0⟩
    · replace hz := (if_pos c_21).symm.trans hz
      refine j_iconst 25 C (x := nI 0) dX5_thick_24 rfl (by decide) ?_
      subst hz
      exact j_retI C X dX5_thick_25 (bl_nar bl_0) ⟨rfl, rfl, rfl, (CT_x (by intro a; (by_cases h0 : a = 2; (· (first | (subst h0; simp [sA]; done) | (rw [h0]; simp [sA]; done))); by_cases h1 : a = 3; (· (first | (subst h1; simp [sA]; done) | (rw [h1]; simp [sA]; done))); by_cases h2 : a = 9; (· (first | (subst h2; simp [sA]; done) | (rw [h2]; simp [sA]; done))); simp [sA, h0, h1, h2]))), bl_0⟩
def m_X5_steep (W S ns nc : Nat) (B : Nat → Option Nat) (σ : Nat → Nat → Int32) (surface : Int32) (most : Int32) : Int32 × (Nat → Int32) × (Nat → Int32) := ap (m_X2_hasSurface W S ns nc B σ surface) (fun (y5 : Int32) => (if y5 = 0 then (nI 0, (σ 4), (σ 9)) else ap (m_X5_isDepth W S ns nc B σ most) (fun (y12 : Int32) => (if y12 = 0 then (nI 0, (σ 4), (σ 9)) else ap (m_X2_setSteep W S ns nc B σ surface most) (fun (y26 : (Nat → Int32)) => ap (m_X0_forgetRock W S ns nc B (sA σ 4 y26)) (fun (y33 : (Nat → Int32)) => (nI 1, y26, y33)))))))
abbrev rm_X5_steep : Room := { frames := 2, cells := 0, slots := 0, locals := 43 }
set_option maxHeartbeats 4000000 in
set_option maxRecDepth 100000 in
theorem c_X5_steep {l : Launch} {D : va_G} {K : Nat → ClassId} {W S ns nc N : Nat} {ad : Nat → Nat} {B : Nat → Option Nat} {σ : Nat → Nat → Int32} (hG : GH W S ns nc N) {surface : Int32} {most : Int32}  {z : Int32 × (Nat → Int32) × (Nat → Int32)} (hz : m_X5_steep W S ns nc B σ surface most = z)  : MC l yX5_steep cX5_steep 3 (some .boolean) rm_X5_steep D (TY K) N ad (CT K W S ns nc ad B σ) [.ref (ad 0), .int surface, .int most] (BS (some (.int z.1)) N ad (CT K W S ns nc ad B (sA (sA σ 4 z.2.1) 9 z.2.2)) (bl z.1)) := by
  have hW := hG.1; have hW8 := hG.2.1; have hS := hG.2.2.1; have hS4 := hG.2.2.2.1; have hns := hG.2.2.2.2.1; have hnc := hG.2.2.2.2.2.1; have hWS := GH_ws hG
  refine MC.of (by decide) (Nat.le_of_ble_eq_true rfl) (fun p e s m args below meth c Q A H0 C X => ?_)
  replace C : Cx p s m args meth c cX5_steep RX5 3 D (TY K) A H0 := C
  show J p l e rm_X5_steep s m args below meth c Q D A H0 3 0 0 N ad (CT K W S ns nc ad B σ) 0 [(0, .ref (ad 0)), (1, .int surface), (2, .int most)] []
  unfold m_X5_steep at hz
  refine j_aload_n 1 C dX5_steep_0 rfl rfl 0 rfl ?_
  refine k_get 4 C fl_X5_21 dX5_steep_1 rfl 0 (GH_r hG (by decide)) _ rfl (CE_0 _) (.ref (ad 1)) rfl ?_
  refine j_iload_n 5 C dX5_steep_4 rfl rfl 1 rfl ?_
  obtain ⟨y5, e5, hz⟩ := ap_x hz
  refine s_V 8 C (As := [.int surface]) cv_X5_47 (c_X2_hasSurface (l := l) (D := D) (K := K) (ad := ad) hG  (hz := e5)) dX5_steep_5 rfl 1 2 (GH_r hG (by decide)) rfl (CE_1 _) rfl rfl rfl rfl rfl rfl ⟨⟨Nat.le_of_ble_eq_true rfl, Nat.le_of_ble_eq_true rfl⟩, Nat.zero_le _, Nat.zero_le _⟩ (Nat.le_of_ble_eq_true rfl) (st' := [.int y5]) rfl (fun hE => ?_)
  have hbl5 : bl y5 := hE
  refine j_if_eq 18 11 C dX5_steep_8 rfl rfl (fun c_8 => ?_) (fun c_8 => ?_)
  · replace hz := (if_pos c_8).symm.trans hz
    refine j_iconst 19 C (x := nI 0) dX5_steep_18 rfl (by decide) ?_
    subst hz
    exact j_retI C X dX5_steep_19 (bl_nar bl_0) ⟨rfl, rfl, rfl, (CT_x (by intro a; (by_cases h0 : a = 4; (· (first | (subst h0; simp [sA]; done) | (rw [h0]; simp [sA]; done))); by_cases h1 : a = 9; (· (first | (subst h1; simp [sA]; done) | (rw [h1]; simp [sA]; done))); simp [sA, h0, h1]))), bl_0⟩
  · replace hz := (if_neg c_8).symm.trans hz
    refine j_iload_n 12 C dX5_steep_11 rfl rfl 2 rfl ?_
    obtain ⟨y12, e12, hz⟩ := ap_x hz
    refine s_S 15 C (As := [.int most]) cs_X5_51 (c_X5_isDepth (l := l) (D := D) (K := K) (ad := ad) hG  (hz := e12)) dX5_steep_12 rfl rfl rfl rfl rfl ⟨⟨Nat.le_of_ble_eq_true rfl, Nat.le_of_ble_eq_true rfl⟩, Nat.zero_le _, Nat.zero_le _⟩ (Nat.le_of_ble_eq_true rfl) (st' := [.int y12]) rfl (fun hE => ?_)
    have hbl12 : bl y12 := hE
    refine j_if_ne 20 18 C dX5_steep_15 rfl rfl (fun c_15 => ?_) (fun c_15 => ?_)
    · replace hz := (if_neg c_15).symm.trans hz
      refine j_aload_n 21 C dX5_steep_20 rfl rfl 0 rfl ?_
      refine k_get 24 C fl_X5_21 dX5_steep_21 rfl 0 (GH_r hG (by decide)) _ rfl (CE_0 _) (.ref (ad 1)) rfl ?_
      refine j_iload_n 25 C dX5_steep_24 rfl rfl 1 rfl ?_
      refine j_iload_n 26 C dX5_steep_25 rfl rfl 2 rfl ?_
      obtain ⟨y26, e26, hz⟩ := ap_x hz
      refine s_V 29 C (As := [.int surface, .int most]) cv_X5_61 (c_X2_setSteep (l := l) (D := D) (K := K) (ad := ad) hG  (hz := e26)) dX5_steep_26 rfl 1 2 (GH_r hG (by decide)) rfl (CE_1 _) rfl rfl rfl rfl rfl rfl ⟨⟨Nat.le_of_ble_eq_true rfl, Nat.le_of_ble_eq_true rfl⟩, Nat.zero_le _, Nat.zero_le _⟩ (Nat.le_of_ble_eq_true rfl) (st' := []) rfl (fun hE => ?_)
      refine j_aload_n 30 C dX5_steep_29 rfl rfl 0 rfl ?_
      refine k_get 33 C fl_X5_39 dX5_steep_30 rfl 0 (GH_r hG (by decide)) _ rfl (CE_0 _) (.ref (ad 9)) rfl ?_
      obtain ⟨y33, e33, hz⟩ := ap_x hz
      refine s_V 36 C (As := []) cv_X5_58 (c_X0_forgetRock (l := l) (D := D) (K := K) (ad := ad) hG  (hz := e33)) dX5_steep_33 rfl 9 0 (GH_r hG (by decide)) rfl (CE_9 _) rfl rfl rfl rfl rfl rfl ⟨⟨Nat.le_of_ble_eq_true rfl, Nat.le_of_ble_eq_true rfl⟩, Nat.zero_le _, Nat.zero_le _⟩ (Nat.le_of_ble_eq_true rfl) (st' := []) rfl (fun hE => ?_)
      refine j_iconst 37 C (x := nI 1) dX5_steep_36 rfl (by decide) ?_
      subst hz
      exact j_retI C X dX5_steep_37 (bl_nar bl_1) ⟨rfl, rfl, rfl, rfl, bl_1⟩
    · replace hz := (if_pos c_15).symm.trans hz
      refine j_iconst 19 C (x := nI 0) dX5_steep_18 rfl (by decide) ?_
      subst hz
      exact j_retI C X dX5_steep_19 (bl_nar bl_0) ⟨rfl, rfl, rfl, (CT_x (by intro a; (by_cases h0 : a = 4; (· (first | (subst h0; simp [sA]; done) | (rw [h0]; simp [sA]; done))); by_cases h1 : a = 9; (· (first | (subst h1; simp [sA]; done) | (rw [h1]; simp [sA]; done))); simp [sA, h0, h1]))), bl_0⟩
def m_X5_fault (W S ns nc : Nat) (B : Nat → Option Nat) (σ : Nat → Nat → Int32) (column : Int32) (thrown : Int32) : Int32 × (Nat → Int32) × (Nat → Int32) × (Nat → Int32) := ap (m_X2_hasNextColumn W S ns nc B σ column) (fun (y5 : Int32) => (if y5 = 0 then (nI 0, (σ 5), (σ 6), (σ 9)) else ap (m_X5_isWithin W S ns nc B σ thrown (nI 30)) (fun (y14 : Int32) => (if y14 = 0 then (nI 0, (σ 5), (σ 6), (σ 9)) else ap (m_X2_breakAt W S ns nc B σ column thrown) (fun (y28 : (Nat → Int32) × (Nat → Int32)) => ap (m_X0_forgetRock W S ns nc B (sA (sA σ 5 y28.1) 6 y28.2)) (fun (y35 : (Nat → Int32)) => (nI 1, y28.1, y28.2, y35)))))))
abbrev rm_X5_fault : Room := { frames := 2, cells := 0, slots := 0, locals := 43 }
set_option maxHeartbeats 4000000 in
set_option maxRecDepth 100000 in
theorem c_X5_fault {l : Launch} {D : va_G} {K : Nat → ClassId} {W S ns nc N : Nat} {ad : Nat → Nat} {B : Nat → Option Nat} {σ : Nat → Nat → Int32} (hG : GH W S ns nc N) {column : Int32} {thrown : Int32}  {z : Int32 × (Nat → Int32) × (Nat → Int32) × (Nat → Int32)} (hz : m_X5_fault W S ns nc B σ column thrown = z)  : MC l yX5_fault cX5_fault 3 (some .boolean) rm_X5_fault D (TY K) N ad (CT K W S ns nc ad B σ) [.ref (ad 0), .int column, .int thrown] (BS (some (.int z.1)) N ad (CT K W S ns nc ad B (sA (sA (sA σ 5 z.2.1) 6 z.2.2.1) 9 z.2.2.2)) (bl z.1)) := by
  have hW := hG.1; have hW8 := hG.2.1; have hS := hG.2.2.1; have hS4 := hG.2.2.2.1; have hns := hG.2.2.2.2.1; have hnc := hG.2.2.2.2.2.1; have hWS := GH_ws hG
  refine MC.of (by decide) (Nat.le_of_ble_eq_true rfl) (fun p e s m args below meth c Q A H0 C X => ?_)
  replace C : Cx p s m args meth c cX5_fault RX5 3 D (TY K) A H0 := C
  show J p l e rm_X5_fault s m args below meth c Q D A H0 3 0 0 N ad (CT K W S ns nc ad B σ) 0 [(0, .ref (ad 0)), (1, .int column), (2, .int thrown)] []
  unfold m_X5_fault at hz
  refine j_aload_n 1 C dX5_fault_0 rfl rfl 0 rfl ?_
  refine k_get 4 C fl_X5_21 dX5_fault_1 rfl 0 (GH_r hG (by decide)) _ rfl (CE_0 _) (.ref (ad 1)) rfl ?_
  refine j_iload_n 5 C dX5_fault_4 rfl rfl 1 rfl ?_
  obtain ⟨y5, e5, hz⟩ := ap_x hz
  refine s_V 8 C (As := [.int column]) cv_X5_64 (c_X2_hasNextColumn (l := l) (D := D) (K := K) (ad := ad) hG  (hz := e5)) dX5_fault_5 rfl 1 2 (GH_r hG (by decide)) rfl (CE_1 _) rfl rfl rfl rfl rfl rfl ⟨⟨Nat.le_of_ble_eq_true rfl, Nat.le_of_ble_eq_true rfl⟩, Nat.zero_le _, Nat.zero_le _⟩ (Nat.le_of_ble_eq_true rfl) (st' := [.int y5]) rfl (fun hE => ?_)
  have hbl5 : bl y5 := hE
  refine j_if_eq 20 11 C dX5_fault_8 rfl rfl (fun c_8 => ?_) (fun c_8 => ?_)
  · replace hz := (if_pos c_8).symm.trans hz
    refine j_iconst 21 C (x := nI 0) dX5_fault_20 rfl (by decide) ?_
    subst hz
    exact j_retI C X dX5_fault_21 (bl_nar bl_0) ⟨rfl, rfl, rfl, (CT_x (by intro a; (by_cases h0 : a = 5; (· (first | (subst h0; simp [sA]; done) | (rw [h0]; simp [sA]; done))); by_cases h1 : a = 6; (· (first | (subst h1; simp [sA]; done) | (rw [h1]; simp [sA]; done))); by_cases h2 : a = 9; (· (first | (subst h2; simp [sA]; done) | (rw [h2]; simp [sA]; done))); simp [sA, h0, h1, h2]))), bl_0⟩
  · replace hz := (if_neg c_8).symm.trans hz
    refine j_iload_n 12 C dX5_fault_11 rfl rfl 2 rfl ?_
    refine j_bipush 14 C (x := nI 30) dX5_fault_12 rfl (by decide) ?_
    obtain ⟨y14, e14, hz⟩ := ap_x hz
    refine s_S 17 C (As := [.int thrown, .int (nI 30)]) cs_X5_67 (c_X5_isWithin (l := l) (D := D) (K := K) (ad := ad) hG  (hz := e14)) dX5_fault_14 rfl rfl rfl rfl rfl ⟨⟨Nat.le_of_ble_eq_true rfl, Nat.le_of_ble_eq_true rfl⟩, Nat.zero_le _, Nat.zero_le _⟩ (Nat.le_of_ble_eq_true rfl) (st' := [.int y14]) rfl (fun hE => ?_)
    have hbl14 : bl y14 := hE
    refine j_if_ne 22 20 C dX5_fault_17 rfl rfl (fun c_17 => ?_) (fun c_17 => ?_)
    · replace hz := (if_neg c_17).symm.trans hz
      refine j_aload_n 23 C dX5_fault_22 rfl rfl 0 rfl ?_
      refine k_get 26 C fl_X5_21 dX5_fault_23 rfl 0 (GH_r hG (by decide)) _ rfl (CE_0 _) (.ref (ad 1)) rfl ?_
      refine j_iload_n 27 C dX5_fault_26 rfl rfl 1 rfl ?_
      refine j_iload_n 28 C dX5_fault_27 rfl rfl 2 rfl ?_
      obtain ⟨y28, e28, hz⟩ := ap_x hz
      refine s_V 31 C (As := [.int column, .int thrown]) cv_X5_71 (c_X2_breakAt (l := l) (D := D) (K := K) (ad := ad) hG  (hz := e28)) dX5_fault_28 rfl 1 2 (GH_r hG (by decide)) rfl (CE_1 _) rfl rfl rfl rfl rfl rfl ⟨⟨Nat.le_of_ble_eq_true rfl, Nat.le_of_ble_eq_true rfl⟩, Nat.zero_le _, Nat.zero_le _⟩ (Nat.le_of_ble_eq_true rfl) (st' := []) rfl (fun hE => ?_)
      refine j_aload_n 32 C dX5_fault_31 rfl rfl 0 rfl ?_
      refine k_get 35 C fl_X5_39 dX5_fault_32 rfl 0 (GH_r hG (by decide)) _ rfl (CE_0 _) (.ref (ad 9)) rfl ?_
      obtain ⟨y35, e35, hz⟩ := ap_x hz
      refine s_V 38 C (As := []) cv_X5_58 (c_X0_forgetRock (l := l) (D := D) (K := K) (ad := ad) hG  (hz := e35)) dX5_fault_35 rfl 9 0 (GH_r hG (by decide)) rfl (CE_9 _) rfl rfl rfl rfl rfl rfl ⟨⟨Nat.le_of_ble_eq_true rfl, Nat.le_of_ble_eq_true rfl⟩, Nat.zero_le _, Nat.zero_le _⟩ (Nat.le_of_ble_eq_true rfl) (st' := []) rfl (fun hE => ?_)
      refine j_iconst 39 C (x := nI 1) dX5_fault_38 rfl (by decide) ?_
      subst hz
      exact j_retI C X dX5_fault_39 (bl_nar bl_1) ⟨rfl, rfl, rfl, rfl, bl_1⟩
    · replace hz := (if_pos c_17).symm.trans hz
      refine j_iconst 21 C (x := nI 0) dX5_fault_20 rfl (by decide) ?_
      subst hz
      exact j_retI C X dX5_fault_21 (bl_nar bl_0) ⟨rfl, rfl, rfl, (CT_x (by intro a; (by_cases h0 : a = 5; (· (first | (subst h0; simp [sA]; done) | (rw [h0]; simp [sA]; done))); by_cases h1 : a = 6; (· (first | (subst h1; simp [sA]; done) | (rw [h1]; simp [sA]; done))); by_cases h2 : a = 9; (· (first | (subst h2; simp [sA]; done) | (rw [h2]; simp [sA]; done))); simp [sA, h0, h1, h2]))), bl_0⟩
def m_X5_heal (W S ns nc : Nat) (B : Nat → Option Nat) (σ : Nat → Nat → Int32) (column : Int32) : Int32 × (Nat → Int32) × (Nat → Int32) × (Nat → Int32) := ap (m_X2_isBroken W S ns nc B σ column) (fun (y5 : Int32) => (if y5 = 0 then (nI 0, (σ 5), (σ 6), (σ 9)) else ap (m_X2_mendAt W S ns nc B σ column) (fun (y18 : (Nat → Int32) × (Nat → Int32)) => ap (m_X0_forgetRock W S ns nc B (sA (sA σ 5 y18.1) 6 y18.2)) (fun (y25 : (Nat → Int32)) => (nI 1, y18.1, y18.2, y25)))))
abbrev rm_X5_heal : Room := { frames := 2, cells := 0, slots := 0, locals := 42 }
set_option maxHeartbeats 4000000 in
set_option maxRecDepth 100000 in
theorem c_X5_heal {l : Launch} {D : va_G} {K : Nat → ClassId} {W S ns nc N : Nat} {ad : Nat → Nat} {B : Nat → Option Nat} {σ : Nat → Nat → Int32} (hG : GH W S ns nc N) {column : Int32}  {z : Int32 × (Nat → Int32) × (Nat → Int32) × (Nat → Int32)} (hz : m_X5_heal W S ns nc B σ column = z)  : MC l yX5_heal cX5_heal 2 (some .boolean) rm_X5_heal D (TY K) N ad (CT K W S ns nc ad B σ) [.ref (ad 0), .int column] (BS (some (.int z.1)) N ad (CT K W S ns nc ad B (sA (sA (sA σ 5 z.2.1) 6 z.2.2.1) 9 z.2.2.2)) (bl z.1)) := by
  have hW := hG.1; have hW8 := hG.2.1; have hS := hG.2.2.1; have hS4 := hG.2.2.2.1; have hns := hG.2.2.2.2.1; have hnc := hG.2.2.2.2.2.1; have hWS := GH_ws hG
  refine MC.of (by decide) (Nat.le_of_ble_eq_true rfl) (fun p e s m args below meth c Q A H0 C X => ?_)
  replace C : Cx p s m args meth c cX5_heal RX5 2 D (TY K) A H0 := C
  show J p l e rm_X5_heal s m args below meth c Q D A H0 2 0 0 N ad (CT K W S ns nc ad B σ) 0 [(0, .ref (ad 0)), (1, .int column)] []
  unfold m_X5_heal at hz
  refine j_aload_n 1 C dX5_heal_0 rfl rfl 0 rfl ?_
  refine k_get 4 C fl_X5_21 dX5_heal_1 rfl 0 (GH_r hG (by decide)) _ rfl (CE_0 _) (.ref (ad 1)) rfl ?_
  refine j_iload_n 5 C dX5_heal_4 rfl rfl 1 rfl ?_
  obtain ⟨y5, e5, hz⟩ := ap_x hz
  refine s_V 8 C (As := [.int column]) cv_X5_74 (c_X2_isBroken (l := l) (D := D) (K := K) (ad := ad) hG  (hz := e5)) dX5_heal_5 rfl 1 2 (GH_r hG (by decide)) rfl (CE_1 _) rfl rfl rfl rfl rfl rfl ⟨⟨Nat.le_of_ble_eq_true rfl, Nat.le_of_ble_eq_true rfl⟩, Nat.zero_le _, Nat.zero_le _⟩ (Nat.le_of_ble_eq_true rfl) (st' := [.int y5]) rfl (fun hE => ?_)
  have hbl5 : bl y5 := hE
  refine j_if_ne 13 11 C dX5_heal_8 rfl rfl (fun c_8 => ?_) (fun c_8 => ?_)
  · replace hz := (if_neg c_8).symm.trans hz
    refine j_aload_n 14 C dX5_heal_13 rfl rfl 0 rfl ?_
    refine k_get 17 C fl_X5_21 dX5_heal_14 rfl 0 (GH_r hG (by decide)) _ rfl (CE_0 _) (.ref (ad 1)) rfl ?_
    refine j_iload_n 18 C dX5_heal_17 rfl rfl 1 rfl ?_
    obtain ⟨y18, e18, hz⟩ := ap_x hz
    refine s_V 21 C (As := [.int column]) cv_X5_77 (c_X2_mendAt (l := l) (D := D) (K := K) (ad := ad) hG  (hz := e18)) dX5_heal_18 rfl 1 2 (GH_r hG (by decide)) rfl (CE_1 _) rfl rfl rfl rfl rfl rfl ⟨⟨Nat.le_of_ble_eq_true rfl, Nat.le_of_ble_eq_true rfl⟩, Nat.zero_le _, Nat.zero_le _⟩ (Nat.le_of_ble_eq_true rfl) (st' := []) rfl (fun hE => ?_)
    refine j_aload_n 22 C dX5_heal_21 rfl rfl 0 rfl ?_
    refine k_get 25 C fl_X5_39 dX5_heal_22 rfl 0 (GH_r hG (by decide)) _ rfl (CE_0 _) (.ref (ad 9)) rfl ?_
    obtain ⟨y25, e25, hz⟩ := ap_x hz
    refine s_V 28 C (As := []) cv_X5_58 (c_X0_forgetRock (l := l) (D := D) (K := K) (ad := ad) hG  (hz := e25)) dX5_heal_25 rfl 9 0 (GH_r hG (by decide)) rfl (CE_9 _) rfl rfl rfl rfl rfl rfl ⟨⟨Nat.le_of_ble_eq_true rfl, Nat.le_of_ble_eq_true rfl⟩, Nat.zero_le _, Nat.zero_le _⟩ (Nat.le_of_ble_eq_true rfl) (st' := []) rfl (fun hE => ?_)
    refine j_iconst 29 C (x := nI 1) dX5_heal_28 rfl (by decide) ?_
    subst hz
    exact j_retI C X dX5_heal_29 (bl_nar bl_1) ⟨rfl, rfl, rfl, rfl, bl_1⟩
  · replace hz := (if_pos c_8).symm.trans hz
    refine j_iconst 12 C (x := nI 0) dX5_heal_11 rfl (by decide) ?_
    subst hz
    exact j_retI C X dX5_heal_12 (bl_nar bl_0) ⟨rfl, rfl, rfl, (CT_x (by intro a; (by_cases h0 : a = 5; (· (first | (subst h0; simp [sA]; done) | (rw [h0]; simp [sA]; done))); by_cases h1 : a = 6; (· (first | (subst h1; simp [sA]; done) | (rw [h1]; simp [sA]; done))); by_cases h2 : a = 9; (· (first | (subst h2; simp [sA]; done) | (rw [h2]; simp [sA]; done))); simp [sA, h0, h1, h2]))), bl_0⟩
def m_X5_ground (W S ns nc : Nat) (B : Nat → Option Nat) (σ : Nat → Nat → Int32) (column : Int32) (depth : Int32) : Int32 × (Nat → Int32) := (if column < 0 then (nI 0, (σ 35)) else (if (nI W) ≤ column then (nI 0, (σ 35)) else ap (m_X5_isDepth W S ns nc B σ depth) (fun (y14 : Int32) => (if y14 = 0 then (nI 0, (σ 35)) else (nI 1, (upd (σ 35) (column).toNatClampNeg depth))))))
abbrev rm_X5_ground : Room := { frames := 1, cells := 0, slots := 0, locals := 20 }
set_option maxHeartbeats 4000000 in
set_option maxRecDepth 100000 in
theorem c_X5_ground {l : Launch} {D : va_G} {K : Nat → ClassId} {W S ns nc N : Nat} {ad : Nat → Nat} {B : Nat → Option Nat} {σ : Nat → Nat → Int32} (hG : GH W S ns nc N) {column : Int32} {depth : Int32}  {z : Int32 × (Nat → Int32)} (hz : m_X5_ground W S ns nc B σ column depth = z)  : MC l yX5_ground cX5_ground 3 (some .boolean) rm_X5_ground D (TY K) N ad (CT K W S ns nc ad B σ) [.ref (ad 0), .int column, .int depth] (BS (some (.int z.1)) N ad (CT K W S ns nc ad B (sA σ 35 z.2)) (bl z.1)) := by
  have hW := hG.1; have hW8 := hG.2.1; have hS := hG.2.2.1; have hS4 := hG.2.2.2.1; have hns := hG.2.2.2.2.1; have hnc := hG.2.2.2.2.2.1; have hWS := GH_ws hG
  refine MC.of (by decide) (Nat.le_of_ble_eq_true rfl) (fun p e s m args below meth c Q A H0 C X => ?_)
  replace C : Cx p s m args meth c cX5_ground RX5 3 D (TY K) A H0 := C
  show J p l e rm_X5_ground s m args below meth c Q D A H0 3 0 0 N ad (CT K W S ns nc ad B σ) 0 [(0, .ref (ad 0)), (1, .int column), (2, .int depth)] []
  unfold m_X5_ground at hz
  refine j_iload_n 1 C dX5_ground_0 rfl rfl 1 rfl ?_
  refine j_if_lt 20 4 C dX5_ground_1 rfl rfl (fun c_1 => ?_) (fun c_1 => ?_)
  · replace hz := (if_pos c_1).symm.trans hz
    refine j_iconst 21 C (x := nI 0) dX5_ground_20 rfl (by decide) ?_
    subst hz
    exact j_retI C X dX5_ground_21 (bl_nar bl_0) ⟨rfl, rfl, rfl, (congrArg _ sA_id.symm), bl_0⟩
  · replace hz := (if_neg c_1).symm.trans hz
    refine j_iload_n 5 C dX5_ground_4 rfl rfl 1 rfl ?_
    refine j_aload_n 6 C dX5_ground_5 rfl rfl 0 rfl ?_
    refine k_get 9 C fl_X5_43 dX5_ground_6 rfl 0 (GH_r hG (by decide)) _ rfl (CE_0 _) (.ref (ad 35)) rfl ?_
    refine k_alen 10 C dX5_ground_9 rfl 35 (GH_r hG (by decide)) 0 (CE_35 _) rfl ?_
    refine j_ic_ge 20 13 C dX5_ground_10 rfl rfl (fun c_10 => ?_) (fun c_10 => ?_)
    · replace hz := (if_pos c_10).symm.trans hz
      refine j_iconst 21 C (x := nI 0) dX5_ground_20 rfl (by decide) ?_
      subst hz
      exact j_retI C X dX5_ground_21 (bl_nar bl_0) ⟨rfl, rfl, rfl, (congrArg _ sA_id.symm), bl_0⟩
    · replace hz := (if_neg c_10).symm.trans hz
      obtain ⟨kc, hkc, ekc⟩ : ∃ k : Nat, k < W ∧ column = nI k := by
        obtain ⟨j, hj, rfl⟩ := nI_of c_1
        exact ⟨j, Nat.not_le.mp (fun q => c_10 ((nI_leI (by omega) hj).mpr q)), rfl⟩
      refine j_iload_n 14 C dX5_ground_13 rfl rfl 2 rfl ?_
      obtain ⟨y14, e14, hz⟩ := ap_x hz
      refine s_S 17 C (As := [.int depth]) cs_X5_51 (c_X5_isDepth (l := l) (D := D) (K := K) (ad := ad) hG  (hz := e14)) dX5_ground_14 rfl rfl rfl rfl rfl ⟨⟨Nat.le_of_ble_eq_true rfl, Nat.le_of_ble_eq_true rfl⟩, Nat.zero_le _, Nat.zero_le _⟩ (Nat.le_of_ble_eq_true rfl) (st' := [.int y14]) rfl (fun hE => ?_)
      have hbl14 : bl y14 := hE
      refine j_if_ne 22 20 C dX5_ground_17 rfl rfl (fun c_17 => ?_) (fun c_17 => ?_)
      · replace hz := (if_neg c_17).symm.trans hz
        refine j_aload_n 23 C dX5_ground_22 rfl rfl 0 rfl ?_
        refine k_get 26 C fl_X5_43 dX5_ground_23 rfl 0 (GH_r hG (by decide)) _ rfl (CE_0 _) (.ref (ad 35)) rfl ?_
        refine j_iload_n 27 C dX5_ground_26 rfl rfl 1 rfl ?_
        refine j_iload_n 28 C dX5_ground_27 rfl rfl 2 rfl ?_
        refine k_iast 29 C dX5_ground_28 rfl 35 (GH_r hG (by decide)) (σ 35) rfl CE_35 (vp_inE (n := kc) (by simp only [ekc, nI_add, pk_mul]) (by omega) (by omega)) (sA σ 35 (upd (σ 35) (column).toNatClampNeg depth)) rfl ?_
        refine j_iconst 30 C (x := nI 1) dX5_ground_29 rfl (by decide) ?_
        subst hz
        exact j_retI C X dX5_ground_30 (bl_nar bl_1) ⟨rfl, rfl, rfl, rfl, bl_1⟩
      · replace hz := (if_pos c_17).symm.trans hz
        refine j_iconst 21 C (x := nI 0) dX5_ground_20 rfl (by decide) ?_
        subst hz
        exact j_retI C X dX5_ground_21 (bl_nar bl_0) ⟨rfl, rfl, rfl, (congrArg _ sA_id.symm), bl_0⟩
def m_X5_take (W S ns nc : Nat) (B : Nat → Option Nat) (σ : Nat → Nat → Int32) (sight : Int32) : Int32 × (Nat → Option Nat) × (Nat → Int32) := ap (m_X4_remove W S ns nc B σ sight) (fun (y5 : Int32 × (Nat → Option Nat)) => (if y5.1 = 0 then (nI 0, y5.2, (σ 9)) else ap (m_X0_forgetQuarrel W S ns nc y5.2 σ) (fun (y17 : (Nat → Int32)) => (nI 1, y5.2, y17))))
abbrev rm_X5_take : Room := { frames := 2, cells := 0, slots := 0, locals := 42 }
set_option maxHeartbeats 4000000 in
set_option maxRecDepth 100000 in
theorem c_X5_take {l : Launch} {D : va_G} {K : Nat → ClassId} {W S ns nc N : Nat} {ad : Nat → Nat} {B : Nat → Option Nat} {σ : Nat → Nat → Int32} (hG : GH W S ns nc N) {sight : Int32}  {z : Int32 × (Nat → Option Nat) × (Nat → Int32)} (hz : m_X5_take W S ns nc B σ sight = z) (hB : BOK B N) : MC l yX5_take cX5_take 2 (some .boolean) rm_X5_take D (TY K) N ad (CT K W S ns nc ad B σ) [.ref (ad 0), .int sight] (BS (some (.int z.1)) N ad (CT K W S ns nc ad z.2.1 (sA σ 9 z.2.2)) (bl z.1)) := by
  have hW := hG.1; have hW8 := hG.2.1; have hS := hG.2.2.1; have hS4 := hG.2.2.2.1; have hns := hG.2.2.2.2.1; have hnc := hG.2.2.2.2.2.1; have hWS := GH_ws hG
  refine MC.of (by decide) (Nat.le_of_ble_eq_true rfl) (fun p e s m args below meth c Q A H0 C X => ?_)
  replace C : Cx p s m args meth c cX5_take RX5 2 D (TY K) A H0 := C
  show J p l e rm_X5_take s m args below meth c Q D A H0 2 0 0 N ad (CT K W S ns nc ad B σ) 0 [(0, .ref (ad 0)), (1, .int sight)] []
  unfold m_X5_take at hz
  refine j_aload_n 1 C dX5_take_0 rfl rfl 0 rfl ?_
  refine k_get 4 C fl_X5_30 dX5_take_1 rfl 0 (GH_r hG (by decide)) _ rfl (CE_0 _) (.ref (ad 7)) rfl ?_
  refine j_iload_n 5 C dX5_take_4 rfl rfl 1 rfl ?_
  obtain ⟨y5, e5, hz⟩ := ap_x hz
  refine s_V 8 C (As := [.int sight]) cv_X5_96 (c_X4_remove (l := l) (D := D) (K := K) (ad := ad) hG (hB := hB) (hz := e5)) dX5_take_5 rfl 7 4 (GH_r hG (by decide)) rfl (CE_7 _) rfl rfl rfl rfl rfl rfl ⟨⟨Nat.le_of_ble_eq_true rfl, Nat.le_of_ble_eq_true rfl⟩, Nat.zero_le _, Nat.zero_le _⟩ (Nat.le_of_ble_eq_true rfl) (st' := [.int y5.1]) rfl (fun hE => ?_)
  have hbl5 : bl y5.1 := hE
  refine j_if_ne 13 11 C dX5_take_8 rfl rfl (fun c_8 => ?_) (fun c_8 => ?_)
  · replace hz := (if_neg c_8).symm.trans hz
    refine j_aload_n 14 C dX5_take_13 rfl rfl 0 rfl ?_
    refine k_get 17 C fl_X5_39 dX5_take_14 rfl 0 (GH_r hG (by decide)) _ rfl (CE_0 _) (.ref (ad 9)) rfl ?_
    obtain ⟨y17, e17, hz⟩ := ap_x hz
    refine s_V 20 C (As := []) cv_X5_93 (c_X0_forgetQuarrel (l := l) (D := D) (K := K) (ad := ad) hG  (hz := e17)) dX5_take_17 rfl 9 0 (GH_r hG (by decide)) rfl (CE_9 _) rfl rfl rfl rfl rfl rfl ⟨⟨Nat.le_of_ble_eq_true rfl, Nat.le_of_ble_eq_true rfl⟩, Nat.zero_le _, Nat.zero_le _⟩ (Nat.le_of_ble_eq_true rfl) (st' := []) rfl (fun hE => ?_)
    refine j_iconst 21 C (x := nI 1) dX5_take_20 rfl (by decide) ?_
    subst hz
    exact j_retI C X dX5_take_21 (bl_nar bl_1) ⟨rfl, rfl, rfl, rfl, bl_1⟩
  · replace hz := (if_pos c_8).symm.trans hz
    refine j_iconst 12 C (x := nI 0) dX5_take_11 rfl (by decide) ?_
    subst hz
    exact j_retI C X dX5_take_12 (bl_nar bl_0) ⟨rfl, rfl, rfl, (congrArg _ sA_id.symm), bl_0⟩
def m_X5_quarrel (W S ns nc : Nat) (B : Nat → Option Nat) (σ : Nat → Nat → Int32) : Int32 × (Nat → Nat → Int32) := ap (m_X0_areSome W S ns nc B σ) (fun (y4 : Int32 × (Nat → Nat → Int32)) => (if y4.1 = 0 then ((-1), y4.2) else ap (m_X0_leftOut W S ns nc B y4.2) (fun (y14 : Int32) => (y14, y4.2))))
abbrev rm_X5_quarrel : Room := { frames := 18, cells := 0, slots := 0, locals := 540 }
set_option maxHeartbeats 4000000 in
set_option maxRecDepth 100000 in
theorem c_X5_quarrel {l : Launch} {D : va_G} {K : Nat → ClassId} {W S ns nc N : Nat} {ad : Nat → Nat} {B : Nat → Option Nat} {σ : Nat → Nat → Int32} (hG : GH W S ns nc N)   {z : Int32 × (Nat → Nat → Int32)} (hz : m_X5_quarrel W S ns nc B σ = z) (hB : BOK B N) (hb7 : bl (σ 9 7)) : MC l yX5_quarrel cX5_quarrel 1 (some .int) rm_X5_quarrel D (TY K) N ad (CT K W S ns nc ad B σ) [.ref (ad 0)] (BS (some (.int z.1)) N ad (CT K W S ns nc ad B z.2) True) := by
  have hW := hG.1; have hW8 := hG.2.1; have hS := hG.2.2.1; have hS4 := hG.2.2.2.1; have hns := hG.2.2.2.2.1; have hnc := hG.2.2.2.2.2.1; have hWS := GH_ws hG
  refine MC.of (by decide) (Nat.le_of_ble_eq_true rfl) (fun p e s m args below meth c Q A H0 C X => ?_)
  replace C : Cx p s m args meth c cX5_quarrel RX5 1 D (TY K) A H0 := C
  show J p l e rm_X5_quarrel s m args below meth c Q D A H0 1 0 0 N ad (CT K W S ns nc ad B σ) 0 [(0, .ref (ad 0))] []
  unfold m_X5_quarrel at hz
  refine j_aload_n 1 C dX5_quarrel_0 rfl rfl 0 rfl ?_
  refine k_get 4 C fl_X5_39 dX5_quarrel_1 rfl 0 (GH_r hG (by decide)) _ rfl (CE_0 _) (.ref (ad 9)) rfl ?_
  obtain ⟨y4, e4, hz⟩ := ap_x hz
  refine s_V 7 C (As := []) cv_X5_99 (c_X0_areSome (l := l) (D := D) (K := K) (ad := ad) hG (hB := hB) (hb7 := hb7) (hz := e4)) dX5_quarrel_4 rfl 9 0 (GH_r hG (by decide)) rfl (CE_9 _) rfl rfl rfl rfl rfl rfl ⟨⟨Nat.le_of_ble_eq_true rfl, Nat.le_of_ble_eq_true rfl⟩, Nat.zero_le _, Nat.zero_le _⟩ (Nat.le_of_ble_eq_true rfl) (st' := [.int y4.1]) rfl (fun hE => ?_)
  have hbl4 : bl y4.1 := hE
  refine j_if_eq 20 10 C dX5_quarrel_7 rfl rfl (fun c_7 => ?_) (fun c_7 => ?_)
  · replace hz := (if_pos c_7).symm.trans hz
    refine j_iconst 21 C (x := (-1)) dX5_quarrel_20 rfl (by decide) ?_
    subst hz
    exact j_retI C X dX5_quarrel_21 rfl ⟨rfl, rfl, rfl, rfl, trivial⟩
  · replace hz := (if_neg c_7).symm.trans hz
    refine j_aload_n 11 C dX5_quarrel_10 rfl rfl 0 rfl ?_
    refine k_get 14 C fl_X5_39 dX5_quarrel_11 rfl 0 (GH_r hG (by decide)) _ rfl (CE_0 _) (.ref (ad 9)) rfl ?_
    obtain ⟨y14, e14, hz⟩ := ap_x hz
    refine s_V 17 C (As := []) cv_X5_103 (c_X0_leftOut (l := l) (D := D) (K := K) (ad := ad) hG  (hz := e14)) dX5_quarrel_14 rfl 9 0 (GH_r hG (by decide)) rfl (CE_9 _) rfl rfl rfl rfl rfl rfl ⟨⟨Nat.le_of_ble_eq_true rfl, Nat.le_of_ble_eq_true rfl⟩, Nat.zero_le _, Nat.zero_le _⟩ (Nat.le_of_ble_eq_true rfl) (st' := [.int y14]) rfl (fun hE => ?_)
    refine j_goto 21 C dX5_quarrel_17 rfl ?_
    subst hz
    exact j_retI C X dX5_quarrel_21 rfl ⟨rfl, rfl, rfl, rfl, trivial⟩
def m_X5_end (W S ns nc : Nat) (B : Nat → Option Nat) (σ : Nat → Nat → Int32) (place : Int32) (what : Int32) : Int32 := ap (m_X0_agreed W S ns nc B σ) (fun (y4 : ) => (if what = 0 then ap (m_X1_least W S ns nc B σ 11 place) (fun (y14 : Int32) => y14) else ap (m_X1_greatest W S ns nc B σ 11 place) (fun (y22 : Int32) => y22)))
abbrev rm_X5_end : Room := { frames := 3, cells := 0, slots := 0, locals := 64 }
set_option maxHeartbeats 4000000 in
set_option maxRecDepth 100000 in
theorem c_X5_end {l : Launch} {D : va_G} {K : Nat → ClassId} {W S ns nc N : Nat} {ad : Nat → Nat} {B : Nat → Option Nat} {σ : Nat → Nat → Int32} (hG : GH W S ns nc N) {place : Int32} {what : Int32}  {z : Int32} (hz : m_X5_end W S ns nc B σ place what = z)  : MC l yX5_end cX5_end 4 (some .int) rm_X5_end D (TY K) N ad (CT K W S ns nc ad B σ) [.ref (ad 0), .int place, .int what] (BS (some (.int z)) N ad (CT K W S ns nc ad B σ) True) := by
  have hW := hG.1; have hW8 := hG.2.1; have hS := hG.2.2.1; have hS4 := hG.2.2.2.1; have hns := hG.2.2.2.2.1; have hnc := hG.2.2.2.2.2.1; have hWS := GH_ws hG
  refine MC.of (by decide) (Nat.le_of_ble_eq_true rfl) (fun p e s m args below meth c Q A H0 C X => ?_)
  replace C : Cx p s m args meth c cX5_end RX5 4 D (TY K) A H0 := C
  show J p l e rm_X5_end s m args below meth c Q D A H0 4 0 0 N ad (CT K W S ns nc ad B σ) 0 [(0, .ref (ad 0)), (1, .int place), (2, .int what)] []
  unfold m_X5_end at hz
  refine j_aload_n 1 C dX5_end_0 rfl rfl 0 rfl ?_
  refine k_get 4 C fl_X5_39 dX5_end_1 rfl 0 (GH_r hG (by decide)) _ rfl (CE_0 _) (.ref (ad 9)) rfl ?_
  obtain ⟨y4, e4, hz⟩ := ap_x hz
  refine s_V 7 C (As := []) cv_X5_116 (c_X0_agreed (l := l) (D := D) (K := K) (ad := ad) hG  (hz := e4)) dX5_end_4 rfl 9 0 (GH_r hG (by decide)) rfl (CE_9 _) rfl rfl rfl rfl rfl rfl ⟨⟨Nat.le_of_ble_eq_true rfl, Nat.le_of_ble_eq_true rfl⟩, Nat.zero_le _, Nat.zero_le _⟩ (Nat.le_of_ble_eq_true rfl) (st' := [.ref (ad 33)]) rfl (fun hE => ?_)
  refine j_astore_n 8 C [(3, .ref (ad 33)), (0, .ref (ad 0)), (1, .int place), (2, .int what)] dX5_end_7 rfl rfl (by decide) rfl ?_
  refine j_iload_n 9 C dX5_end_8 rfl rfl 3 rfl ?_
  refine j_if_ne 20 12 C dX5_end_9 rfl rfl (fun c_9 => ?_) (fun c_9 => ?_)
  · replace hz := (if_neg c_9).symm.trans hz
    refine j_aload_n 21 C dX5_end_20 rfl rfl 0 rfl ?_
    refine j_iload_n 22 C dX5_end_21 rfl rfl 2 rfl ?_
    obtain ⟨y22, e22, hz⟩ := ap_x hz
    refine s_V 25 C (As := [.int place]) cv_X5_178 (c_X1_greatest (l := l) (D := D) (K := K) (ad := ad) hG (hg := by decide) (hz := e22)) dX5_end_22 rfl 33 1 (GH_r hG (by decide)) rfl (CE_go (g := 11) (by decide) _) rfl rfl rfl rfl rfl rfl ⟨⟨Nat.le_of_ble_eq_true rfl, Nat.le_of_ble_eq_true rfl⟩, Nat.zero_le _, Nat.zero_le _⟩ (Nat.le_of_ble_eq_true rfl) (st' := [.int y22]) rfl (fun hE => ?_)
    subst hz
    exact j_retI C X dX5_end_25 rfl ⟨rfl, rfl, rfl, rfl, trivial⟩
  · replace hz := (if_pos c_9).symm.trans hz
    refine j_aload_n 13 C dX5_end_12 rfl rfl 0 rfl ?_
    refine j_iload_n 14 C dX5_end_13 rfl rfl 2 rfl ?_
    obtain ⟨y14, e14, hz⟩ := ap_x hz
    refine s_V 17 C (As := [.int place]) cv_X5_175 (c_X1_least (l := l) (D := D) (K := K) (ad := ad) hG (hg := by decide) (hz := e14)) dX5_end_14 rfl 33 1 (GH_r hG (by decide)) rfl (CE_go (g := 11) (by decide) _) rfl rfl rfl rfl rfl rfl ⟨⟨Nat.le_of_ble_eq_true rfl, Nat.le_of_ble_eq_true rfl⟩, Nat.zero_le _, Nat.zero_le _⟩ (Nat.le_of_ble_eq_true rfl) (st' := [.int y14]) rfl (fun hE => ?_)
    refine j_goto 25 C dX5_end_17 rfl ?_
    subst hz
    exact j_retI C X dX5_end_25 rfl ⟨rfl, rfl, rfl, rfl, trivial⟩
def m_X5_span (W S ns nc : Nat) (B : Nat → Option Nat) (σ : Nat → Nat → Int32) (surface : Int32) (column : Int32) (what : Int32) : Int32 × (Nat → Nat → Int32) := ap (m_X2_hasPlace W S ns nc B σ surface column) (fun (y6 : Int32) => (if y6 = 0 then ((-1), σ) else ap (m_X5_isEnd W S ns nc B σ what) (fun (y13 : Int32) => (if y13 = 0 then ((-1), σ) else ap (m_X0_areSome W S ns nc B σ) (fun (y23 : Int32 × (Nat → Nat → Int32)) => (if y23.1 = 0 then ((-1), y23.2) else ap (m_X2_placeOf W S ns nc B y23.2 surface column) (fun (y38 : Int32) => ap (m_X5_end W S ns nc B y23.2 y38 what) (fun (y42 : Int32) => (y42, y23.2)))))))))
abbrev rm_X5_span : Room := { frames := 18, cells := 0, slots := 0, locals := 540 }
set_option maxHeartbeats 4000000 in
set_option maxRecDepth 100000 in
theorem c_X5_span {l : Launch} {D : va_G} {K : Nat → ClassId} {W S ns nc N : Nat} {ad : Nat → Nat} {B : Nat → Option Nat} {σ : Nat → Nat → Int32} (hG : GH W S ns nc N) {surface : Int32} {column : Int32} {what : Int32}  {z : Int32 × (Nat → Nat → Int32)} (hz : m_X5_span W S ns nc B σ surface column what = z) (hB : BOK B N) (hb7 : bl (σ 9 7)) : MC l yX5_span cX5_span 4 (some .int) rm_X5_span D (TY K) N ad (CT K W S ns nc ad B σ) [.ref (ad 0), .int surface, .int column, .int what] (BS (some (.int z.1)) N ad (CT K W S ns nc ad B z.2) True) := by
  have hW := hG.1; have hW8 := hG.2.1; have hS := hG.2.2.1; have hS4 := hG.2.2.2.1; have hns := hG.2.2.2.2.1; have hnc := hG.2.2.2.2.2.1; have hWS := GH_ws hG
  refine MC.of (by decide) (Nat.le_of_ble_eq_true rfl) (fun p e s m args below meth c Q A H0 C X => ?_)
  replace C : Cx p s m args meth c cX5_span RX5 4 D (TY K) A H0 := C
  show J p l e rm_X5_span s m args below meth c Q D A H0 4 0 0 N ad (CT K W S ns nc ad B σ) 0 [(0, .ref (ad 0)), (1, .int surface), (2, .int column), (3, .int what)] []
  unfold m_X5_span at hz
  refine j_aload_n 1 C dX5_span_0 rfl rfl 0 rfl ?_
  refine k_get 4 C fl_X5_21 dX5_span_1 rfl 0 (GH_r hG (by decide)) _ rfl (CE_0 _) (.ref (ad 1)) rfl ?_
  refine j_iload_n 5 C dX5_span_4 rfl rfl 1 rfl ?_
  refine j_iload_n 6 C dX5_span_5 rfl rfl 2 rfl ?_
  obtain ⟨y6, e6, hz⟩ := ap_x hz
  refine s_V 9 C (As := [.int surface, .int column]) cv_X5_81 (c_X2_hasPlace (l := l) (D := D) (K := K) (ad := ad) hG  (hz := e6)) dX5_span_6 rfl 1 2 (GH_r hG (by decide)) rfl (CE_1 _) rfl rfl rfl rfl rfl rfl ⟨⟨Nat.le_of_ble_eq_true rfl, Nat.le_of_ble_eq_true rfl⟩, Nat.zero_le _, Nat.zero_le _⟩ (Nat.le_of_ble_eq_true rfl) (st' := [.int y6]) rfl (fun hE => ?_)
  have hbl6 : bl y6 := hE
  refine j_if_eq 29 12 C dX5_span_9 rfl rfl (fun c_9 => ?_) (fun c_9 => ?_)
  · replace hz := (if_pos c_9).symm.trans hz
    refine j_iconst 30 C (x := (-1)) dX5_span_29 rfl (by decide) ?_
    subst hz
    exact j_retI C X dX5_span_30 rfl ⟨rfl, rfl, rfl, rfl, trivial⟩
  · replace hz := (if_neg c_9).symm.trans hz
    refine j_iload_n 13 C dX5_span_12 rfl rfl 3 rfl ?_
    obtain ⟨y13, e13, hz⟩ := ap_x hz
    refine s_S 16 C (As := [.int what]) cs_X5_107 (c_X5_isEnd (l := l) (D := D) (K := K) (ad := ad) hG  (hz := e13)) dX5_span_13 rfl rfl rfl rfl rfl ⟨⟨Nat.le_of_ble_eq_true rfl, Nat.le_of_ble_eq_true rfl⟩, Nat.zero_le _, Nat.zero_le _⟩ (Nat.le_of_ble_eq_true rfl) (st' := [.int y13]) rfl (fun hE => ?_)
    have hbl13 : bl y13 := hE
    refine j_if_eq 29 19 C dX5_span_16 rfl rfl (fun c_16 => ?_) (fun c_16 => ?_)
    · replace hz := (if_pos c_16).symm.trans hz
      refine j_iconst 30 C (x := (-1)) dX5_span_29 rfl (by decide) ?_
      subst hz
      exact j_retI C X dX5_span_30 rfl ⟨rfl, rfl, rfl, rfl, trivial⟩
    · replace hz := (if_neg c_16).symm.trans hz
      refine j_aload_n 20 C dX5_span_19 rfl rfl 0 rfl ?_
      refine k_get 23 C fl_X5_39 dX5_span_20 rfl 0 (GH_r hG (by decide)) _ rfl (CE_0 _) (.ref (ad 9)) rfl ?_
      obtain ⟨y23, e23, hz⟩ := ap_x hz
      refine s_V 26 C (As := []) cv_X5_99 (c_X0_areSome (l := l) (D := D) (K := K) (ad := ad) hG (hB := hB) (hb7 := hb7) (hz := e23)) dX5_span_23 rfl 9 0 (GH_r hG (by decide)) rfl (CE_9 _) rfl rfl rfl rfl rfl rfl ⟨⟨Nat.le_of_ble_eq_true rfl, Nat.le_of_ble_eq_true rfl⟩, Nat.zero_le _, Nat.zero_le _⟩ (Nat.le_of_ble_eq_true rfl) (st' := [.int y23.1]) rfl (fun hE => ?_)
      have hbl23 : bl y23.1 := hE
      refine j_if_ne 31 29 C dX5_span_26 rfl rfl (fun c_26 => ?_) (fun c_26 => ?_)
      · replace hz := (if_neg c_26).symm.trans hz
        refine j_aload_n 32 C dX5_span_31 rfl rfl 0 rfl ?_
        refine j_aload_n 33 C dX5_span_32 rfl rfl 0 rfl ?_
        refine k_get 36 C fl_X5_21 dX5_span_33 rfl 0 (GH_r hG (by decide)) _ rfl (CE_0 _) (.ref (ad 1)) rfl ?_
        refine j_iload_n 37 C dX5_span_36 rfl rfl 1 rfl ?_
        refine j_iload_n 38 C dX5_span_37 rfl rfl 2 rfl ?_
        obtain ⟨y38, e38, hz⟩ := ap_x hz
        refine s_V 41 C (As := [.int surface, .int column]) cv_X5_110 (c_X2_placeOf (l := l) (D := D) (K := K) (ad := ad) hG  (hz := e38)) dX5_span_38 rfl 1 2 (GH_r hG (by decide)) rfl (CE_1 _) rfl rfl rfl rfl rfl rfl ⟨⟨Nat.le_of_ble_eq_true rfl, Nat.le_of_ble_eq_true rfl⟩, Nat.zero_le _, Nat.zero_le _⟩ (Nat.le_of_ble_eq_true rfl) (st' := [.int y38, .ref (ad 0)]) rfl (fun hE => ?_)
        refine j_iload_n 42 C dX5_span_41 rfl rfl 3 rfl ?_
        obtain ⟨y42, e42, hz⟩ := ap_x hz
        refine s_V 45 C (As := [.int y38, .int what]) cv_X5_113 (c_X5_end (l := l) (D := D) (K := K) (ad := ad) hG  (hz := e42)) dX5_span_42 rfl 0 5 (GH_r hG (by decide)) rfl (CE_0 _) rfl rfl rfl rfl rfl rfl ⟨⟨Nat.le_of_ble_eq_true rfl, Nat.le_of_ble_eq_true rfl⟩, Nat.zero_le _, Nat.zero_le _⟩ (Nat.le_of_ble_eq_true rfl) (st' := [.int y42]) rfl (fun hE => ?_)
        subst hz
        exact j_retI C X dX5_span_45 rfl ⟨rfl, rfl, rfl, rfl, trivial⟩
      · replace hz := (if_pos c_26).symm.trans hz
        refine j_iconst 30 C (x := (-1)) dX5_span_29 rfl (by decide) ?_
        subst hz
        exact j_retI C X dX5_span_30 rfl ⟨rfl, rfl, rfl, rfl, trivial⟩
def m_X5_open (W S ns nc : Nat) (B : Nat → Option Nat) (σ : Nat → Nat → Int32) : Int32 × (Nat → Nat → Int32) := ap (m_X0_areSome W S ns nc B σ) (fun (y4 : Int32 × (Nat → Nat → Int32)) => (if y4.1 = 0 then ((-1), y4.2) else ap (m_X0_agreed W S ns nc B y4.2) (fun (y14 : ) => ap (m_X1_openSum W S ns nc B y4.2 11) (fun (y17 : Int32) => (y17, y4.2)))))
abbrev rm_X5_open : Room := { frames := 18, cells := 0, slots := 0, locals := 540 }
set_option maxHeartbeats 4000000 in
set_option maxRecDepth 100000 in
theorem c_X5_open {l : Launch} {D : va_G} {K : Nat → ClassId} {W S ns nc N : Nat} {ad : Nat → Nat} {B : Nat → Option Nat} {σ : Nat → Nat → Int32} (hG : GH W S ns nc N)   {z : Int32 × (Nat → Nat → Int32)} (hz : m_X5_open W S ns nc B σ = z) (hB : BOK B N) (hb7 : bl (σ 9 7)) : MC l yX5_open cX5_open 1 (some .int) rm_X5_open D (TY K) N ad (CT K W S ns nc ad B σ) [.ref (ad 0)] (BS (some (.int z.1)) N ad (CT K W S ns nc ad B z.2) True) := by
  have hW := hG.1; have hW8 := hG.2.1; have hS := hG.2.2.1; have hS4 := hG.2.2.2.1; have hns := hG.2.2.2.2.1; have hnc := hG.2.2.2.2.2.1; have hWS := GH_ws hG
  refine MC.of (by decide) (Nat.le_of_ble_eq_true rfl) (fun p e s m args below meth c Q A H0 C X => ?_)
  replace C : Cx p s m args meth c cX5_open RX5 1 D (TY K) A H0 := C
  show J p l e rm_X5_open s m args below meth c Q D A H0 1 0 0 N ad (CT K W S ns nc ad B σ) 0 [(0, .ref (ad 0))] []
  unfold m_X5_open at hz
  refine j_aload_n 1 C dX5_open_0 rfl rfl 0 rfl ?_
  refine k_get 4 C fl_X5_39 dX5_open_1 rfl 0 (GH_r hG (by decide)) _ rfl (CE_0 _) (.ref (ad 9)) rfl ?_
  obtain ⟨y4, e4, hz⟩ := ap_x hz
  refine s_V 7 C (As := []) cv_X5_99 (c_X0_areSome (l := l) (D := D) (K := K) (ad := ad) hG (hB := hB) (hb7 := hb7) (hz := e4)) dX5_open_4 rfl 9 0 (GH_r hG (by decide)) rfl (CE_9 _) rfl rfl rfl rfl rfl rfl ⟨⟨Nat.le_of_ble_eq_true rfl, Nat.le_of_ble_eq_true rfl⟩, Nat.zero_le _, Nat.zero_le _⟩ (Nat.le_of_ble_eq_true rfl) (st' := [.int y4.1]) rfl (fun hE => ?_)
  have hbl4 : bl y4.1 := hE
  refine j_if_eq 23 10 C dX5_open_7 rfl rfl (fun c_7 => ?_) (fun c_7 => ?_)
  · replace hz := (if_pos c_7).symm.trans hz
    refine j_iconst 24 C (x := (-1)) dX5_open_23 rfl (by decide) ?_
    subst hz
    exact j_retI C X dX5_open_24 rfl ⟨rfl, rfl, rfl, rfl, trivial⟩
  · replace hz := (if_neg c_7).symm.trans hz
    refine j_aload_n 11 C dX5_open_10 rfl rfl 0 rfl ?_
    refine k_get 14 C fl_X5_39 dX5_open_11 rfl 0 (GH_r hG (by decide)) _ rfl (CE_0 _) (.ref (ad 9)) rfl ?_
    obtain ⟨y14, e14, hz⟩ := ap_x hz
    refine s_V 17 C (As := []) cv_X5_116 (c_X0_agreed (l := l) (D := D) (K := K) (ad := ad) hG  (hz := e14)) dX5_open_14 rfl 9 0 (GH_r hG (by decide)) rfl (CE_9 _) rfl rfl rfl rfl rfl rfl ⟨⟨Nat.le_of_ble_eq_true rfl, Nat.le_of_ble_eq_true rfl⟩, Nat.zero_le _, Nat.zero_le _⟩ (Nat.le_of_ble_eq_true rfl) (st' := [.ref (ad 33)]) rfl (fun hE => ?_)
    obtain ⟨y17, e17, hz⟩ := ap_x hz
    refine s_V 20 C (As := []) cv_X5_120 (c_X1_openSum (l := l) (D := D) (K := K) (ad := ad) hG (hg := by decide) (hz := e17)) dX5_open_17 rfl 33 1 (GH_r hG (by decide)) rfl (CE_go (g := 11) (by decide) _) rfl rfl rfl rfl rfl rfl ⟨⟨Nat.le_of_ble_eq_true rfl, Nat.le_of_ble_eq_true rfl⟩, Nat.zero_le _, Nat.zero_le _⟩ (Nat.le_of_ble_eq_true rfl) (st' := [.int y17]) rfl (fun hE => ?_)
    refine j_goto 24 C dX5_open_20 rfl ?_
    subst hz
    exact j_retI C X dX5_open_24 rfl ⟨rfl, rfl, rfl, rfl, trivial⟩
def m_X5_layer_L39 (W S ns nc : Nat) (B : Nat → Option Nat) (σ : Nat → Nat → Int32) (column : Int32) (depth : Int32) (y23 : Int32 × (Nat → Nat → Int32)) (i39 : Nat) (c39 : Int32 × Int32) : Int32 × Int32 := ap (m_X2_placeOf W S ns nc B y23.2 (nI i39) column) (fun (y58 : Int32) => ap (m_X5_end W S ns nc B y23.2 y58 (nI 1)) (fun (y67 : Int32) => (if depth < y67 then ap (m_X5_end W S ns nc B y23.2 y58 (nI 0)) (fun (y81 : Int32) => (if depth < y81 then (c39.1, c39.2) else (c39.1, c39.2 + nI 1))) else ap (m_X5_end W S ns nc B y23.2 y58 (nI 0)) (fun (y81 : Int32) => (if depth < y81 then (c39.1 + nI 1, c39.2) else (c39.1 + nI 1, c39.2 + nI 1))))))
def m_X5_layer (W S ns nc : Nat) (B : Nat → Option Nat) (σ : Nat → Nat → Int32) (column : Int32) (depth : Int32) : Int32 × (Nat → Nat → Int32) := ap (m_X2_hasPlace W S ns nc B σ (nI 0) column) (fun (y6 : Int32) => (if y6 = 0 then ((-1), σ) else ap (m_X5_isDepth W S ns nc B σ depth) (fun (y13 : Int32) => (if y13 = 0 then ((-1), σ) else ap (m_X0_areSome W S ns nc B σ) (fun (y23 : Int32 × (Nat → Nat → Int32)) => (if y23.1 = 0 then ((-1), y23.2) else ap (lp (m_X5_layer_L39 W S ns nc B σ column depth y23) (S - 0) 0 (nI 0, nI 0)) (fun (z39 : Int32 × Int32) => (if z39.1 = z39.2 then (z39.1, y23.2) else ((-1), y23.2)))))))))
abbrev rm_X5_layer : Room := { frames := 18, cells := 0, slots := 0, locals := 540 }
set_option maxHeartbeats 4000000 in
set_option maxRecDepth 100000 in
theorem c_X5_layer {l : Launch} {D : va_G} {K : Nat → ClassId} {W S ns nc N : Nat} {ad : Nat → Nat} {B : Nat → Option Nat} {σ : Nat → Nat → Int32} (hG : GH W S ns nc N) {column : Int32} {depth : Int32}  {z : Int32 × (Nat → Nat → Int32)} (hz : m_X5_layer W S ns nc B σ column depth = z) (hB : BOK B N) (hb7 : bl (σ 9 7)) : MC l yX5_layer cX5_layer 7 (some .int) rm_X5_layer D (TY K) N ad (CT K W S ns nc ad B σ) [.ref (ad 0), .int column, .int depth] (BS (some (.int z.1)) N ad (CT K W S ns nc ad B z.2) True) := by
  have hW := hG.1; have hW8 := hG.2.1; have hS := hG.2.2.1; have hS4 := hG.2.2.2.1; have hns := hG.2.2.2.2.1; have hnc := hG.2.2.2.2.2.1; have hWS := GH_ws hG
  refine MC.of (by decide) (Nat.le_of_ble_eq_true rfl) (fun p e s m args below meth c Q A H0 C X => ?_)
  replace C : Cx p s m args meth c cX5_layer RX5 7 D (TY K) A H0 := C
  show J p l e rm_X5_layer s m args below meth c Q D A H0 7 0 0 N ad (CT K W S ns nc ad B σ) 0 [(0, .ref (ad 0)), (1, .int column), (2, .int depth)] []
  unfold m_X5_layer at hz
  refine j_aload_n 1 C dX5_layer_0 rfl rfl 0 rfl ?_
  refine k_get 4 C fl_X5_21 dX5_layer_1 rfl 0 (GH_r hG (by decide)) _ rfl (CE_0 _) (.ref (ad 1)) rfl ?_
  refine j_iconst 5 C (x := nI 0) dX5_layer_4 rfl (by decide) ?_
  refine j_iload_n 6 C dX5_layer_5 rfl rfl 1 rfl ?_
  obtain ⟨y6, e6, hz⟩ := ap_x hz
  refine s_V 9 C (As := [.int (nI 0), .int column]) cv_X5_81 (c_X2_hasPlace (l := l) (D := D) (K := K) (ad := ad) hG  (hz := e6)) dX5_layer_6 rfl 1 2 (GH_r hG (by decide)) rfl (CE_1 _) rfl rfl rfl rfl rfl rfl ⟨⟨Nat.le_of_ble_eq_true rfl, Nat.le_of_ble_eq_true rfl⟩, Nat.zero_le _, Nat.zero_le _⟩ (Nat.le_of_ble_eq_true rfl) (st' := [.int y6]) rfl (fun hE => ?_)
  have hbl6 : bl y6 := hE
  refine j_if_eq 29 12 C dX5_layer_9 rfl rfl (fun c_9 => ?_) (fun c_9 => ?_)
  · replace hz := (if_pos c_9).symm.trans hz
    refine j_iconst 30 C (x := (-1)) dX5_layer_29 rfl (by decide) ?_
    subst hz
    exact j_retI C X dX5_layer_30 rfl ⟨rfl, rfl, rfl, rfl, trivial⟩
  · replace hz := (if_neg c_9).symm.trans hz
    refine j_iload_n 13 C dX5_layer_12 rfl rfl 2 rfl ?_
    obtain ⟨y13, e13, hz⟩ := ap_x hz
    refine s_S 16 C (As := [.int depth]) cs_X5_51 (c_X5_isDepth (l := l) (D := D) (K := K) (ad := ad) hG  (hz := e13)) dX5_layer_13 rfl rfl rfl rfl rfl ⟨⟨Nat.le_of_ble_eq_true rfl, Nat.le_of_ble_eq_true rfl⟩, Nat.zero_le _, Nat.zero_le _⟩ (Nat.le_of_ble_eq_true rfl) (st' := [.int y13]) rfl (fun hE => ?_)
    have hbl13 : bl y13 := hE
    refine j_if_eq 29 19 C dX5_layer_16 rfl rfl (fun c_16 => ?_) (fun c_16 => ?_)
    · replace hz := (if_pos c_16).symm.trans hz
      refine j_iconst 30 C (x := (-1)) dX5_layer_29 rfl (by decide) ?_
      subst hz
      exact j_retI C X dX5_layer_30 rfl ⟨rfl, rfl, rfl, rfl, trivial⟩
    · replace hz := (if_neg c_16).symm.trans hz
      refine j_aload_n 20 C dX5_layer_19 rfl rfl 0 rfl ?_
      refine k_get 23 C fl_X5_39 dX5_layer_20 rfl 0 (GH_r hG (by decide)) _ rfl (CE_0 _) (.ref (ad 9)) rfl ?_
      obtain ⟨y23, e23, hz⟩ := ap_x hz
      refine s_V 26 C (As := []) cv_X5_99 (c_X0_areSome (l := l) (D := D) (K := K) (ad := ad) hG (hB := hB) (hb7 := hb7) (hz := e23)) dX5_layer_23 rfl 9 0 (GH_r hG (by decide)) rfl (CE_9 _) rfl rfl rfl rfl rfl rfl ⟨⟨Nat.le_of_ble_eq_true rfl, Nat.le_of_ble_eq_true rfl⟩, Nat.zero_le _, Nat.zero_le _⟩ (Nat.le_of_ble_eq_true rfl) (st' := [.int y23.1]) rfl (fun hE => ?_)
      have hbl23 : bl y23.1 := hE
      refine j_if_ne 31 29 C dX5_layer_26 rfl rfl (fun c_26 => ?_) (fun c_26 => ?_)
      · replace hz := (if_neg c_26).symm.trans hz
        refine j_iconst 32 C (x := nI 0) dX5_layer_31 rfl (by decide) ?_
        refine j_istore_n 33 C [(3, .int (nI 0)), (0, .ref (ad 0)), (1, .int column), (2, .int depth)] dX5_layer_32 rfl rfl (by decide) rfl ?_
        refine j_iconst 34 C (x := nI 0) dX5_layer_33 rfl (by decide) ?_
        refine j_istore 36 C [(4, .int (nI 0)), (3, .int (nI 0)), (0, .ref (ad 0)), (1, .int column), (2, .int depth)] dX5_layer_34 rfl (by decide) rfl ?_
        refine j_iconst 37 C (x := nI 0) dX5_layer_36 rfl (by decide) ?_
        refine j_istore 39 C [(5, .int (nI 0)), (4, .int (nI 0)), (3, .int (nI 0)), (0, .ref (ad 0)), (1, .int column), (2, .int depth)] dX5_layer_37 rfl (by decide) rfl ?_
        skip
        obtain ⟨z39, ez39, hz⟩ := ap_x hz
        have L39 : ∀ (n39 i39 : Nat) (c39 : Int32 × Int32), 0 ≤ i39 → i39 < 5000 → n39 = S - i39 → lp (m_X5_layer_L39 W S ns nc B σ column depth y23) n39 i39 c39 = z39 → J p l e rm_X5_layer s m args below meth c Q D A H0 7 0 0 N ad (CT K W S ns nc ad B y23.2) 39 [(0, .ref (ad 0)), (1, .int column), (2, .int depth), (3, .int c39.1), (4, .int c39.2), (5, .int (nI i39))] [] := by
          intro n39
          induction n39 with
          | zero =>
            intro i39 c39 hl39 hi39 hn39 hz39
            refine j_iload 41 C dX5_layer_39 rfl 5 rfl ?_
            refine j_aload_n 42 C dX5_layer_41 rfl rfl 0 rfl ?_
            refine k_get 45 C fl_X5_21 dX5_layer_42 rfl 0 (GH_r hG (by decide)) _ rfl (CE_0 _) (.ref (ad 1)) rfl ?_
            refine s_V 48 C (As := []) cv_X5_125 (c_X2_surfaces (l := l) (D := D) (K := K) (ad := ad) hG  (hz := rfl)) dX5_layer_45 rfl 1 2 (GH_r hG (by decide)) rfl (CE_1 _) rfl rfl rfl rfl rfl rfl ⟨⟨Nat.le_of_ble_eq_true rfl, Nat.le_of_ble_eq_true rfl⟩, Nat.zero_le _, Nat.zero_le _⟩ (Nat.le_of_ble_eq_true rfl) (st' := [.int (m_X2_surfaces W S ns nc B y23.2), .int (nI i39)]) rfl (fun hE => ?_)
            have ey45 : (m_X2_surfaces W S ns nc B y23.2) = nI S := rfl
            refine j_ic_ge 97 51 C dX5_layer_48 rfl rfl (fun c_48 => ?_) (fun c_48 => ?_)
            · skip
              have n_48 := nat_le (a := S) (b := i39) (by simp only [ey45, nI_add, pk_mul]) rfl (by omega) (by omega) c_48
              have hq39 : c39 = z39 := hz39
              subst hq39
              refine j_iload_n 98 C dX5_layer_97 rfl rfl 3 rfl ?_
              refine j_iload 100 C dX5_layer_98 rfl 4 rfl ?_
              refine j_ic_ne 107 103 C dX5_layer_100 rfl rfl (fun c_100 => ?_) (fun c_100 => ?_)
              · replace hz := (if_neg c_100).symm.trans hz
                refine j_iconst 108 C (x := (-1)) dX5_layer_107 rfl (by decide) ?_
                subst hz
                exact j_retI C X dX5_layer_108 rfl ⟨rfl, rfl, rfl, rfl, trivial⟩
              · replace hz := (if_pos c_100).symm.trans hz
                refine j_iload_n 104 C dX5_layer_103 rfl rfl 3 rfl ?_
                refine j_goto 108 C dX5_layer_104 rfl ?_
                subst hz
                exact j_retI C X dX5_layer_108 rfl ⟨rfl, rfl, rfl, rfl, trivial⟩
            · exfalso
              have n_48 := nat_nle (a := S) (b := i39) (by simp only [ey45, nI_add, pk_mul]) rfl (by omega) (by omega) c_48
              omega
          | succ n39 ih39 =>
            intro i39 c39 hl39 hi39 hn39 hz39
            refine j_iload 41 C dX5_layer_39 rfl 5 rfl ?_
            refine j_aload_n 42 C dX5_layer_41 rfl rfl 0 rfl ?_
            refine k_get 45 C fl_X5_21 dX5_layer_42 rfl 0 (GH_r hG (by decide)) _ rfl (CE_0 _) (.ref (ad 1)) rfl ?_
            refine s_V 48 C (As := []) cv_X5_125 (c_X2_surfaces (l := l) (D := D) (K := K) (ad := ad) hG  (hz := rfl)) dX5_layer_45 rfl 1 2 (GH_r hG (by decide)) rfl (CE_1 _) rfl rfl rfl rfl rfl rfl ⟨⟨Nat.le_of_ble_eq_true rfl, Nat.le_of_ble_eq_true rfl⟩, Nat.zero_le _, Nat.zero_le _⟩ (Nat.le_of_ble_eq_true rfl) (st' := [.int (m_X2_surfaces W S ns nc B y23.2), .int (nI i39)]) rfl (fun hE => ?_)
            have ey45 : (m_X2_surfaces W S ns nc B y23.2) = nI S := rfl
            refine j_ic_ge 97 51 C dX5_layer_48 rfl rfl (fun c_48 => ?_) (fun c_48 => ?_)
            · exfalso
              have n_48 := nat_le (a := S) (b := i39) (by simp only [ey45, nI_add, pk_mul]) rfl (by omega) (by omega) c_48
              omega
            · skip
              have n_48 := nat_nle (a := S) (b := i39) (by simp only [ey45, nI_add, pk_mul]) rfl (by omega) (by omega) c_48
              obtain ⟨w39, hw39, hz39⟩ := lp_s hz39
              have ho39 := hz
              clear hz
              have hz := hw39
              clear hw39
              unfold m_X5_layer_L39 at hz
              refine j_aload_n 52 C dX5_layer_51 rfl rfl 0 rfl ?_
              refine k_get 55 C fl_X5_21 dX5_layer_52 rfl 0 (GH_r hG (by decide)) _ rfl (CE_0 _) (.ref (ad 1)) rfl ?_
              refine j_iload 57 C dX5_layer_55 rfl 5 rfl ?_
              refine j_iload_n 58 C dX5_layer_57 rfl rfl 1 rfl ?_
              obtain ⟨y58, e58, hz⟩ := ap_x hz
              refine s_V 61 C (As := [.int (nI i39), .int column]) cv_X5_110 (c_X2_placeOf (l := l) (D := D) (K := K) (ad := ad) hG  (hz := e58)) dX5_layer_58 rfl 1 2 (GH_r hG (by decide)) rfl (CE_1 _) rfl rfl rfl rfl rfl rfl ⟨⟨Nat.le_of_ble_eq_true rfl, Nat.le_of_ble_eq_true rfl⟩, Nat.zero_le _, Nat.zero_le _⟩ (Nat.le_of_ble_eq_true rfl) (st' := [.int y58]) rfl (fun hE => ?_)
              refine j_istore 63 C [(6, .int y58), (0, .ref (ad 0)), (1, .int column), (2, .int depth), (3, .int c39.1), (4, .int c39.2), (5, .int (nI i39))] dX5_layer_61 rfl (by decide) rfl ?_
              refine j_aload_n 64 C dX5_layer_63 rfl rfl 1 rfl ?_
              refine j_iload 66 C dX5_layer_64 rfl 0 rfl ?_
              refine j_iconst 67 C (x := nI 1) dX5_layer_66 rfl (by decide) ?_
              obtain ⟨y67, e67, hz⟩ := ap_x hz
              refine s_V 70 C (As := [.int y58, .int (nI 1)]) cv_X5_113 (c_X5_end (l := l) (D := D) (K := K) (ad := ad) hG  (hz := e67)) dX5_layer_67 rfl 0 5 (GH_r hG (by decide)) rfl (CE_0 _) rfl rfl rfl rfl rfl rfl ⟨⟨Nat.le_of_ble_eq_true rfl, Nat.le_of_ble_eq_true rfl⟩, Nat.zero_le _, Nat.zero_le _⟩ (Nat.le_of_ble_eq_true rfl) (st' := [.int y67]) rfl (fun hE => ?_)
              refine j_iload_n 71 C dX5_layer_70 rfl rfl 3 rfl ?_
              refine j_ic_gt 77 74 C dX5_layer_71 rfl rfl (fun c_71 => ?_) (fun c_71 => ?_)
              · replace hz := (if_pos c_71).symm.trans hz
                refine j_aload_n 78 C dX5_layer_77 rfl rfl 1 rfl ?_
                refine j_iload 80 C dX5_layer_78 rfl 0 rfl ?_
                refine j_iconst 81 C (x := nI 0) dX5_layer_80 rfl (by decide) ?_
                obtain ⟨y81, e81, hz⟩ := ap_x hz
                refine s_V 84 C (As := [.int y58, .int (nI 0)]) cv_X5_113 (c_X5_end (l := l) (D := D) (K := K) (ad := ad) hG  (hz := e81)) dX5_layer_81 rfl 0 5 (GH_r hG (by decide)) rfl (CE_0 _) rfl rfl rfl rfl rfl rfl ⟨⟨Nat.le_of_ble_eq_true rfl, Nat.le_of_ble_eq_true rfl⟩, Nat.zero_le _, Nat.zero_le _⟩ (Nat.le_of_ble_eq_true rfl) (st' := [.int y81]) rfl (fun hE => ?_)
                refine j_iload_n 85 C dX5_layer_84 rfl rfl 3 rfl ?_
                refine j_ic_gt 91 88 C dX5_layer_85 rfl rfl (fun c_85 => ?_) (fun c_85 => ?_)
                · replace hz := (if_pos c_85).symm.trans hz
                  refine j_iinc 94 C (x' := nI (i39 + 1)) [(5, .int (nI (i39 + 1))), (6, .int y58), (0, .ref (ad 0)), (1, .int column), (2, .int depth), (3, .int c39.1), (4, .int c39.2)] dX5_layer_91 rfl 6 rfl (by rw [show Int32.ofInt 1 = nI 1 from by decide, nI_add]) (by decide) rfl ?_
                  refine j_goto 39 C dX5_layer_94 rfl ?_
                  subst hz
                  refine j_lv [2, 3, 4, 5, 6, 0] (lv' := [(0, .ref (ad 0)), (1, .int column), (2, .int depth), (3, .int c39.1), (4, .int c39.2), (5, .int (nI (i39 + 1)))]) rfl ?_
                  have hz := ho39
                  exact ih39 (i39 + 1) (c39.1, c39.2) (by omega) (by omega) (by omega) hz39
                · replace hz := (if_neg c_85).symm.trans hz
                  refine j_iinc 91 C (x' := c39.2 + nI 1) [(4, .int (c39.2 + nI 1)), (6, .int y58), (0, .ref (ad 0)), (1, .int column), (2, .int depth), (3, .int c39.1), (5, .int (nI i39))] dX5_layer_88 rfl 5 rfl (by rw [show Int32.ofInt 1 = nI 1 from by decide]) (by decide) rfl ?_
                  refine j_iinc 94 C (x' := nI (i39 + 1)) [(5, .int (nI (i39 + 1))), (4, .int (c39.2 + nI 1)), (6, .int y58), (0, .ref (ad 0)), (1, .int column), (2, .int depth), (3, .int c39.1)] dX5_layer_91 rfl 6 rfl (by rw [show Int32.ofInt 1 = nI 1 from by decide, nI_add]) (by decide) rfl ?_
                  refine j_goto 39 C dX5_layer_94 rfl ?_
                  subst hz
                  refine j_lv [3, 4, 5, 6, 1, 0] (lv' := [(0, .ref (ad 0)), (1, .int column), (2, .int depth), (3, .int c39.1), (4, .int (c39.2 + nI 1)), (5, .int (nI (i39 + 1)))]) rfl ?_
                  have hz := ho39
                  exact ih39 (i39 + 1) (c39.1, c39.2 + nI 1) (by omega) (by omega) (by omega) hz39
              · replace hz := (if_neg c_71).symm.trans hz
                refine j_iinc 77 C (x' := c39.1 + nI 1) [(3, .int (c39.1 + nI 1)), (6, .int y58), (0, .ref (ad 0)), (1, .int column), (2, .int depth), (4, .int c39.2), (5, .int (nI i39))] dX5_layer_74 rfl 4 rfl (by rw [show Int32.ofInt 1 = nI 1 from by decide]) (by decide) rfl ?_
                refine j_aload_n 78 C dX5_layer_77 rfl rfl 2 rfl ?_
                refine j_iload 80 C dX5_layer_78 rfl 1 rfl ?_
                refine j_iconst 81 C (x := nI 0) dX5_layer_80 rfl (by decide) ?_
                obtain ⟨y81, e81, hz⟩ := ap_x hz
                refine s_V 84 C (As := [.int y58, .int (nI 0)]) cv_X5_113 (c_X5_end (l := l) (D := D) (K := K) (ad := ad) hG  (hz := e81)) dX5_layer_81 rfl 0 5 (GH_r hG (by decide)) rfl (CE_0 _) rfl rfl rfl rfl rfl rfl ⟨⟨Nat.le_of_ble_eq_true rfl, Nat.le_of_ble_eq_true rfl⟩, Nat.zero_le _, Nat.zero_le _⟩ (Nat.le_of_ble_eq_true rfl) (st' := [.int y81]) rfl (fun hE => ?_)
                refine j_iload_n 85 C dX5_layer_84 rfl rfl 4 rfl ?_
                refine j_ic_gt 91 88 C dX5_layer_85 rfl rfl (fun c_85 => ?_) (fun c_85 => ?_)
                · replace hz := (if_pos c_85).symm.trans hz
                  refine j_iinc 94 C (x' := nI (i39 + 1)) [(5, .int (nI (i39 + 1))), (3, .int (c39.1 + nI 1)), (6, .int y58), (0, .ref (ad 0)), (1, .int column), (2, .int depth), (4, .int c39.2)] dX5_layer_91 rfl 6 rfl (by rw [show Int32.ofInt 1 = nI 1 from by decide, nI_add]) (by decide) rfl ?_
                  refine j_goto 39 C dX5_layer_94 rfl ?_
                  subst hz
                  refine j_lv [3, 4, 5, 1, 6, 0] (lv' := [(0, .ref (ad 0)), (1, .int column), (2, .int depth), (3, .int (c39.1 + nI 1)), (4, .int c39.2), (5, .int (nI (i39 + 1)))]) rfl ?_
                  have hz := ho39
                  exact ih39 (i39 + 1) (c39.1 + nI 1, c39.2) (by omega) (by omega) (by omega) hz39
                · replace hz := (if_neg c_85).symm.trans hz
                  refine j_iinc 91 C (x' := c39.2 + nI 1) [(4, .int (c39.2 + nI 1)), (3, .int (c39.1 + nI 1)), (6, .int y58), (0, .ref (ad 0)), (1, .int column), (2, .int depth), (5, .int (nI i39))] dX5_layer_88 rfl 5 rfl (by rw [show Int32.ofInt 1 = nI 1 from by decide]) (by decide) rfl ?_
                  refine j_iinc 94 C (x' := nI (i39 + 1)) [(5, .int (nI (i39 + 1))), (4, .int (c39.2 + nI 1)), (3, .int (c39.1 + nI 1)), (6, .int y58), (0, .ref (ad 0)), (1, .int column), (2, .int depth)] dX5_layer_91 rfl 6 rfl (by rw [show Int32.ofInt 1 = nI 1 from by decide, nI_add]) (by decide) rfl ?_
                  refine j_goto 39 C dX5_layer_94 rfl ?_
                  subst hz
                  refine j_lv [4, 5, 6, 2, 1, 0] (lv' := [(0, .ref (ad 0)), (1, .int column), (2, .int depth), (3, .int (c39.1 + nI 1)), (4, .int (c39.2 + nI 1)), (5, .int (nI (i39 + 1)))]) rfl ?_
                  have hz := ho39
                  exact ih39 (i39 + 1) (c39.1 + nI 1, c39.2 + nI 1) (by omega) (by omega) (by omega) hz39
        refine j_lv [3, 4, 5, 2, 1, 0] (lv' := [(0, .ref (ad 0)), (1, .int column), (2, .int depth), (3, .int (nI 0)), (4, .int (nI 0)), (5, .int (nI 0))]) rfl ?_
        exact L39 _ 0 (nI 0, nI 0) (by omega) (by omega) rfl ez39
      · replace hz := (if_pos c_26).symm.trans hz
        refine j_iconst 30 C (x := (-1)) dX5_layer_29 rfl (by decide) ?_
        subst hz
        exact j_retI C X dX5_layer_30 rfl ⟨rfl, rfl, rfl, rfl, trivial⟩
def m_X5_isPlaceCode (W S ns nc : Nat) (B : Nat → Option Nat) (σ : Nat → Nat → Int32) (code_ : Int32) : Int32 := (if code_ < 0 then nI 0 else ap (m_X2_hasPlace W S ns nc B σ (code_ / (nI 10)) (code_ - code_ / (nI 10) * (nI 10))) (fun (y16 : Int32) => (if y16 = 0 then nI 0 else nI 1)))
abbrev rm_X5_isPlaceCode : Room := { frames := 2, cells := 0, slots := 0, locals := 43 }
set_option maxHeartbeats 4000000 in
set_option maxRecDepth 100000 in
theorem c_X5_isPlaceCode {l : Launch} {D : va_G} {K : Nat → ClassId} {W S ns nc N : Nat} {ad : Nat → Nat} {B : Nat → Option Nat} {σ : Nat → Nat → Int32} (hG : GH W S ns nc N) {code_ : Int32}  {z : Int32} (hz : m_X5_isPlaceCode W S ns nc B σ code_ = z)  : MC l yX5_isPlaceCode cX5_isPlaceCode 2 (some .boolean) rm_X5_isPlaceCode D (TY K) N ad (CT K W S ns nc ad B σ) [.ref (ad 0), .int code_] (BS (some (.int z)) N ad (CT K W S ns nc ad B σ) (bl z)) := by
  have hW := hG.1; have hW8 := hG.2.1; have hS := hG.2.2.1; have hS4 := hG.2.2.2.1; have hns := hG.2.2.2.2.1; have hnc := hG.2.2.2.2.2.1; have hWS := GH_ws hG
  refine MC.of (by decide) (Nat.le_of_ble_eq_true rfl) (fun p e s m args below meth c Q A H0 C X => ?_)
  replace C : Cx p s m args meth c cX5_isPlaceCode RX5 2 D (TY K) A H0 := C
  show J p l e rm_X5_isPlaceCode s m args below meth c Q D A H0 2 0 0 N ad (CT K W S ns nc ad B σ) 0 [(0, .ref (ad 0)), (1, .int code_)] []
  unfold m_X5_isPlaceCode at hz
  refine j_iload_n 1 C dX5_isPlaceCode_0 rfl rfl 1 rfl ?_
  refine j_if_lt 26 4 C dX5_isPlaceCode_1 rfl rfl (fun c_1 => ?_) (fun c_1 => ?_)
  · replace hz := (if_pos c_1).symm.trans hz
    refine j_iconst 27 C (x := nI 0) dX5_isPlaceCode_26 rfl (by decide) ?_
    subst hz
    exact j_retI C X dX5_isPlaceCode_27 (bl_nar bl_0) ⟨rfl, rfl, rfl, rfl, bl_0⟩
  · replace hz := (if_neg c_1).symm.trans hz
    refine j_aload_n 5 C dX5_isPlaceCode_4 rfl rfl 0 rfl ?_
    refine k_get 8 C fl_X5_21 dX5_isPlaceCode_5 rfl 0 (GH_r hG (by decide)) _ rfl (CE_0 _) (.ref (ad 1)) rfl ?_
    refine j_iload_n 9 C dX5_isPlaceCode_8 rfl rfl 1 rfl ?_
    refine j_bipush 11 C (x := nI 10) dX5_isPlaceCode_9 rfl (by decide) ?_
    refine j_idiv 12 C dX5_isPlaceCode_11 rfl (by decide) rfl ?_
    refine j_iload_n 13 C dX5_isPlaceCode_12 rfl rfl 1 rfl ?_
    refine j_bipush 15 C (x := nI 10) dX5_isPlaceCode_13 rfl (by decide) ?_
    refine j_irem 16 C dX5_isPlaceCode_15 rfl (by decide) rfl ?_
    obtain ⟨y16, e16, hz⟩ := ap_x hz
    refine s_V 19 C (As := [.int (code_ / (nI 10)), .int (code_ - code_ / (nI 10) * (nI 10))]) cv_X5_81 (c_X2_hasPlace (l := l) (D := D) (K := K) (ad := ad) hG  (hz := e16)) dX5_isPlaceCode_16 rfl 1 2 (GH_r hG (by decide)) rfl (CE_1 _) rfl rfl rfl rfl rfl rfl ⟨⟨Nat.le_of_ble_eq_true rfl, Nat.le_of_ble_eq_true rfl⟩, Nat.zero_le _, Nat.zero_le _⟩ (Nat.le_of_ble_eq_true rfl) (st' := [.int y16]) rfl (fun hE => ?_)
    have hbl16 : bl y16 := hE
    refine j_if_eq 26 22 C dX5_isPlaceCode_19 rfl rfl (fun c_19 => ?_) (fun c_19 => ?_)
    · replace hz := (if_pos c_19).symm.trans hz
      refine j_iconst 27 C (x := nI 0) dX5_isPlaceCode_26 rfl (by decide) ?_
      subst hz
      exact j_retI C X dX5_isPlaceCode_27 (bl_nar bl_0) ⟨rfl, rfl, rfl, rfl, bl_0⟩
    · replace hz := (if_neg c_19).symm.trans hz
      refine j_iconst 23 C (x := nI 1) dX5_isPlaceCode_22 rfl (by decide) ?_
      refine j_goto 27 C dX5_isPlaceCode_23 rfl ?_
      subst hz
      exact j_retI C X dX5_isPlaceCode_27 (bl_nar bl_1) ⟨rfl, rfl, rfl, rfl, bl_1⟩
def m_X5_between (W S ns nc : Nat) (B : Nat → Option Nat) (σ : Nat → Nat → Int32) (one : Int32) (other : Int32) (what : Int32) : Int32 × (Nat → Nat → Int32) := ap (m_X5_isPlaceCode W S ns nc B σ one) (fun (y2 : Int32) => (if y2 = 0 then ((-2147483648), σ) else ap (m_X5_isPlaceCode W S ns nc B σ other) (fun (y10 : Int32) => (if y10 = 0 then ((-2147483648), σ) else ap (m_X5_isEnd W S ns nc B σ what) (fun (y17 : Int32) => (if y17 = 0 then ((-2147483648), σ) else ap (m_X0_areSome W S ns nc B σ) (fun (y27 : Int32 × (Nat → Nat → Int32)) => (if y27.1 = 0 then ((-2147483648), y27.2) else ap (m_X2_placeOf W S ns nc B y27.2 (one / (nI 10)) (one - one / (nI 10) * (nI 10))) (fun (y48 : Int32) => ap (m_X2_placeOf W S ns nc B y27.2 (other / (nI 10)) (other - other / (nI 10) * (nI 10))) (fun (y65 : Int32) => ap (m_X0_agreed W S ns nc B y27.2) (fun (y74 : ) => (if what = 0 then ap (m_X1_most W S ns nc B y27.2 11 y65 y48) (fun (y89 : Int32) => (-y89, y27.2)) else ap (m_X1_most W S ns nc B y27.2 11 y48 y65) (fun (y102 : Int32) => (y102, y27.2))))))))))))))
abbrev rm_X5_between : Room := { frames := 18, cells := 0, slots := 0, locals := 540 }
set_option maxHeartbeats 4000000 in
set_option maxRecDepth 100000 in
theorem c_X5_between {l : Launch} {D : va_G} {K : Nat → ClassId} {W S ns nc N : Nat} {ad : Nat → Nat} {B : Nat → Option Nat} {σ : Nat → Nat → Int32} (hG : GH W S ns nc N) {one : Int32} {other : Int32} {what : Int32}  {z : Int32 × (Nat → Nat → Int32)} (hz : m_X5_between W S ns nc B σ one other what = z) (hB : BOK B N) (hb7 : bl (σ 9 7)) : MC l yX5_between cX5_between 7 (some .int) rm_X5_between D (TY K) N ad (CT K W S ns nc ad B σ) [.ref (ad 0), .int one, .int other, .int what] (BS (some (.int z.1)) N ad (CT K W S ns nc ad B z.2) True) := by
  have hW := hG.1; have hW8 := hG.2.1; have hS := hG.2.2.1; have hS4 := hG.2.2.2.1; have hns := hG.2.2.2.2.1; have hnc := hG.2.2.2.2.2.1; have hWS := GH_ws hG
  refine MC.of (by decide) (Nat.le_of_ble_eq_true rfl) (fun p e s m args below meth c Q A H0 C X => ?_)
  replace C : Cx p s m args meth c cX5_between RX5 7 D (TY K) A H0 := C
  show J p l e rm_X5_between s m args below meth c Q D A H0 7 0 0 N ad (CT K W S ns nc ad B σ) 0 [(0, .ref (ad 0)), (1, .int one), (2, .int other), (3, .int what)] []
  unfold m_X5_between at hz
  refine j_aload_n 1 C dX5_between_0 rfl rfl 0 rfl ?_
  refine j_iload_n 2 C dX5_between_1 rfl rfl 1 rfl ?_
  obtain ⟨y2, e2, hz⟩ := ap_x hz
  refine s_V 5 C (As := [.int one]) cv_X5_128 (c_X5_isPlaceCode (l := l) (D := D) (K := K) (ad := ad) hG  (hz := e2)) dX5_between_2 rfl 0 5 (GH_r hG (by decide)) rfl (CE_0 _) rfl rfl rfl rfl rfl rfl ⟨⟨Nat.le_of_ble_eq_true rfl, Nat.le_of_ble_eq_true rfl⟩, Nat.zero_le _, Nat.zero_le _⟩ (Nat.le_of_ble_eq_true rfl) (st' := [.int y2]) rfl (fun hE => ?_)
  have hbl2 : bl y2 := hE
  refine j_if_eq 33 8 C dX5_between_5 rfl rfl (fun c_5 => ?_) (fun c_5 => ?_)
  · replace hz := (if_pos c_5).symm.trans hz
    refine j_ldc 35 C (x' := (-2147483648)) wv_X5_131 dX5_between_33 rfl (by decide) ?_
    subst hz
    exact j_retI C X dX5_between_35 rfl ⟨rfl, rfl, rfl, rfl, trivial⟩
  · replace hz := (if_neg c_5).symm.trans hz
    refine j_aload_n 9 C dX5_between_8 rfl rfl 0 rfl ?_
    refine j_iload_n 10 C dX5_between_9 rfl rfl 2 rfl ?_
    obtain ⟨y10, e10, hz⟩ := ap_x hz
    refine s_V 13 C (As := [.int other]) cv_X5_128 (c_X5_isPlaceCode (l := l) (D := D) (K := K) (ad := ad) hG  (hz := e10)) dX5_between_10 rfl 0 5 (GH_r hG (by decide)) rfl (CE_0 _) rfl rfl rfl rfl rfl rfl ⟨⟨Nat.le_of_ble_eq_true rfl, Nat.le_of_ble_eq_true rfl⟩, Nat.zero_le _, Nat.zero_le _⟩ (Nat.le_of_ble_eq_true rfl) (st' := [.int y10]) rfl (fun hE => ?_)
    have hbl10 : bl y10 := hE
    refine j_if_eq 33 16 C dX5_between_13 rfl rfl (fun c_13 => ?_) (fun c_13 => ?_)
    · replace hz := (if_pos c_13).symm.trans hz
      refine j_ldc 35 C (x' := (-2147483648)) wv_X5_131 dX5_between_33 rfl (by decide) ?_
      subst hz
      exact j_retI C X dX5_between_35 rfl ⟨rfl, rfl, rfl, rfl, trivial⟩
    · replace hz := (if_neg c_13).symm.trans hz
      refine j_iload_n 17 C dX5_between_16 rfl rfl 3 rfl ?_
      obtain ⟨y17, e17, hz⟩ := ap_x hz
      refine s_S 20 C (As := [.int what]) cs_X5_107 (c_X5_isEnd (l := l) (D := D) (K := K) (ad := ad) hG  (hz := e17)) dX5_between_17 rfl rfl rfl rfl rfl ⟨⟨Nat.le_of_ble_eq_true rfl, Nat.le_of_ble_eq_true rfl⟩, Nat.zero_le _, Nat.zero_le _⟩ (Nat.le_of_ble_eq_true rfl) (st' := [.int y17]) rfl (fun hE => ?_)
      have hbl17 : bl y17 := hE
      refine j_if_eq 33 23 C dX5_between_20 rfl rfl (fun c_20 => ?_) (fun c_20 => ?_)
      · replace hz := (if_pos c_20).symm.trans hz
        refine j_ldc 35 C (x' := (-2147483648)) wv_X5_131 dX5_between_33 rfl (by decide) ?_
        subst hz
        exact j_retI C X dX5_between_35 rfl ⟨rfl, rfl, rfl, rfl, trivial⟩
      · replace hz := (if_neg c_20).symm.trans hz
        refine j_aload_n 24 C dX5_between_23 rfl rfl 0 rfl ?_
        refine k_get 27 C fl_X5_39 dX5_between_24 rfl 0 (GH_r hG (by decide)) _ rfl (CE_0 _) (.ref (ad 9)) rfl ?_
        obtain ⟨y27, e27, hz⟩ := ap_x hz
        refine s_V 30 C (As := []) cv_X5_99 (c_X0_areSome (l := l) (D := D) (K := K) (ad := ad) hG (hB := hB) (hb7 := hb7) (hz := e27)) dX5_between_27 rfl 9 0 (GH_r hG (by decide)) rfl (CE_9 _) rfl rfl rfl rfl rfl rfl ⟨⟨Nat.le_of_ble_eq_true rfl, Nat.le_of_ble_eq_true rfl⟩, Nat.zero_le _, Nat.zero_le _⟩ (Nat.le_of_ble_eq_true rfl) (st' := [.int y27.1]) rfl (fun hE => ?_)
        have hbl27 : bl y27.1 := hE
        refine j_if_ne 36 33 C dX5_between_30 rfl rfl (fun c_30 => ?_) (fun c_30 => ?_)
        · replace hz := (if_neg c_30).symm.trans hz
          refine j_aload_n 37 C dX5_between_36 rfl rfl 0 rfl ?_
          refine k_get 40 C fl_X5_21 dX5_between_37 rfl 0 (GH_r hG (by decide)) _ rfl (CE_0 _) (.ref (ad 1)) rfl ?_
          refine j_iload_n 41 C dX5_between_40 rfl rfl 1 rfl ?_
          refine j_bipush 43 C (x := nI 10) dX5_between_41 rfl (by decide) ?_
          refine j_idiv 44 C dX5_between_43 rfl (by decide) rfl ?_
          refine j_iload_n 45 C dX5_between_44 rfl rfl 1 rfl ?_
          refine j_bipush 47 C (x := nI 10) dX5_between_45 rfl (by decide) ?_
          refine j_irem 48 C dX5_between_47 rfl (by decide) rfl ?_
          obtain ⟨y48, e48, hz⟩ := ap_x hz
          refine s_V 51 C (As := [.int (one / (nI 10)), .int (one - one / (nI 10) * (nI 10))]) cv_X5_110 (c_X2_placeOf (l := l) (D := D) (K := K) (ad := ad) hG  (hz := e48)) dX5_between_48 rfl 1 2 (GH_r hG (by decide)) rfl (CE_1 _) rfl rfl rfl rfl rfl rfl ⟨⟨Nat.le_of_ble_eq_true rfl, Nat.le_of_ble_eq_true rfl⟩, Nat.zero_le _, Nat.zero_le _⟩ (Nat.le_of_ble_eq_true rfl) (st' := [.int y48]) rfl (fun hE => ?_)
          refine j_istore 53 C [(4, .int y48), (0, .ref (ad 0)), (1, .int one), (2, .int other), (3, .int what)] dX5_between_51 rfl (by decide) rfl ?_
          refine j_aload_n 54 C dX5_between_53 rfl rfl 1 rfl ?_
          refine k_get 57 C fl_X5_21 dX5_between_54 rfl 0 (GH_r hG (by decide)) _ rfl (CE_0 _) (.ref (ad 1)) rfl ?_
          refine j_iload_n 58 C dX5_between_57 rfl rfl 3 rfl ?_
          refine j_bipush 60 C (x := nI 10) dX5_between_58 rfl (by decide) ?_
          refine j_idiv 61 C dX5_between_60 rfl (by decide) rfl ?_
          refine j_iload_n 62 C dX5_between_61 rfl rfl 3 rfl ?_
          refine j_bipush 64 C (x := nI 10) dX5_between_62 rfl (by decide) ?_
          refine j_irem 65 C dX5_between_64 rfl (by decide) rfl ?_
          obtain ⟨y65, e65, hz⟩ := ap_x hz
          refine s_V 68 C (As := [.int (other / (nI 10)), .int (other - other / (nI 10) * (nI 10))]) cv_X5_110 (c_X2_placeOf (l := l) (D := D) (K := K) (ad := ad) hG  (hz := e65)) dX5_between_65 rfl 1 2 (GH_r hG (by decide)) rfl (CE_1 _) rfl rfl rfl rfl rfl rfl ⟨⟨Nat.le_of_ble_eq_true rfl, Nat.le_of_ble_eq_true rfl⟩, Nat.zero_le _, Nat.zero_le _⟩ (Nat.le_of_ble_eq_true rfl) (st' := [.int y65]) rfl (fun hE => ?_)
          refine j_istore 70 C [(5, .int y65), (4, .int y48), (0, .ref (ad 0)), (1, .int one), (2, .int other), (3, .int what)] dX5_between_68 rfl (by decide) rfl ?_
          refine j_aload_n 71 C dX5_between_70 rfl rfl 2 rfl ?_
          refine k_get 74 C fl_X5_39 dX5_between_71 rfl 0 (GH_r hG (by decide)) _ rfl (CE_0 _) (.ref (ad 9)) rfl ?_
          obtain ⟨y74, e74, hz⟩ := ap_x hz
          refine s_V 77 C (As := []) cv_X5_116 (c_X0_agreed (l := l) (D := D) (K := K) (ad := ad) hG  (hz := e74)) dX5_between_74 rfl 9 0 (GH_r hG (by decide)) rfl (CE_9 _) rfl rfl rfl rfl rfl rfl ⟨⟨Nat.le_of_ble_eq_true rfl, Nat.le_of_ble_eq_true rfl⟩, Nat.zero_le _, Nat.zero_le _⟩ (Nat.le_of_ble_eq_true rfl) (st' := [.ref (ad 33)]) rfl (fun hE => ?_)
          refine j_astore 79 C [(6, .ref (ad 33)), (5, .int y65), (4, .int y48), (0, .ref (ad 0)), (1, .int one), (2, .int other), (3, .int what)] dX5_between_77 rfl (by decide) rfl ?_
          refine j_iload_n 80 C dX5_between_79 rfl rfl 6 rfl ?_
          refine j_if_ne 96 83 C dX5_between_80 rfl rfl (fun c_80 => ?_) (fun c_80 => ?_)
          · replace hz := (if_neg c_80).symm.trans hz
            refine j_aload 98 C dX5_between_96 rfl 0 rfl ?_
            refine j_iload 100 C dX5_between_98 rfl 2 rfl ?_
            refine j_iload 102 C dX5_between_100 rfl 1 rfl ?_
            obtain ⟨y102, e102, hz⟩ := ap_x hz
            refine s_V 105 C (As := [.int y48, .int y65]) cv_X5_132 (c_X1_most (l := l) (D := D) (K := K) (ad := ad) hG (hg := by decide) (hz := e102)) dX5_between_102 rfl 33 1 (GH_r hG (by decide)) rfl (CE_go (g := 11) (by decide) _) rfl rfl rfl rfl rfl rfl ⟨⟨Nat.le_of_ble_eq_true rfl, Nat.le_of_ble_eq_true rfl⟩, Nat.zero_le _, Nat.zero_le _⟩ (Nat.le_of_ble_eq_true rfl) (st' := [.int y102]) rfl (fun hE => ?_)
            subst hz
            exact j_retI C X dX5_between_105 rfl ⟨rfl, rfl, rfl, rfl, trivial⟩
          · replace hz := (if_pos c_80).symm.trans hz
            refine j_aload 85 C dX5_between_83 rfl 0 rfl ?_
            refine j_iload 87 C dX5_between_85 rfl 1 rfl ?_
            refine j_iload 89 C dX5_between_87 rfl 2 rfl ?_
            obtain ⟨y89, e89, hz⟩ := ap_x hz
            refine s_V 92 C (As := [.int y65, .int y48]) cv_X5_132 (c_X1_most (l := l) (D := D) (K := K) (ad := ad) hG (hg := by decide) (hz := e89)) dX5_between_89 rfl 33 1 (GH_r hG (by decide)) rfl (CE_go (g := 11) (by decide) _) rfl rfl rfl rfl rfl rfl ⟨⟨Nat.le_of_ble_eq_true rfl, Nat.le_of_ble_eq_true rfl⟩, Nat.zero_le _, Nat.zero_le _⟩ (Nat.le_of_ble_eq_true rfl) (st' := [.int y89]) rfl (fun hE => ?_)
            refine j_ineg 93 C dX5_between_92 rfl rfl ?_
            refine j_goto 105 C dX5_between_93 rfl ?_
            subst hz
            exact j_retI C X dX5_between_105 rfl ⟨rfl, rfl, rfl, rfl, trivial⟩
        · replace hz := (if_pos c_30).symm.trans hz
          refine j_ldc 35 C (x' := (-2147483648)) wv_X5_131 dX5_between_33 rfl (by decide) ?_
          subst hz
          exact j_retI C X dX5_between_35 rfl ⟨rfl, rfl, rfl, rfl, trivial⟩
def m_X5_worn (W S ns nc : Nat) (B : Nat → Option Nat) (σ : Nat → Nat → Int32) (surface : Int32) (column : Int32) : Int32 × (Nat → Nat → Int32) := ap (m_X2_hasPlace W S ns nc B σ surface column) (fun (y6 : Int32) => (if y6 = 0 then ((-1), σ) else ap (m_X0_areSome W S ns nc B σ) (fun (y16 : Int32 × (Nat → Nat → Int32)) => (if y16.1 = 0 then ((-1), y16.2) else (if column < (nI W) then ap (m_X2_placeOf W S ns nc B y16.2 surface column) (fun (y39 : Int32) => ap (m_X5_end W S ns nc B y16.2 y39 (nI 1)) (fun (y46 : Int32) => (if ((y16.2 35) (column).toNatClampNeg) ≤ y46 then ap (m_X5_end W S ns nc B y16.2 y39 (nI 0)) (fun (y63 : Int32) => (if ((y16.2 35) (column).toNatClampNeg) ≤ y63 then (nI 0, y16.2) else (nI 1, y16.2))) else (nI 2, y16.2)))) else ((-1), y16.2))))))
abbrev rm_X5_worn : Room := { frames := 18, cells := 0, slots := 0, locals := 540 }
set_option maxHeartbeats 4000000 in
set_option maxRecDepth 100000 in
theorem c_X5_worn {l : Launch} {D : va_G} {K : Nat → ClassId} {W S ns nc N : Nat} {ad : Nat → Nat} {B : Nat → Option Nat} {σ : Nat → Nat → Int32} (hG : GH W S ns nc N) {surface : Int32} {column : Int32}  {z : Int32 × (Nat → Nat → Int32)} (hz : m_X5_worn W S ns nc B σ surface column = z) (hB : BOK B N) (hb7 : bl (σ 9 7)) : MC l yX5_worn cX5_worn 4 (some .int) rm_X5_worn D (TY K) N ad (CT K W S ns nc ad B σ) [.ref (ad 0), .int surface, .int column] (BS (some (.int z.1)) N ad (CT K W S ns nc ad B z.2) True) := by
  have hW := hG.1; have hW8 := hG.2.1; have hS := hG.2.2.1; have hS4 := hG.2.2.2.1; have hns := hG.2.2.2.2.1; have hnc := hG.2.2.2.2.2.1; have hWS := GH_ws hG
  refine MC.of (by decide) (Nat.le_of_ble_eq_true rfl) (fun p e s m args below meth c Q A H0 C X => ?_)
  replace C : Cx p s m args meth c cX5_worn RX5 4 D (TY K) A H0 := C
  show J p l e rm_X5_worn s m args below meth c Q D A H0 4 0 0 N ad (CT K W S ns nc ad B σ) 0 [(0, .ref (ad 0)), (1, .int surface), (2, .int column)] []
  unfold m_X5_worn at hz
  refine j_aload_n 1 C dX5_worn_0 rfl rfl 0 rfl ?_
  refine k_get 4 C fl_X5_21 dX5_worn_1 rfl 0 (GH_r hG (by decide)) _ rfl (CE_0 _) (.ref (ad 1)) rfl ?_
  refine j_iload_n 5 C dX5_worn_4 rfl rfl 1 rfl ?_
  refine j_iload_n 6 C dX5_worn_5 rfl rfl 2 rfl ?_
  obtain ⟨y6, e6, hz⟩ := ap_x hz
  refine s_V 9 C (As := [.int surface, .int column]) cv_X5_81 (c_X2_hasPlace (l := l) (D := D) (K := K) (ad := ad) hG  (hz := e6)) dX5_worn_6 rfl 1 2 (GH_r hG (by decide)) rfl (CE_1 _) rfl rfl rfl rfl rfl rfl ⟨⟨Nat.le_of_ble_eq_true rfl, Nat.le_of_ble_eq_true rfl⟩, Nat.zero_le _, Nat.zero_le _⟩ (Nat.le_of_ble_eq_true rfl) (st' := [.int y6]) rfl (fun hE => ?_)
  have hbl6 : bl y6 := hE
  refine j_if_eq 31 12 C dX5_worn_9 rfl rfl (fun c_9 => ?_) (fun c_9 => ?_)
  · replace hz := (if_pos c_9).symm.trans hz
    refine j_iconst 32 C (x := (-1)) dX5_worn_31 rfl (by decide) ?_
    subst hz
    exact j_retI C X dX5_worn_32 rfl ⟨rfl, rfl, rfl, rfl, trivial⟩
  · replace hz := (if_neg c_9).symm.trans hz
    obtain ⟨ks, kc, hks, hkc, eks, ekc⟩ := hasPlace_nat hG e6 c_9
    refine j_aload_n 13 C dX5_worn_12 rfl rfl 0 rfl ?_
    refine k_get 16 C fl_X5_39 dX5_worn_13 rfl 0 (GH_r hG (by decide)) _ rfl (CE_0 _) (.ref (ad 9)) rfl ?_
    obtain ⟨y16, e16, hz⟩ := ap_x hz
    refine s_V 19 C (As := []) cv_X5_99 (c_X0_areSome (l := l) (D := D) (K := K) (ad := ad) hG (hB := hB) (hb7 := hb7) (hz := e16)) dX5_worn_16 rfl 9 0 (GH_r hG (by decide)) rfl (CE_9 _) rfl rfl rfl rfl rfl rfl ⟨⟨Nat.le_of_ble_eq_true rfl, Nat.le_of_ble_eq_true rfl⟩, Nat.zero_le _, Nat.zero_le _⟩ (Nat.le_of_ble_eq_true rfl) (st' := [.int y16.1]) rfl (fun hE => ?_)
    have hbl16 : bl y16.1 := hE
    refine j_if_eq 31 22 C dX5_worn_19 rfl rfl (fun c_19 => ?_) (fun c_19 => ?_)
    · replace hz := (if_pos c_19).symm.trans hz
      refine j_iconst 32 C (x := (-1)) dX5_worn_31 rfl (by decide) ?_
      subst hz
      exact j_retI C X dX5_worn_32 rfl ⟨rfl, rfl, rfl, rfl, trivial⟩
    · replace hz := (if_neg c_19).symm.trans hz
      refine j_iload_n 23 C dX5_worn_22 rfl rfl 2 rfl ?_
      refine j_aload_n 24 C dX5_worn_23 rfl rfl 0 rfl ?_
      refine k_get 27 C fl_X5_43 dX5_worn_24 rfl 0 (GH_r hG (by decide)) _ rfl (CE_0 _) (.ref (ad 35)) rfl ?_
      refine k_alen 28 C dX5_worn_27 rfl 35 (GH_r hG (by decide)) 0 (CE_35 _) rfl ?_
      refine j_ic_lt 33 31 C dX5_worn_28 rfl rfl (fun c_28 => ?_) (fun c_28 => ?_)
      · replace hz := (if_pos c_28).symm.trans hz
        have n_28 := nat_lt (a := kc) (b := W) (by simp only [eks, ekc, nI_add, pk_mul]) rfl (by omega) (by omega) c_28
        refine j_aload_n 34 C dX5_worn_33 rfl rfl 0 rfl ?_
        refine k_get 37 C fl_X5_21 dX5_worn_34 rfl 0 (GH_r hG (by decide)) _ rfl (CE_0 _) (.ref (ad 1)) rfl ?_
        refine j_iload_n 38 C dX5_worn_37 rfl rfl 1 rfl ?_
        refine j_iload_n 39 C dX5_worn_38 rfl rfl 2 rfl ?_
        obtain ⟨y39, e39, hz⟩ := ap_x hz
        refine s_V 42 C (As := [.int surface, .int column]) cv_X5_110 (c_X2_placeOf (l := l) (D := D) (K := K) (ad := ad) hG  (hz := e39)) dX5_worn_39 rfl 1 2 (GH_r hG (by decide)) rfl (CE_1 _) rfl rfl rfl rfl rfl rfl ⟨⟨Nat.le_of_ble_eq_true rfl, Nat.le_of_ble_eq_true rfl⟩, Nat.zero_le _, Nat.zero_le _⟩ (Nat.le_of_ble_eq_true rfl) (st' := [.int y39]) rfl (fun hE => ?_)
        refine j_istore_n 43 C [(3, .int y39), (0, .ref (ad 0)), (1, .int surface), (2, .int column)] dX5_worn_42 rfl rfl (by decide) rfl ?_
        refine j_aload_n 44 C dX5_worn_43 rfl rfl 1 rfl ?_
        refine j_iload_n 45 C dX5_worn_44 rfl rfl 0 rfl ?_
        refine j_iconst 46 C (x := nI 1) dX5_worn_45 rfl (by decide) ?_
        obtain ⟨y46, e46, hz⟩ := ap_x hz
        refine s_V 49 C (As := [.int y39, .int (nI 1)]) cv_X5_113 (c_X5_end (l := l) (D := D) (K := K) (ad := ad) hG  (hz := e46)) dX5_worn_46 rfl 0 5 (GH_r hG (by decide)) rfl (CE_0 _) rfl rfl rfl rfl rfl rfl ⟨⟨Nat.le_of_ble_eq_true rfl, Nat.le_of_ble_eq_true rfl⟩, Nat.zero_le _, Nat.zero_le _⟩ (Nat.le_of_ble_eq_true rfl) (st' := [.int y46]) rfl (fun hE => ?_)
        refine j_aload_n 50 C dX5_worn_49 rfl rfl 1 rfl ?_
        refine k_get 53 C fl_X5_43 dX5_worn_50 rfl 0 (GH_r hG (by decide)) _ rfl (CE_0 _) (.ref (ad 35)) rfl ?_
        refine j_iload_n 54 C dX5_worn_53 rfl rfl 3 rfl ?_
        refine k_iald 55 C dX5_worn_54 rfl 35 (GH_r hG (by decide)) (y16.2 35) rfl CE_35 (vp_inE (n := kc) (by simp only [eks, ekc, nI_add, pk_mul]) (by omega) (by omega)) ?_
        refine j_ic_ge 60 58 C dX5_worn_55 rfl rfl (fun c_55 => ?_) (fun c_55 => ?_)
        · replace hz := (if_pos c_55).symm.trans hz
          refine j_aload_n 61 C dX5_worn_60 rfl rfl 1 rfl ?_
          refine j_iload_n 62 C dX5_worn_61 rfl rfl 0 rfl ?_
          refine j_iconst 63 C (x := nI 0) dX5_worn_62 rfl (by decide) ?_
          obtain ⟨y63, e63, hz⟩ := ap_x hz
          refine s_V 66 C (As := [.int y39, .int (nI 0)]) cv_X5_113 (c_X5_end (l := l) (D := D) (K := K) (ad := ad) hG  (hz := e63)) dX5_worn_63 rfl 0 5 (GH_r hG (by decide)) rfl (CE_0 _) rfl rfl rfl rfl rfl rfl ⟨⟨Nat.le_of_ble_eq_true rfl, Nat.le_of_ble_eq_true rfl⟩, Nat.zero_le _, Nat.zero_le _⟩ (Nat.le_of_ble_eq_true rfl) (st' := [.int y63]) rfl (fun hE => ?_)
          refine j_aload_n 67 C dX5_worn_66 rfl rfl 1 rfl ?_
          refine k_get 70 C fl_X5_43 dX5_worn_67 rfl 0 (GH_r hG (by decide)) _ rfl (CE_0 _) (.ref (ad 35)) rfl ?_
          refine j_iload_n 71 C dX5_worn_70 rfl rfl 3 rfl ?_
          refine k_iald 72 C dX5_worn_71 rfl 35 (GH_r hG (by decide)) (y16.2 35) rfl CE_35 (vp_inE (n := kc) (by simp only [eks, ekc, nI_add, pk_mul]) (by omega) (by omega)) ?_
          refine j_ic_ge 79 75 C dX5_worn_72 rfl rfl (fun c_72 => ?_) (fun c_72 => ?_)
          · replace hz := (if_pos c_72).symm.trans hz
            refine j_iconst 80 C (x := nI 0) dX5_worn_79 rfl (by decide) ?_
            subst hz
            exact j_retI C X dX5_worn_80 rfl ⟨rfl, rfl, rfl, rfl, trivial⟩
          · replace hz := (if_neg c_72).symm.trans hz
            refine j_iconst 76 C (x := nI 1) dX5_worn_75 rfl (by decide) ?_
            refine j_goto 80 C dX5_worn_76 rfl ?_
            subst hz
            exact j_retI C X dX5_worn_80 rfl ⟨rfl, rfl, rfl, rfl, trivial⟩
        · replace hz := (if_neg c_55).symm.trans hz
          refine j_iconst 59 C (x := nI 2) dX5_worn_58 rfl (by decide) ?_
          subst hz
          exact j_retI C X dX5_worn_59 rfl ⟨rfl, rfl, rfl, rfl, trivial⟩
      · replace hz := (if_neg c_28).symm.trans hz
        have n_28 := nat_nlt (a := kc) (b := W) (by simp only [eks, ekc, nI_add, pk_mul]) rfl (by omega) (by omega) c_28
        refine j_iconst 32 C (x := (-1)) dX5_worn_31 rfl (by decide) ?_
        subst hz
        exact j_retI C X dX5_worn_32 rfl ⟨rfl, rfl, rfl, rfl, trivial⟩
def m_X5_gain_L17 (W S ns nc : Nat) (B : Nat → Option Nat) (σ : Nat → Nat → Int32) (place : Int32) (i17 : Nat) (c17 : Int32) : Int32 := ap (m_X1_openSumAfterBore W S ns nc B σ 11 place (nI i17)) (fun (y32 : Int32) => ap ((if c17 < y32 then y32 else c17)) (fun (x38 : Int32) => x38))
def m_X5_gain (W S ns nc : Nat) (B : Nat → Option Nat) (σ : Nat → Nat → Int32) (place : Int32) : Int32 := ap (m_X0_agreed W S ns nc B σ) (fun (y4 : ) => ap (m_X1_least W S ns nc B σ 11 place) (fun (y12 : Int32) => ap (lp (m_X5_gain_L17 W S ns nc B σ place) ((m_X1_greatest W S ns nc B σ 11 place).toNatClampNeg + 1 - ((y12).toNatClampNeg)) ((y12).toNatClampNeg) (nI 0)) (fun (z17 : Int32) => ap (m_X1_openSum W S ns nc B σ 11) (fun (y46 : Int32) => y46 - z17))))
abbrev rm_X5_gain : Room := { frames := 4, cells := 0, slots := 0, locals := 86 }
set_option maxHeartbeats 4000000 in
set_option maxRecDepth 100000 in
theorem c_X5_gain {l : Launch} {D : va_G} {K : Nat → ClassId} {W S ns nc N : Nat} {ad : Nat → Nat} {B : Nat → Option Nat} {σ : Nat → Nat → Int32} (hG : GH W S ns nc N) {lo hi : Nat} {place : Int32}  {z : Int32} (hz : m_X5_gain W S ns nc B σ place = z) (hlo4 : lo < 4000) (hhi4 : hi < 4000) (hlo : m_X1_least W S ns nc B σ 11 place = nI lo) (hhi : m_X1_greatest W S ns nc B σ 11 place = nI hi) : MC l yX5_gain cX5_gain 5 (some .int) rm_X5_gain D (TY K) N ad (CT K W S ns nc ad B σ) [.ref (ad 0), .int place] (BS (some (.int z)) N ad (CT K W S ns nc ad B σ) True) := by
  have hW := hG.1; have hW8 := hG.2.1; have hS := hG.2.2.1; have hS4 := hG.2.2.2.1; have hns := hG.2.2.2.2.1; have hnc := hG.2.2.2.2.2.1; have hWS := GH_ws hG
  refine MC.of (by decide) (Nat.le_of_ble_eq_true rfl) (fun p e s m args below meth c Q A H0 C X => ?_)
  replace C : Cx p s m args meth c cX5_gain RX5 5 D (TY K) A H0 := C
  show J p l e rm_X5_gain s m args below meth c Q D A H0 5 0 0 N ad (CT K W S ns nc ad B σ) 0 [(0, .ref (ad 0)), (1, .int place)] []
  unfold m_X5_gain at hz
  have hhN : (m_X1_greatest W S ns nc B σ 11 place).toNatClampNeg = hi := by rw [hhi]; exact nI_clamp (by omega)
  refine j_aload_n 1 C dX5_gain_0 rfl rfl 0 rfl ?_
  refine k_get 4 C fl_X5_39 dX5_gain_1 rfl 0 (GH_r hG (by decide)) _ rfl (CE_0 _) (.ref (ad 9)) rfl ?_
  obtain ⟨y4, e4, hz⟩ := ap_x hz
  refine s_V 7 C (As := []) cv_X5_116 (c_X0_agreed (l := l) (D := D) (K := K) (ad := ad) hG  (hz := e4)) dX5_gain_4 rfl 9 0 (GH_r hG (by decide)) rfl (CE_9 _) rfl rfl rfl rfl rfl rfl ⟨⟨Nat.le_of_ble_eq_true rfl, Nat.le_of_ble_eq_true rfl⟩, Nat.zero_le _, Nat.zero_le _⟩ (Nat.le_of_ble_eq_true rfl) (st' := [.ref (ad 33)]) rfl (fun hE => ?_)
  refine j_astore_n 8 C [(2, .ref (ad 33)), (0, .ref (ad 0)), (1, .int place)] dX5_gain_7 rfl rfl (by decide) rfl ?_
  refine j_iconst 9 C (x := nI 0) dX5_gain_8 rfl (by decide) ?_
  refine j_istore_n 10 C [(3, .int (nI 0)), (2, .ref (ad 33)), (0, .ref (ad 0)), (1, .int place)] dX5_gain_9 rfl rfl (by decide) rfl ?_
  refine j_aload_n 11 C dX5_gain_10 rfl rfl 1 rfl ?_
  refine j_iload_n 12 C dX5_gain_11 rfl rfl 3 rfl ?_
  obtain ⟨y12, e12, hz⟩ := ap_x hz
  refine s_V 15 C (As := [.int place]) cv_X5_175 (c_X1_least (l := l) (D := D) (K := K) (ad := ad) hG (hg := by decide) (hz := e12)) dX5_gain_12 rfl 33 1 (GH_r hG (by decide)) rfl (CE_go (g := 11) (by decide) _) rfl rfl rfl rfl rfl rfl ⟨⟨Nat.le_of_ble_eq_true rfl, Nat.le_of_ble_eq_true rfl⟩, Nat.zero_le _, Nat.zero_le _⟩ (Nat.le_of_ble_eq_true rfl) (st' := [.int y12]) rfl (fun hE => ?_)
  have hy12 : (y12).toNatClampNeg = lo := by rw [← e12, hlo]; exact nI_clamp (by omega)
  have ey12 : y12 = nI (y12).toNatClampNeg := by rw [hy12, ← e12, hlo]
  refine j_st (st' := [.int (nI ((y12).toNatClampNeg))]) (by rw [← ey12]) ?_
  refine j_istore 17 C [(4, .int (nI ((y12).toNatClampNeg))), (3, .int (nI 0)), (2, .ref (ad 33)), (0, .ref (ad 0)), (1, .int place)] dX5_gain_15 rfl (by decide) rfl ?_
  skip
  obtain ⟨z17, ez17, hz⟩ := ap_x hz
  have L17 : ∀ (n17 i17 : Nat) (c17 : Int32), 0 ≤ i17 → i17 < 5000 → n17 = (m_X1_greatest W S ns nc B σ 11 place).toNatClampNeg + 1 - i17 → lp (m_X5_gain_L17 W S ns nc B σ place) n17 i17 c17 = z17 → J p l e rm_X5_gain s m args below meth c Q D A H0 5 0 0 N ad (CT K W S ns nc ad B σ) 17 [(1, .int place), (2, .ref (ad 33)), (3, .int c17), (4, .int (nI i17))] [] := by
    intro n17
    induction n17 with
    | zero =>
      intro i17 c17 hl17 hi17 hn17 hz17
      refine j_iload 19 C dX5_gain_17 rfl 3 rfl ?_
      refine j_aload_n 20 C dX5_gain_19 rfl rfl 1 rfl ?_
      refine j_iload_n 21 C dX5_gain_20 rfl rfl 0 rfl ?_
      refine s_V 24 C (As := [.int place]) cv_X5_178 (c_X1_greatest (l := l) (D := D) (K := K) (ad := ad) hG (hg := by decide) (hz := rfl)) dX5_gain_21 rfl 33 1 (GH_r hG (by decide)) rfl (CE_go (g := 11) (by decide) _) rfl rfl rfl rfl rfl rfl ⟨⟨Nat.le_of_ble_eq_true rfl, Nat.le_of_ble_eq_true rfl⟩, Nat.zero_le _, Nat.zero_le _⟩ (Nat.le_of_ble_eq_true rfl) (st' := [.int (m_X1_greatest W S ns nc B σ 11 place), .int (nI i17)]) rfl (fun hE => ?_)
      have ey21 : (m_X1_greatest W S ns nc B σ 11 place) = nI hi := hhi
      refine j_ic_gt 45 27 C dX5_gain_24 rfl rfl (fun c_24 => ?_) (fun c_24 => ?_)
      · skip
        have n_24 := nat_lt (a := hi) (b := i17) (by simp only [ey21, nI_add, pk_mul]) rfl (by omega) (by omega) c_24
        have hq17 : c17 = z17 := hz17
        subst hq17
        refine j_aload_n 46 C dX5_gain_45 rfl rfl 1 rfl ?_
        obtain ⟨y46, e46, hz⟩ := ap_x hz
        refine s_V 49 C (As := []) cv_X5_120 (c_X1_openSum (l := l) (D := D) (K := K) (ad := ad) hG (hg := by decide) (hz := e46)) dX5_gain_46 rfl 33 1 (GH_r hG (by decide)) rfl (CE_go (g := 11) (by decide) _) rfl rfl rfl rfl rfl rfl ⟨⟨Nat.le_of_ble_eq_true rfl, Nat.le_of_ble_eq_true rfl⟩, Nat.zero_le _, Nat.zero_le _⟩ (Nat.le_of_ble_eq_true rfl) (st' := [.int y46]) rfl (fun hE => ?_)
        refine j_iload_n 50 C dX5_gain_49 rfl rfl 2 rfl ?_
        refine j_isub 51 C dX5_gain_50 rfl rfl ?_
        subst hz
        exact j_retI C X dX5_gain_51 rfl ⟨rfl, rfl, rfl, rfl, trivial⟩
      · exfalso
        have n_24 := nat_nlt (a := hi) (b := i17) (by simp only [ey21, nI_add, pk_mul]) rfl (by omega) (by omega) c_24
        omega
    | succ n17 ih17 =>
      intro i17 c17 hl17 hi17 hn17 hz17
      refine j_iload 19 C dX5_gain_17 rfl 3 rfl ?_
      refine j_aload_n 20 C dX5_gain_19 rfl rfl 1 rfl ?_
      refine j_iload_n 21 C dX5_gain_20 rfl rfl 0 rfl ?_
      refine s_V 24 C (As := [.int place]) cv_X5_178 (c_X1_greatest (l := l) (D := D) (K := K) (ad := ad) hG (hg := by decide) (hz := rfl)) dX5_gain_21 rfl 33 1 (GH_r hG (by decide)) rfl (CE_go (g := 11) (by decide) _) rfl rfl rfl rfl rfl rfl ⟨⟨Nat.le_of_ble_eq_true rfl, Nat.le_of_ble_eq_true rfl⟩, Nat.zero_le _, Nat.zero_le _⟩ (Nat.le_of_ble_eq_true rfl) (st' := [.int (m_X1_greatest W S ns nc B σ 11 place), .int (nI i17)]) rfl (fun hE => ?_)
      have ey21 : (m_X1_greatest W S ns nc B σ 11 place) = nI hi := hhi
      refine j_ic_gt 45 27 C dX5_gain_24 rfl rfl (fun c_24 => ?_) (fun c_24 => ?_)
      · exfalso
        have n_24 := nat_lt (a := hi) (b := i17) (by simp only [ey21, nI_add, pk_mul]) rfl (by omega) (by omega) c_24
        omega
      · skip
        have n_24 := nat_nlt (a := hi) (b := i17) (by simp only [ey21, nI_add, pk_mul]) rfl (by omega) (by omega) c_24
        obtain ⟨w17, hw17, hz17⟩ := lp_s hz17
        have ho17 := hz
        clear hz
        have hz := hw17
        clear hw17
        unfold m_X5_gain_L17 at hz
        refine j_iload_n 28 C dX5_gain_27 rfl rfl 2 rfl ?_
        refine j_aload_n 29 C dX5_gain_28 rfl rfl 1 rfl ?_
        refine j_iload_n 30 C dX5_gain_29 rfl rfl 0 rfl ?_
        refine j_iload 32 C dX5_gain_30 rfl 3 rfl ?_
        obtain ⟨y32, e32, hz⟩ := ap_x hz
        refine s_V 35 C (As := [.int place, .int (nI i17)]) cv_X5_181 (c_X1_openSumAfterBore (l := l) (D := D) (K := K) (ad := ad) hG (hg := by decide) (hz := e32)) dX5_gain_32 rfl 33 1 (GH_r hG (by decide)) rfl (CE_go (g := 11) (by decide) _) rfl rfl rfl rfl rfl rfl ⟨⟨Nat.le_of_ble_eq_true rfl, Nat.le_of_ble_eq_true rfl⟩, Nat.zero_le _, Nat.zero_le _⟩ (Nat.le_of_ble_eq_true rfl) (st' := [.int y32, .int c17]) rfl (fun hE => ?_)
        refine j_mmax 38 C wl_X5_13 rfl dX5_gain_35 rfl (Nat.le_of_ble_eq_true rfl) (Nat.le_of_ble_eq_true rfl) (Nat.zero_le _) (Nat.zero_le _) ?_
        obtain ⟨x38, e38, hz⟩ := ap_x hz
        refine j_st (st' := [.int x38]) (by rw [← e38]) ?_
        refine j_istore_n 39 C [(3, .int x38), (1, .int place), (2, .ref (ad 33)), (4, .int (nI i17))] dX5_gain_38 rfl rfl (by decide) rfl ?_
        refine j_iinc 42 C (x' := nI (i17 + 1)) [(4, .int (nI (i17 + 1))), (3, .int x38), (1, .int place), (2, .ref (ad 33))] dX5_gain_39 rfl 3 rfl (by rw [show Int32.ofInt 1 = nI 1 from by decide, nI_add]) (by decide) rfl ?_
        refine j_goto 17 C dX5_gain_42 rfl ?_
        subst hz
        refine j_lv [2, 3, 1, 0] (lv' := [(1, .int place), (2, .ref (ad 33)), (3, .int x38), (4, .int (nI (i17 + 1)))]) rfl ?_
        have hz := ho17
        exact ih17 (i17 + 1) x38 (by omega) (by omega) (by omega) hz17
  refine j_lv [4, 2, 1, 0] (lv' := [(1, .int place), (2, .ref (ad 33)), (3, .int (nI 0)), (4, .int (nI ((y12).toNatClampNeg)))]) rfl ?_
  exact L17 _ ((y12).toNatClampNeg) (nI 0) (by omega) (by omega) rfl ez17
def SpX (W S ns nc : Nat) (B : Nat → Option Nat) (σ : Nat → Nat → Int32) : Prop := ∀ (k j : Nat), k < S → j < W → ∃ lo hi : Nat, lo < 4000 ∧ hi < 4000 ∧ m_X1_least W S ns nc B σ 11 (nI ((1 + (k * W)) + j)) = nI lo ∧ m_X1_greatest W S ns nc B σ 11 (nI ((1 + (k * W)) + j)) = nI hi
def AsOK (W S ns nc : Nat) (B : Nat → Option Nat) (σ : Nat → Nat → Int32) : Prop := ∀ y, m_X0_areSome W S ns nc B σ = y → ¬ y.1 = 0 → SpX W S ns nc B y.2
theorem m_X2_placeOf_n {W S ns nc : Nat} {B : Nat → Option Nat} {σ : Nat → Nat → Int32} {x y : Int32} {a b : Nat} (hx : x = nI a) (hy : y = nI b) : m_X2_placeOf W S ns nc B σ x y = nI ((1 + (a * W)) + b) := by
  subst hx; subst hy; unfold m_X2_placeOf; simp only [nI_add, pk_mul]
def m_X5_tells (W S ns nc : Nat) (B : Nat → Option Nat) (σ : Nat → Nat → Int32) (surface : Int32) (column : Int32) : Int32 × (Nat → Nat → Int32) := ap (m_X2_hasPlace W S ns nc B σ surface column) (fun (y6 : Int32) => (if y6 = 0 then ((-1), σ) else ap (m_X0_areSome W S ns nc B σ) (fun (y16 : Int32 × (Nat → Nat → Int32)) => (if y16.1 = 0 then ((-1), y16.2) else ap (m_X2_placeOf W S ns nc B y16.2 surface column) (fun (y31 : Int32) => ap (m_X5_gain W S ns nc B y16.2 y31) (fun (y34 : Int32) => (y34, y16.2)))))))
abbrev rm_X5_tells : Room := { frames := 18, cells := 0, slots := 0, locals := 540 }
set_option maxHeartbeats 4000000 in
set_option maxRecDepth 100000 in
theorem c_X5_tells {l : Launch} {D : va_G} {K : Nat → ClassId} {W S ns nc N : Nat} {ad : Nat → Nat} {B : Nat → Option Nat} {σ : Nat → Nat → Int32} (hG : GH W S ns nc N) {surface : Int32} {column : Int32}  {z : Int32 × (Nat → Nat → Int32)} (hz : m_X5_tells W S ns nc B σ surface column = z) (hB : BOK B N) (hb7 : bl (σ 9 7)) (has : AsOK W S ns nc B σ) : MC l yX5_tells cX5_tells 3 (some .int) rm_X5_tells D (TY K) N ad (CT K W S ns nc ad B σ) [.ref (ad 0), .int surface, .int column] (BS (some (.int z.1)) N ad (CT K W S ns nc ad B z.2) True) := by
  have hW := hG.1; have hW8 := hG.2.1; have hS := hG.2.2.1; have hS4 := hG.2.2.2.1; have hns := hG.2.2.2.2.1; have hnc := hG.2.2.2.2.2.1; have hWS := GH_ws hG
  refine MC.of (by decide) (Nat.le_of_ble_eq_true rfl) (fun p e s m args below meth c Q A H0 C X => ?_)
  replace C : Cx p s m args meth c cX5_tells RX5 3 D (TY K) A H0 := C
  show J p l e rm_X5_tells s m args below meth c Q D A H0 3 0 0 N ad (CT K W S ns nc ad B σ) 0 [(0, .ref (ad 0)), (1, .int surface), (2, .int column)] []
  unfold m_X5_tells at hz
  refine j_aload_n 1 C dX5_tells_0 rfl rfl 0 rfl ?_
  refine k_get 4 C fl_X5_21 dX5_tells_1 rfl 0 (GH_r hG (by decide)) _ rfl (CE_0 _) (.ref (ad 1)) rfl ?_
  refine j_iload_n 5 C dX5_tells_4 rfl rfl 1 rfl ?_
  refine j_iload_n 6 C dX5_tells_5 rfl rfl 2 rfl ?_
  obtain ⟨y6, e6, hz⟩ := ap_x hz
  refine s_V 9 C (As := [.int surface, .int column]) cv_X5_81 (c_X2_hasPlace (l := l) (D := D) (K := K) (ad := ad) hG  (hz := e6)) dX5_tells_6 rfl 1 2 (GH_r hG (by decide)) rfl (CE_1 _) rfl rfl rfl rfl rfl rfl ⟨⟨Nat.le_of_ble_eq_true rfl, Nat.le_of_ble_eq_true rfl⟩, Nat.zero_le _, Nat.zero_le _⟩ (Nat.le_of_ble_eq_true rfl) (st' := [.int y6]) rfl (fun hE => ?_)
  have hbl6 : bl y6 := hE
  refine j_if_eq 22 12 C dX5_tells_9 rfl rfl (fun c_9 => ?_) (fun c_9 => ?_)
  · replace hz := (if_pos c_9).symm.trans hz
    refine j_iconst 23 C (x := (-1)) dX5_tells_22 rfl (by decide) ?_
    subst hz
    exact j_retI C X dX5_tells_23 rfl ⟨rfl, rfl, rfl, rfl, trivial⟩
  · replace hz := (if_neg c_9).symm.trans hz
    obtain ⟨ks, kc, hks, hkc, eks, ekc⟩ := hasPlace_nat hG e6 c_9
    refine j_aload_n 13 C dX5_tells_12 rfl rfl 0 rfl ?_
    refine k_get 16 C fl_X5_39 dX5_tells_13 rfl 0 (GH_r hG (by decide)) _ rfl (CE_0 _) (.ref (ad 9)) rfl ?_
    obtain ⟨y16, e16, hz⟩ := ap_x hz
    refine s_V 19 C (As := []) cv_X5_99 (c_X0_areSome (l := l) (D := D) (K := K) (ad := ad) hG (hB := hB) (hb7 := hb7) (hz := e16)) dX5_tells_16 rfl 9 0 (GH_r hG (by decide)) rfl (CE_9 _) rfl rfl rfl rfl rfl rfl ⟨⟨Nat.le_of_ble_eq_true rfl, Nat.le_of_ble_eq_true rfl⟩, Nat.zero_le _, Nat.zero_le _⟩ (Nat.le_of_ble_eq_true rfl) (st' := [.int y16.1]) rfl (fun hE => ?_)
    have hbl16 : bl y16.1 := hE
    refine j_if_ne 24 22 C dX5_tells_19 rfl rfl (fun c_19 => ?_) (fun c_19 => ?_)
    · replace hz := (if_neg c_19).symm.trans hz
      refine j_aload_n 25 C dX5_tells_24 rfl rfl 0 rfl ?_
      refine j_aload_n 26 C dX5_tells_25 rfl rfl 0 rfl ?_
      refine k_get 29 C fl_X5_21 dX5_tells_26 rfl 0 (GH_r hG (by decide)) _ rfl (CE_0 _) (.ref (ad 1)) rfl ?_
      refine j_iload_n 30 C dX5_tells_29 rfl rfl 1 rfl ?_
      refine j_iload_n 31 C dX5_tells_30 rfl rfl 2 rfl ?_
      obtain ⟨y31, e31, hz⟩ := ap_x hz
      refine s_V 34 C (As := [.int surface, .int column]) cv_X5_110 (c_X2_placeOf (l := l) (D := D) (K := K) (ad := ad) hG  (hz := e31)) dX5_tells_31 rfl 1 2 (GH_r hG (by decide)) rfl (CE_1 _) rfl rfl rfl rfl rfl rfl ⟨⟨Nat.le_of_ble_eq_true rfl, Nat.le_of_ble_eq_true rfl⟩, Nat.zero_le _, Nat.zero_le _⟩ (Nat.le_of_ble_eq_true rfl) (st' := [.int y31, .ref (ad 0)]) rfl (fun hE => ?_)
      obtain ⟨lo, hi, hlo4, hhi4, hlo, hhi⟩ := has _ e16 c_19 ks kc hks hkc
      rw [← m_X2_placeOf_n (B := B) (σ := y16.2) (ns := ns) (nc := nc) (S := S) eks ekc, e31] at hlo hhi
      obtain ⟨y34, e34, hz⟩ := ap_x hz
      refine s_V 37 C (As := [.int y31]) cv_X5_135 (c_X5_gain (l := l) (D := D) (K := K) (ad := ad) hG (hlo4 := hlo4) (hhi4 := hhi4) (hlo := hlo) (hhi := hhi) (hz := e34)) dX5_tells_34 rfl 0 5 (GH_r hG (by decide)) rfl (CE_0 _) rfl rfl rfl rfl rfl rfl ⟨⟨Nat.le_of_ble_eq_true rfl, Nat.le_of_ble_eq_true rfl⟩, Nat.zero_le _, Nat.zero_le _⟩ (Nat.le_of_ble_eq_true rfl) (st' := [.int y34]) rfl (fun hE => ?_)
      subst hz
      exact j_retI C X dX5_tells_37 rfl ⟨rfl, rfl, rfl, rfl, trivial⟩
    · replace hz := (if_pos c_19).symm.trans hz
      refine j_iconst 23 C (x := (-1)) dX5_tells_22 rfl (by decide) ?_
      subst hz
      exact j_retI C X dX5_tells_23 rfl ⟨rfl, rfl, rfl, rfl, trivial⟩
def m_X5_next_L32 (W S ns nc : Nat) (B : Nat → Option Nat) (σ : Nat → Nat → Int32) (y4 : Int32 × (Nat → Nat → Int32)) (i18 : Nat) (i32 : Nat) (c32 : Int32 × Int32) : Int32 × Int32 := ap (m_X2_placeOf W S ns nc B y4.2 (nI i18) (nI i32)) (fun (y52 : Int32) => ap (m_X5_gain W S ns nc B y4.2 y52) (fun (y55 : Int32) => (if y55 ≤ c32.2 then (c32.1, c32.2) else (((nI i18) * (nI 10)) + (nI i32), y55))))
def m_X5_next_L18 (W S ns nc : Nat) (B : Nat → Option Nat) (σ : Nat → Nat → Int32) (y4 : Int32 × (Nat → Nat → Int32)) (i18 : Nat) (c18 : Int32 × Int32) : Int32 × Int32 := ap (lp (m_X5_next_L32 W S ns nc B σ y4 i18) (W - 0) 0 (c18.1, c18.2)) (fun (z32 : Int32 × Int32) => (z32.1, z32.2))
def m_X5_next (W S ns nc : Nat) (B : Nat → Option Nat) (σ : Nat → Nat → Int32) : Int32 × (Nat → Nat → Int32) := ap (m_X0_areSome W S ns nc B σ) (fun (y4 : Int32 × (Nat → Nat → Int32)) => (if y4.1 = 0 then ((-1), y4.2) else ap (lp (m_X5_next_L18 W S ns nc B σ y4) (S - 0) 0 ((-1), (-1))) (fun (z18 : Int32 × Int32) => (z18.1, y4.2))))
abbrev rm_X5_next : Room := { frames := 18, cells := 0, slots := 0, locals := 540 }
set_option maxHeartbeats 4000000 in
set_option maxRecDepth 100000 in
theorem c_X5_next {l : Launch} {D : va_G} {K : Nat → ClassId} {W S ns nc N : Nat} {ad : Nat → Nat} {B : Nat → Option Nat} {σ : Nat → Nat → Int32} (hG : GH W S ns nc N)   {z : Int32 × (Nat → Nat → Int32)} (hz : m_X5_next W S ns nc B σ = z) (hB : BOK B N) (hb7 : bl (σ 9 7)) (has : AsOK W S ns nc B σ) : MC l yX5_next cX5_next 6 (some .int) rm_X5_next D (TY K) N ad (CT K W S ns nc ad B σ) [.ref (ad 0)] (BS (some (.int z.1)) N ad (CT K W S ns nc ad B z.2) True) := by
  have hW := hG.1; have hW8 := hG.2.1; have hS := hG.2.2.1; have hS4 := hG.2.2.2.1; have hns := hG.2.2.2.2.1; have hnc := hG.2.2.2.2.2.1; have hWS := GH_ws hG
  refine MC.of (by decide) (Nat.le_of_ble_eq_true rfl) (fun p e s m args below meth c Q A H0 C X => ?_)
  replace C : Cx p s m args meth c cX5_next RX5 6 D (TY K) A H0 := C
  show J p l e rm_X5_next s m args below meth c Q D A H0 6 0 0 N ad (CT K W S ns nc ad B σ) 0 [(0, .ref (ad 0))] []
  unfold m_X5_next at hz
  refine j_aload_n 1 C dX5_next_0 rfl rfl 0 rfl ?_
  refine k_get 4 C fl_X5_39 dX5_next_1 rfl 0 (GH_r hG (by decide)) _ rfl (CE_0 _) (.ref (ad 9)) rfl ?_
  obtain ⟨y4, e4, hz⟩ := ap_x hz
  refine s_V 7 C (As := []) cv_X5_99 (c_X0_areSome (l := l) (D := D) (K := K) (ad := ad) hG (hB := hB) (hb7 := hb7) (hz := e4)) dX5_next_4 rfl 9 0 (GH_r hG (by decide)) rfl (CE_9 _) rfl rfl rfl rfl rfl rfl ⟨⟨Nat.le_of_ble_eq_true rfl, Nat.le_of_ble_eq_true rfl⟩, Nat.zero_le _, Nat.zero_le _⟩ (Nat.le_of_ble_eq_true rfl) (st' := [.int y4.1]) rfl (fun hE => ?_)
  have hbl4 : bl y4.1 := hE
  refine j_if_ne 12 10 C dX5_next_7 rfl rfl (fun c_7 => ?_) (fun c_7 => ?_)
  · replace hz := (if_neg c_7).symm.trans hz
    refine j_iconst 13 C (x := (-1)) dX5_next_12 rfl (by decide) ?_
    refine j_istore_n 14 C [(1, .int (-1)), (0, .ref (ad 0))] dX5_next_13 rfl rfl (by decide) rfl ?_
    refine j_iconst 15 C (x := (-1)) dX5_next_14 rfl (by decide) ?_
    refine j_istore_n 16 C [(2, .int (-1)), (1, .int (-1)), (0, .ref (ad 0))] dX5_next_15 rfl rfl (by decide) rfl ?_
    refine j_iconst 17 C (x := nI 0) dX5_next_16 rfl (by decide) ?_
    refine j_istore_n 18 C [(3, .int (nI 0)), (2, .int (-1)), (1, .int (-1)), (0, .ref (ad 0))] dX5_next_17 rfl rfl (by decide) rfl ?_
    skip
    obtain ⟨z18, ez18, hz⟩ := ap_x hz
    have L18 : ∀ (n18 i18 : Nat) (c18 : Int32 × Int32), 0 ≤ i18 → i18 < 5000 → n18 = S - i18 → lp (m_X5_next_L18 W S ns nc B σ y4) n18 i18 c18 = z18 → J p l e rm_X5_next s m args below meth c Q D A H0 6 0 0 N ad (CT K W S ns nc ad B y4.2) 18 [(0, .ref (ad 0)), (1, .int c18.1), (2, .int c18.2), (3, .int (nI i18))] [] := by
      intro n18
      induction n18 with
      | zero =>
        intro i18 c18 hl18 hi18 hn18 hz18
        refine j_iload_n 19 C dX5_next_18 rfl rfl 3 rfl ?_
        refine j_aload_n 20 C dX5_next_19 rfl rfl 0 rfl ?_
        refine k_get 23 C fl_X5_21 dX5_next_20 rfl 0 (GH_r hG (by decide)) _ rfl (CE_0 _) (.ref (ad 1)) rfl ?_
        refine s_V 26 C (As := []) cv_X5_125 (c_X2_surfaces (l := l) (D := D) (K := K) (ad := ad) hG  (hz := rfl)) dX5_next_23 rfl 1 2 (GH_r hG (by decide)) rfl (CE_1 _) rfl rfl rfl rfl rfl rfl ⟨⟨Nat.le_of_ble_eq_true rfl, Nat.le_of_ble_eq_true rfl⟩, Nat.zero_le _, Nat.zero_le _⟩ (Nat.le_of_ble_eq_true rfl) (st' := [.int (m_X2_surfaces W S ns nc B y4.2), .int (nI i18)]) rfl (fun hE => ?_)
        have ey23 : (m_X2_surfaces W S ns nc B y4.2) = nI S := rfl
        refine j_ic_ge 89 29 C dX5_next_26 rfl rfl (fun c_26 => ?_) (fun c_26 => ?_)
        · skip
          have n_26 := nat_le (a := S) (b := i18) (by simp only [ey23, nI_add, pk_mul]) rfl (by omega) (by omega) c_26
          have hq18 : c18 = z18 := hz18
          subst hq18
          refine j_iload_n 90 C dX5_next_89 rfl rfl 1 rfl ?_
          subst hz
          exact j_retI C X dX5_next_90 rfl ⟨rfl, rfl, rfl, rfl, trivial⟩
        · exfalso
          have n_26 := nat_nle (a := S) (b := i18) (by simp only [ey23, nI_add, pk_mul]) rfl (by omega) (by omega) c_26
          omega
      | succ n18 ih18 =>
        intro i18 c18 hl18 hi18 hn18 hz18
        refine j_iload_n 19 C dX5_next_18 rfl rfl 3 rfl ?_
        refine j_aload_n 20 C dX5_next_19 rfl rfl 0 rfl ?_
        refine k_get 23 C fl_X5_21 dX5_next_20 rfl 0 (GH_r hG (by decide)) _ rfl (CE_0 _) (.ref (ad 1)) rfl ?_
        refine s_V 26 C (As := []) cv_X5_125 (c_X2_surfaces (l := l) (D := D) (K := K) (ad := ad) hG  (hz := rfl)) dX5_next_23 rfl 1 2 (GH_r hG (by decide)) rfl (CE_1 _) rfl rfl rfl rfl rfl rfl ⟨⟨Nat.le_of_ble_eq_true rfl, Nat.le_of_ble_eq_true rfl⟩, Nat.zero_le _, Nat.zero_le _⟩ (Nat.le_of_ble_eq_true rfl) (st' := [.int (m_X2_surfaces W S ns nc B y4.2), .int (nI i18)]) rfl (fun hE => ?_)
        have ey23 : (m_X2_surfaces W S ns nc B y4.2) = nI S := rfl
        refine j_ic_ge 89 29 C dX5_next_26 rfl rfl (fun c_26 => ?_) (fun c_26 => ?_)
        · exfalso
          have n_26 := nat_le (a := S) (b := i18) (by simp only [ey23, nI_add, pk_mul]) rfl (by omega) (by omega) c_26
          omega
        · skip
          have n_26 := nat_nle (a := S) (b := i18) (by simp only [ey23, nI_add, pk_mul]) rfl (by omega) (by omega) c_26
          obtain ⟨w18, hw18, hz18⟩ := lp_s hz18
          have ho18 := hz
          clear hz
          have hz := hw18
          clear hw18
          unfold m_X5_next_L18 at hz
          refine j_iconst 30 C (x := nI 0) dX5_next_29 rfl (by decide) ?_
          refine j_istore 32 C [(4, .int (nI 0)), (0, .ref (ad 0)), (1, .int c18.1), (2, .int c18.2), (3, .int (nI i18))] dX5_next_30 rfl (by decide) rfl ?_
          skip
          obtain ⟨z32, ez32, hz⟩ := ap_x hz
          have L32 : ∀ (n32 i32 : Nat) (c32 : Int32 × Int32), 0 ≤ i32 → i32 < 5000 → n32 = W - i32 → lp (m_X5_next_L32 W S ns nc B σ y4 i18) n32 i32 c32 = z32 → J p l e rm_X5_next s m args below meth c Q D A H0 6 0 0 N ad (CT K W S ns nc ad B y4.2) 32 [(0, .ref (ad 0)), (1, .int c32.1), (2, .int c32.2), (3, .int (nI i18)), (4, .int (nI i32))] [] := by
            intro n32
            induction n32 with
            | zero =>
              intro i32 c32 hl32 hi32 hn32 hz32
              refine j_iload 34 C dX5_next_32 rfl 4 rfl ?_
              refine j_aload_n 35 C dX5_next_34 rfl rfl 0 rfl ?_
              refine k_get 38 C fl_X5_21 dX5_next_35 rfl 0 (GH_r hG (by decide)) _ rfl (CE_0 _) (.ref (ad 1)) rfl ?_
              refine s_V 41 C (As := []) cv_X5_139 (c_X2_columns (l := l) (D := D) (K := K) (ad := ad) hG  (hz := rfl)) dX5_next_38 rfl 1 2 (GH_r hG (by decide)) rfl (CE_1 _) rfl rfl rfl rfl rfl rfl ⟨⟨Nat.le_of_ble_eq_true rfl, Nat.le_of_ble_eq_true rfl⟩, Nat.zero_le _, Nat.zero_le _⟩ (Nat.le_of_ble_eq_true rfl) (st' := [.int (m_X2_columns W S ns nc B y4.2), .int (nI i32)]) rfl (fun hE => ?_)
              have ey38 : (m_X2_columns W S ns nc B y4.2) = nI W := rfl
              refine j_ic_ge 83 44 C dX5_next_41 rfl rfl (fun c_41 => ?_) (fun c_41 => ?_)
              · skip
                have n_41 := nat_le (a := W) (b := i32) (by simp only [ey23, ey38, nI_add, pk_mul]) rfl (by omega) (by omega) c_41
                have hq32 : c32 = z32 := hz32
                subst hq32
                refine j_iinc 86 C (x' := nI (i18 + 1)) [(3, .int (nI (i18 + 1))), (0, .ref (ad 0)), (1, .int c32.1), (2, .int c32.2), (4, .int (nI i32))] dX5_next_83 rfl 3 rfl (by rw [show Int32.ofInt 1 = nI 1 from by decide, nI_add]) (by decide) rfl ?_
                refine j_goto 18 C dX5_next_86 rfl ?_
                subst hz
                refine j_lv [1, 2, 3, 0] (lv' := [(0, .ref (ad 0)), (1, .int c32.1), (2, .int c32.2), (3, .int (nI (i18 + 1)))]) rfl ?_
                have hz := ho18
                exact ih18 (i18 + 1) (c32.1, c32.2) (by omega) (by omega) (by omega) hz18
              · exfalso
                have n_41 := nat_nle (a := W) (b := i32) (by simp only [ey23, ey38, nI_add, pk_mul]) rfl (by omega) (by omega) c_41
                omega
            | succ n32 ih32 =>
              intro i32 c32 hl32 hi32 hn32 hz32
              refine j_iload 34 C dX5_next_32 rfl 4 rfl ?_
              refine j_aload_n 35 C dX5_next_34 rfl rfl 0 rfl ?_
              refine k_get 38 C fl_X5_21 dX5_next_35 rfl 0 (GH_r hG (by decide)) _ rfl (CE_0 _) (.ref (ad 1)) rfl ?_
              refine s_V 41 C (As := []) cv_X5_139 (c_X2_columns (l := l) (D := D) (K := K) (ad := ad) hG  (hz := rfl)) dX5_next_38 rfl 1 2 (GH_r hG (by decide)) rfl (CE_1 _) rfl rfl rfl rfl rfl rfl ⟨⟨Nat.le_of_ble_eq_true rfl, Nat.le_of_ble_eq_true rfl⟩, Nat.zero_le _, Nat.zero_le _⟩ (Nat.le_of_ble_eq_true rfl) (st' := [.int (m_X2_columns W S ns nc B y4.2), .int (nI i32)]) rfl (fun hE => ?_)
              have ey38 : (m_X2_columns W S ns nc B y4.2) = nI W := rfl
              refine j_ic_ge 83 44 C dX5_next_41 rfl rfl (fun c_41 => ?_) (fun c_41 => ?_)
              · exfalso
                have n_41 := nat_le (a := W) (b := i32) (by simp only [ey23, ey38, nI_add, pk_mul]) rfl (by omega) (by omega) c_41
                omega
              · skip
                have n_41 := nat_nle (a := W) (b := i32) (by simp only [ey23, ey38, nI_add, pk_mul]) rfl (by omega) (by omega) c_41
                obtain ⟨w32, hw32, hz32⟩ := lp_s hz32
                have ho32 := hz
                clear hz
                have hz := hw32
                clear hw32
                unfold m_X5_next_L32 at hz
                refine j_aload_n 45 C dX5_next_44 rfl rfl 0 rfl ?_
                refine j_aload_n 46 C dX5_next_45 rfl rfl 0 rfl ?_
                refine k_get 49 C fl_X5_21 dX5_next_46 rfl 0 (GH_r hG (by decide)) _ rfl (CE_0 _) (.ref (ad 1)) rfl ?_
                refine j_iload_n 50 C dX5_next_49 rfl rfl 3 rfl ?_
                refine j_iload 52 C dX5_next_50 rfl 4 rfl ?_
                obtain ⟨y52, e52, hz⟩ := ap_x hz
                refine s_V 55 C (As := [.int (nI i18), .int (nI i32)]) cv_X5_110 (c_X2_placeOf (l := l) (D := D) (K := K) (ad := ad) hG  (hz := e52)) dX5_next_52 rfl 1 2 (GH_r hG (by decide)) rfl (CE_1 _) rfl rfl rfl rfl rfl rfl ⟨⟨Nat.le_of_ble_eq_true rfl, Nat.le_of_ble_eq_true rfl⟩, Nat.zero_le _, Nat.zero_le _⟩ (Nat.le_of_ble_eq_true rfl) (st' := [.int y52, .ref (ad 0)]) rfl (fun hE => ?_)
                obtain ⟨lo, hi, hlo4, hhi4, hlo, hhi⟩ := has _ e4 c_7 i18 i32 (by omega) (by omega)
                rw [← m_X2_placeOf_n (B := B) (σ := y4.2) (ns := ns) (nc := nc) (S := S) rfl rfl, e52] at hlo hhi
                obtain ⟨y55, e55, hz⟩ := ap_x hz
                refine s_V 58 C (As := [.int y52]) cv_X5_135 (c_X5_gain (l := l) (D := D) (K := K) (ad := ad) hG (hlo4 := hlo4) (hhi4 := hhi4) (hlo := hlo) (hhi := hhi) (hz := e55)) dX5_next_55 rfl 0 5 (GH_r hG (by decide)) rfl (CE_0 _) rfl rfl rfl rfl rfl rfl ⟨⟨Nat.le_of_ble_eq_true rfl, Nat.le_of_ble_eq_true rfl⟩, Nat.zero_le _, Nat.zero_le _⟩ (Nat.le_of_ble_eq_true rfl) (st' := [.int y55]) rfl (fun hE => ?_)
                refine j_istore 60 C [(5, .int y55), (0, .ref (ad 0)), (1, .int c32.1), (2, .int c32.2), (3, .int (nI i18)), (4, .int (nI i32))] dX5_next_58 rfl (by decide) rfl ?_
                refine j_iload 62 C dX5_next_60 rfl 0 rfl ?_
                refine j_iload_n 63 C dX5_next_62 rfl rfl 3 rfl ?_
                refine j_ic_le 77 66 C dX5_next_63 rfl rfl (fun c_63 => ?_) (fun c_63 => ?_)
                · replace hz := (if_pos c_63).symm.trans hz
                  refine j_iinc 80 C (x' := nI (i32 + 1)) [(4, .int (nI (i32 + 1))), (5, .int y55), (0, .ref (ad 0)), (1, .int c32.1), (2, .int c32.2), (3, .int (nI i18))] dX5_next_77 rfl 5 rfl (by rw [show Int32.ofInt 1 = nI 1 from by decide, nI_add]) (by decide) rfl ?_
                  refine j_goto 32 C dX5_next_80 rfl ?_
                  subst hz
                  refine j_lv [2, 3, 4, 5, 0] (lv' := [(0, .ref (ad 0)), (1, .int c32.1), (2, .int c32.2), (3, .int (nI i18)), (4, .int (nI (i32 + 1)))]) rfl ?_
                  have hz := ho32
                  exact ih32 (i32 + 1) (c32.1, c32.2) (by omega) (by omega) (by omega) hz32
                · replace hz := (if_neg c_63).symm.trans hz
                  refine j_iload 68 C dX5_next_66 rfl 0 rfl ?_
                  refine j_istore_n 69 C [(2, .int y55), (5, .int y55), (0, .ref (ad 0)), (1, .int c32.1), (3, .int (nI i18)), (4, .int (nI i32))] dX5_next_68 rfl rfl (by decide) rfl ?_
                  refine j_iload_n 70 C dX5_next_69 rfl rfl 4 rfl ?_
                  refine j_bipush 72 C (x := nI 10) dX5_next_70 rfl (by decide) ?_
                  refine j_imul 73 C dX5_next_72 rfl rfl ?_
                  refine j_iload 75 C dX5_next_73 rfl 5 rfl ?_
                  refine j_iadd 76 C dX5_next_75 rfl rfl ?_
                  refine j_istore_n 77 C [(1, .int (((nI i18) * (nI 10)) + (nI i32))), (2, .int y55), (5, .int y55), (0, .ref (ad 0)), (3, .int (nI i18)), (4, .int (nI i32))] dX5_next_76 rfl rfl (by decide) rfl ?_
                  refine j_iinc 80 C (x' := nI (i32 + 1)) [(4, .int (nI (i32 + 1))), (1, .int (((nI i18) * (nI 10)) + (nI i32))), (2, .int y55), (5, .int y55), (0, .ref (ad 0)), (3, .int (nI i18))] dX5_next_77 rfl 5 rfl (by rw [show Int32.ofInt 1 = nI 1 from by decide, nI_add]) (by decide) rfl ?_
                  refine j_goto 32 C dX5_next_80 rfl ?_
                  subst hz
                  refine j_lv [4, 1, 2, 5, 0] (lv' := [(0, .ref (ad 0)), (1, .int (((nI i18) * (nI 10)) + (nI i32))), (2, .int y55), (3, .int (nI i18)), (4, .int (nI (i32 + 1)))]) rfl ?_
                  have hz := ho32
                  exact ih32 (i32 + 1) (((nI i18) * (nI 10)) + (nI i32), y55) (by omega) (by omega) (by omega) hz32
          refine j_lv [1, 2, 3, 4, 0] (lv' := [(0, .ref (ad 0)), (1, .int c18.1), (2, .int c18.2), (3, .int (nI i18)), (4, .int (nI 0))]) rfl ?_
          exact L32 _ 0 (c18.1, c18.2) (by omega) (by omega) rfl ez32
    refine j_lv [3, 2, 1, 0] (lv' := [(0, .ref (ad 0)), (1, .int (-1)), (2, .int (-1)), (3, .int (nI 0))]) rfl ?_
    exact L18 _ 0 ((-1), (-1)) (by omega) (by omega) rfl ez18
  · replace hz := (if_pos c_7).symm.trans hz
    refine j_iconst 11 C (x := (-1)) dX5_next_10 rfl (by decide) ?_
    subst hz
    exact j_retI C X dX5_next_11 rfl ⟨rfl, rfl, rfl, rfl, trivial⟩
def m_X5_bend_L37 (W S ns nc : Nat) (B : Nat → Option Nat) (σ : Nat → Nat → Int32) (what : Int32) (y11 : Int32 × (Nat → Nat → Int32)) (i23 : Nat) (i37 : Nat) (c37 : Int32) : Int32 := ap (m_X2_placeOf W S ns nc B y11.2 (nI i23) (nI i37)) (fun (y59 : Int32) => ap (m_X5_end W S ns nc B y11.2 y59 what) (fun (y63 : Int32) => ap (m_X2_placeOf W S ns nc B y11.2 (nI i23) ((nI i37) - (nI 1))) (fun (y78 : Int32) => ap (m_X5_end W S ns nc B y11.2 y78 what) (fun (y82 : Int32) => ap (m_X2_placeOf W S ns nc B y11.2 (nI i23) ((nI i37) + (nI 1))) (fun (y97 : Int32) => ap (m_X5_end W S ns nc B y11.2 y97 what) (fun (y101 : Int32) => ap (c37 + (if 0 ≤ ((((nI 2) * y63) - y82) - y101) then ((((nI 2) * y63) - y82) - y101) else 0 - ((((nI 2) * y63) - y82) - y101))) (fun (x121 : Int32) => x121)))))))
def m_X5_bend_L23 (W S ns nc : Nat) (B : Nat → Option Nat) (σ : Nat → Nat → Int32) (what : Int32) (y11 : Int32 × (Nat → Nat → Int32)) (i23 : Nat) (c23 : Int32) : Int32 := ap (lp (m_X5_bend_L37 W S ns nc B σ what y11 i23) (W - (1 + 1)) 1 c23) (fun (z37 : Int32) => z37)
def m_X5_bend (W S ns nc : Nat) (B : Nat → Option Nat) (σ : Nat → Nat → Int32) (what : Int32) : Int32 × (Nat → Nat → Int32) := ap (m_X5_isEnd W S ns nc B σ what) (fun (y1 : Int32) => (if y1 = 0 then ((-1), σ) else ap (m_X0_areSome W S ns nc B σ) (fun (y11 : Int32 × (Nat → Nat → Int32)) => (if y11.1 = 0 then ((-1), y11.2) else ap (lp (m_X5_bend_L23 W S ns nc B σ what y11) (S - 0) 0 (nI 0)) (fun (z23 : Int32) => (z23, y11.2))))))
abbrev rm_X5_bend : Room := { frames := 18, cells := 0, slots := 0, locals := 540 }
set_option maxHeartbeats 4000000 in
set_option maxRecDepth 100000 in
theorem c_X5_bend {l : Launch} {D : va_G} {K : Nat → ClassId} {W S ns nc N : Nat} {ad : Nat → Nat} {B : Nat → Option Nat} {σ : Nat → Nat → Int32} (hG : GH W S ns nc N) {what : Int32}  {z : Int32 × (Nat → Nat → Int32)} (hz : m_X5_bend W S ns nc B σ what = z) (hB : BOK B N) (hb7 : bl (σ 9 7)) : MC l yX5_bend cX5_bend 8 (some .int) rm_X5_bend D (TY K) N ad (CT K W S ns nc ad B σ) [.ref (ad 0), .int what] (BS (some (.int z.1)) N ad (CT K W S ns nc ad B z.2) True) := by
  have hW := hG.1; have hW8 := hG.2.1; have hS := hG.2.2.1; have hS4 := hG.2.2.2.1; have hns := hG.2.2.2.2.1; have hnc := hG.2.2.2.2.2.1; have hWS := GH_ws hG
  refine MC.of (by decide) (Nat.le_of_ble_eq_true rfl) (fun p e s m args below meth c Q A H0 C X => ?_)
  replace C : Cx p s m args meth c cX5_bend RX5 8 D (TY K) A H0 := C
  show J p l e rm_X5_bend s m args below meth c Q D A H0 8 0 0 N ad (CT K W S ns nc ad B σ) 0 [(0, .ref (ad 0)), (1, .int what)] []
  unfold m_X5_bend at hz
  refine j_iload_n 1 C dX5_bend_0 rfl rfl 1 rfl ?_
  obtain ⟨y1, e1, hz⟩ := ap_x hz
  refine s_S 4 C (As := [.int what]) cs_X5_107 (c_X5_isEnd (l := l) (D := D) (K := K) (ad := ad) hG  (hz := e1)) dX5_bend_1 rfl rfl rfl rfl rfl ⟨⟨Nat.le_of_ble_eq_true rfl, Nat.le_of_ble_eq_true rfl⟩, Nat.zero_le _, Nat.zero_le _⟩ (Nat.le_of_ble_eq_true rfl) (st' := [.int y1]) rfl (fun hE => ?_)
  have hbl1 : bl y1 := hE
  refine j_if_eq 17 7 C dX5_bend_4 rfl rfl (fun c_4 => ?_) (fun c_4 => ?_)
  · replace hz := (if_pos c_4).symm.trans hz
    refine j_iconst 18 C (x := (-1)) dX5_bend_17 rfl (by decide) ?_
    subst hz
    exact j_retI C X dX5_bend_18 rfl ⟨rfl, rfl, rfl, rfl, trivial⟩
  · replace hz := (if_neg c_4).symm.trans hz
    refine j_aload_n 8 C dX5_bend_7 rfl rfl 0 rfl ?_
    refine k_get 11 C fl_X5_39 dX5_bend_8 rfl 0 (GH_r hG (by decide)) _ rfl (CE_0 _) (.ref (ad 9)) rfl ?_
    obtain ⟨y11, e11, hz⟩ := ap_x hz
    refine s_V 14 C (As := []) cv_X5_99 (c_X0_areSome (l := l) (D := D) (K := K) (ad := ad) hG (hB := hB) (hb7 := hb7) (hz := e11)) dX5_bend_11 rfl 9 0 (GH_r hG (by decide)) rfl (CE_9 _) rfl rfl rfl rfl rfl rfl ⟨⟨Nat.le_of_ble_eq_true rfl, Nat.le_of_ble_eq_true rfl⟩, Nat.zero_le _, Nat.zero_le _⟩ (Nat.le_of_ble_eq_true rfl) (st' := [.int y11.1]) rfl (fun hE => ?_)
    have hbl11 : bl y11.1 := hE
    refine j_if_ne 19 17 C dX5_bend_14 rfl rfl (fun c_14 => ?_) (fun c_14 => ?_)
    · replace hz := (if_neg c_14).symm.trans hz
      refine j_iconst 20 C (x := nI 0) dX5_bend_19 rfl (by decide) ?_
      refine j_istore_n 21 C [(2, .int (nI 0)), (0, .ref (ad 0)), (1, .int what)] dX5_bend_20 rfl rfl (by decide) rfl ?_
      refine j_iconst 22 C (x := nI 0) dX5_bend_21 rfl (by decide) ?_
      refine j_istore_n 23 C [(3, .int (nI 0)), (2, .int (nI 0)), (0, .ref (ad 0)), (1, .int what)] dX5_bend_22 rfl rfl (by decide) rfl ?_
      skip
      obtain ⟨z23, ez23, hz⟩ := ap_x hz
      have L23 : ∀ (n23 i23 : Nat) (c23 : Int32), 0 ≤ i23 → i23 < 5000 → n23 = S - i23 → lp (m_X5_bend_L23 W S ns nc B σ what y11) n23 i23 c23 = z23 → J p l e rm_X5_bend s m args below meth c Q D A H0 8 0 0 N ad (CT K W S ns nc ad B y11.2) 23 [(0, .ref (ad 0)), (1, .int what), (2, .int c23), (3, .int (nI i23))] [] := by
        intro n23
        induction n23 with
        | zero =>
          intro i23 c23 hl23 hi23 hn23 hz23
          refine j_iload_n 24 C dX5_bend_23 rfl rfl 3 rfl ?_
          refine j_aload_n 25 C dX5_bend_24 rfl rfl 0 rfl ?_
          refine k_get 28 C fl_X5_21 dX5_bend_25 rfl 0 (GH_r hG (by decide)) _ rfl (CE_0 _) (.ref (ad 1)) rfl ?_
          refine s_V 31 C (As := []) cv_X5_125 (c_X2_surfaces (l := l) (D := D) (K := K) (ad := ad) hG  (hz := rfl)) dX5_bend_28 rfl 1 2 (GH_r hG (by decide)) rfl (CE_1 _) rfl rfl rfl rfl rfl rfl ⟨⟨Nat.le_of_ble_eq_true rfl, Nat.le_of_ble_eq_true rfl⟩, Nat.zero_le _, Nat.zero_le _⟩ (Nat.le_of_ble_eq_true rfl) (st' := [.int (m_X2_surfaces W S ns nc B y11.2), .int (nI i23)]) rfl (fun hE => ?_)
          have ey28 : (m_X2_surfaces W S ns nc B y11.2) = nI S := rfl
          refine j_ic_ge 134 34 C dX5_bend_31 rfl rfl (fun c_31 => ?_) (fun c_31 => ?_)
          · skip
            have n_31 := nat_le (a := S) (b := i23) (by simp only [ey28, nI_add, pk_mul]) rfl (by omega) (by omega) c_31
            have hq23 : c23 = z23 := hz23
            subst hq23
            refine j_iload_n 135 C dX5_bend_134 rfl rfl 2 rfl ?_
            subst hz
            exact j_retI C X dX5_bend_135 rfl ⟨rfl, rfl, rfl, rfl, trivial⟩
          · exfalso
            have n_31 := nat_nle (a := S) (b := i23) (by simp only [ey28, nI_add, pk_mul]) rfl (by omega) (by omega) c_31
            omega
        | succ n23 ih23 =>
          intro i23 c23 hl23 hi23 hn23 hz23
          refine j_iload_n 24 C dX5_bend_23 rfl rfl 3 rfl ?_
          refine j_aload_n 25 C dX5_bend_24 rfl rfl 0 rfl ?_
          refine k_get 28 C fl_X5_21 dX5_bend_25 rfl 0 (GH_r hG (by decide)) _ rfl (CE_0 _) (.ref (ad 1)) rfl ?_
          refine s_V 31 C (As := []) cv_X5_125 (c_X2_surfaces (l := l) (D := D) (K := K) (ad := ad) hG  (hz := rfl)) dX5_bend_28 rfl 1 2 (GH_r hG (by decide)) rfl (CE_1 _) rfl rfl rfl rfl rfl rfl ⟨⟨Nat.le_of_ble_eq_true rfl, Nat.le_of_ble_eq_true rfl⟩, Nat.zero_le _, Nat.zero_le _⟩ (Nat.le_of_ble_eq_true rfl) (st' := [.int (m_X2_surfaces W S ns nc B y11.2), .int (nI i23)]) rfl (fun hE => ?_)
          have ey28 : (m_X2_surfaces W S ns nc B y11.2) = nI S := rfl
          refine j_ic_ge 134 34 C dX5_bend_31 rfl rfl (fun c_31 => ?_) (fun c_31 => ?_)
          · exfalso
            have n_31 := nat_le (a := S) (b := i23) (by simp only [ey28, nI_add, pk_mul]) rfl (by omega) (by omega) c_31
            omega
          · skip
            have n_31 := nat_nle (a := S) (b := i23) (by simp only [ey28, nI_add, pk_mul]) rfl (by omega) (by omega) c_31
            obtain ⟨w23, hw23, hz23⟩ := lp_s hz23
            have ho23 := hz
            clear hz
            have hz := hw23
            clear hw23
            unfold m_X5_bend_L23 at hz
            refine j_iconst 35 C (x := nI 1) dX5_bend_34 rfl (by decide) ?_
            refine j_istore 37 C [(4, .int (nI 1)), (0, .ref (ad 0)), (1, .int what), (2, .int c23), (3, .int (nI i23))] dX5_bend_35 rfl (by decide) rfl ?_
            skip
            obtain ⟨z37, ez37, hz⟩ := ap_x hz
            have L37 : ∀ (n37 i37 : Nat) (c37 : Int32), 1 ≤ i37 → i37 < 5000 → n37 = W - (i37 + 1) → lp (m_X5_bend_L37 W S ns nc B σ what y11 i23) n37 i37 c37 = z37 → J p l e rm_X5_bend s m args below meth c Q D A H0 8 0 0 N ad (CT K W S ns nc ad B y11.2) 37 [(0, .ref (ad 0)), (1, .int what), (2, .int c37), (3, .int (nI i23)), (4, .int (nI i37))] [] := by
              intro n37
              induction n37 with
              | zero =>
                intro i37 c37 hl37 hi37 hn37 hz37
                refine j_iload 39 C dX5_bend_37 rfl 4 rfl ?_
                refine j_iconst 40 C (x := nI 1) dX5_bend_39 rfl (by decide) ?_
                refine j_iadd 41 C dX5_bend_40 rfl rfl ?_
                refine j_aload_n 42 C dX5_bend_41 rfl rfl 0 rfl ?_
                refine k_get 45 C fl_X5_21 dX5_bend_42 rfl 0 (GH_r hG (by decide)) _ rfl (CE_0 _) (.ref (ad 1)) rfl ?_
                refine s_V 48 C (As := []) cv_X5_139 (c_X2_columns (l := l) (D := D) (K := K) (ad := ad) hG  (hz := rfl)) dX5_bend_45 rfl 1 2 (GH_r hG (by decide)) rfl (CE_1 _) rfl rfl rfl rfl rfl rfl ⟨⟨Nat.le_of_ble_eq_true rfl, Nat.le_of_ble_eq_true rfl⟩, Nat.zero_le _, Nat.zero_le _⟩ (Nat.le_of_ble_eq_true rfl) (st' := [.int (m_X2_columns W S ns nc B y11.2), .int ((nI i37) + (nI 1))]) rfl (fun hE => ?_)
                have ey45 : (m_X2_columns W S ns nc B y11.2) = nI W := rfl
                refine j_ic_ge 128 51 C dX5_bend_48 rfl rfl (fun c_48 => ?_) (fun c_48 => ?_)
                · skip
                  have n_48 := nat_le (a := W) (b := (i37 + 1)) (by simp only [ey28, ey45, nI_add, pk_mul]) (by simp only [ey28, ey45, nI_add, pk_mul]) (by omega) (by omega) c_48
                  have hq37 : c37 = z37 := hz37
                  subst hq37
                  refine j_iinc 131 C (x' := nI (i23 + 1)) [(3, .int (nI (i23 + 1))), (0, .ref (ad 0)), (1, .int what), (2, .int c37), (4, .int (nI i37))] dX5_bend_128 rfl 3 rfl (by rw [show Int32.ofInt 1 = nI 1 from by decide, nI_add]) (by decide) rfl ?_
                  refine j_goto 23 C dX5_bend_131 rfl ?_
                  subst hz
                  refine j_lv [1, 2, 3, 0] (lv' := [(0, .ref (ad 0)), (1, .int what), (2, .int c37), (3, .int (nI (i23 + 1)))]) rfl ?_
                  have hz := ho23
                  exact ih23 (i23 + 1) c37 (by omega) (by omega) (by omega) hz23
                · exfalso
                  have n_48 := nat_nle (a := W) (b := (i37 + 1)) (by simp only [ey28, ey45, nI_add, pk_mul]) (by simp only [ey28, ey45, nI_add, pk_mul]) (by omega) (by omega) c_48
                  omega
              | succ n37 ih37 =>
                intro i37 c37 hl37 hi37 hn37 hz37
                refine j_iload 39 C dX5_bend_37 rfl 4 rfl ?_
                refine j_iconst 40 C (x := nI 1) dX5_bend_39 rfl (by decide) ?_
                refine j_iadd 41 C dX5_bend_40 rfl rfl ?_
                refine j_aload_n 42 C dX5_bend_41 rfl rfl 0 rfl ?_
                refine k_get 45 C fl_X5_21 dX5_bend_42 rfl 0 (GH_r hG (by decide)) _ rfl (CE_0 _) (.ref (ad 1)) rfl ?_
                refine s_V 48 C (As := []) cv_X5_139 (c_X2_columns (l := l) (D := D) (K := K) (ad := ad) hG  (hz := rfl)) dX5_bend_45 rfl 1 2 (GH_r hG (by decide)) rfl (CE_1 _) rfl rfl rfl rfl rfl rfl ⟨⟨Nat.le_of_ble_eq_true rfl, Nat.le_of_ble_eq_true rfl⟩, Nat.zero_le _, Nat.zero_le _⟩ (Nat.le_of_ble_eq_true rfl) (st' := [.int (m_X2_columns W S ns nc B y11.2), .int ((nI i37) + (nI 1))]) rfl (fun hE => ?_)
                have ey45 : (m_X2_columns W S ns nc B y11.2) = nI W := rfl
                refine j_ic_ge 128 51 C dX5_bend_48 rfl rfl (fun c_48 => ?_) (fun c_48 => ?_)
                · exfalso
                  have n_48 := nat_le (a := W) (b := (i37 + 1)) (by simp only [ey28, ey45, nI_add, pk_mul]) (by simp only [ey28, ey45, nI_add, pk_mul]) (by omega) (by omega) c_48
                  omega
                · skip
                  have n_48 := nat_nle (a := W) (b := (i37 + 1)) (by simp only [ey28, ey45, nI_add, pk_mul]) (by simp only [ey28, ey45, nI_add, pk_mul]) (by omega) (by omega) c_48
                  obtain ⟨w37, hw37, hz37⟩ := lp_s hz37
                  have ho37 := hz
                  clear hz
                  have hz := hw37
                  clear hw37
                  unfold m_X5_bend_L37 at hz
                  refine j_aload_n 52 C dX5_bend_51 rfl rfl 0 rfl ?_
                  refine j_aload_n 53 C dX5_bend_52 rfl rfl 0 rfl ?_
                  refine k_get 56 C fl_X5_21 dX5_bend_53 rfl 0 (GH_r hG (by decide)) _ rfl (CE_0 _) (.ref (ad 1)) rfl ?_
                  refine j_iload_n 57 C dX5_bend_56 rfl rfl 3 rfl ?_
                  refine j_iload 59 C dX5_bend_57 rfl 4 rfl ?_
                  obtain ⟨y59, e59, hz⟩ := ap_x hz
                  refine s_V 62 C (As := [.int (nI i23), .int (nI i37)]) cv_X5_110 (c_X2_placeOf (l := l) (D := D) (K := K) (ad := ad) hG  (hz := e59)) dX5_bend_59 rfl 1 2 (GH_r hG (by decide)) rfl (CE_1 _) rfl rfl rfl rfl rfl rfl ⟨⟨Nat.le_of_ble_eq_true rfl, Nat.le_of_ble_eq_true rfl⟩, Nat.zero_le _, Nat.zero_le _⟩ (Nat.le_of_ble_eq_true rfl) (st' := [.int y59, .ref (ad 0)]) rfl (fun hE => ?_)
                  refine j_iload_n 63 C dX5_bend_62 rfl rfl 1 rfl ?_
                  obtain ⟨y63, e63, hz⟩ := ap_x hz
                  refine s_V 66 C (As := [.int y59, .int what]) cv_X5_113 (c_X5_end (l := l) (D := D) (K := K) (ad := ad) hG  (hz := e63)) dX5_bend_63 rfl 0 5 (GH_r hG (by decide)) rfl (CE_0 _) rfl rfl rfl rfl rfl rfl ⟨⟨Nat.le_of_ble_eq_true rfl, Nat.le_of_ble_eq_true rfl⟩, Nat.zero_le _, Nat.zero_le _⟩ (Nat.le_of_ble_eq_true rfl) (st' := [.int y63]) rfl (fun hE => ?_)
                  refine j_istore 68 C [(5, .int y63), (0, .ref (ad 0)), (1, .int what), (2, .int c37), (3, .int (nI i23)), (4, .int (nI i37))] dX5_bend_66 rfl (by decide) rfl ?_
                  refine j_aload_n 69 C dX5_bend_68 rfl rfl 1 rfl ?_
                  refine j_aload_n 70 C dX5_bend_69 rfl rfl 1 rfl ?_
                  refine k_get 73 C fl_X5_21 dX5_bend_70 rfl 0 (GH_r hG (by decide)) _ rfl (CE_0 _) (.ref (ad 1)) rfl ?_
                  refine j_iload_n 74 C dX5_bend_73 rfl rfl 4 rfl ?_
                  refine j_iload 76 C dX5_bend_74 rfl 5 rfl ?_
                  refine j_iconst 77 C (x := nI 1) dX5_bend_76 rfl (by decide) ?_
                  refine j_isub 78 C dX5_bend_77 rfl rfl ?_
                  obtain ⟨y78, e78, hz⟩ := ap_x hz
                  refine s_V 81 C (As := [.int (nI i23), .int ((nI i37) - (nI 1))]) cv_X5_110 (c_X2_placeOf (l := l) (D := D) (K := K) (ad := ad) hG  (hz := e78)) dX5_bend_78 rfl 1 2 (GH_r hG (by decide)) rfl (CE_1 _) rfl rfl rfl rfl rfl rfl ⟨⟨Nat.le_of_ble_eq_true rfl, Nat.le_of_ble_eq_true rfl⟩, Nat.zero_le _, Nat.zero_le _⟩ (Nat.le_of_ble_eq_true rfl) (st' := [.int y78, .ref (ad 0)]) rfl (fun hE => ?_)
                  refine j_iload_n 82 C dX5_bend_81 rfl rfl 2 rfl ?_
                  obtain ⟨y82, e82, hz⟩ := ap_x hz
                  refine s_V 85 C (As := [.int y78, .int what]) cv_X5_113 (c_X5_end (l := l) (D := D) (K := K) (ad := ad) hG  (hz := e82)) dX5_bend_82 rfl 0 5 (GH_r hG (by decide)) rfl (CE_0 _) rfl rfl rfl rfl rfl rfl ⟨⟨Nat.le_of_ble_eq_true rfl, Nat.le_of_ble_eq_true rfl⟩, Nat.zero_le _, Nat.zero_le _⟩ (Nat.le_of_ble_eq_true rfl) (st' := [.int y82]) rfl (fun hE => ?_)
                  refine j_istore 87 C [(6, .int y82), (5, .int y63), (0, .ref (ad 0)), (1, .int what), (2, .int c37), (3, .int (nI i23)), (4, .int (nI i37))] dX5_bend_85 rfl (by decide) rfl ?_
                  refine j_aload_n 88 C dX5_bend_87 rfl rfl 2 rfl ?_
                  refine j_aload_n 89 C dX5_bend_88 rfl rfl 2 rfl ?_
                  refine k_get 92 C fl_X5_21 dX5_bend_89 rfl 0 (GH_r hG (by decide)) _ rfl (CE_0 _) (.ref (ad 1)) rfl ?_
                  refine j_iload_n 93 C dX5_bend_92 rfl rfl 5 rfl ?_
                  refine j_iload 95 C dX5_bend_93 rfl 6 rfl ?_
                  refine j_iconst 96 C (x := nI 1) dX5_bend_95 rfl (by decide) ?_
                  refine j_iadd 97 C dX5_bend_96 rfl rfl ?_
                  obtain ⟨y97, e97, hz⟩ := ap_x hz
                  refine s_V 100 C (As := [.int (nI i23), .int ((nI i37) + (nI 1))]) cv_X5_110 (c_X2_placeOf (l := l) (D := D) (K := K) (ad := ad) hG  (hz := e97)) dX5_bend_97 rfl 1 2 (GH_r hG (by decide)) rfl (CE_1 _) rfl rfl rfl rfl rfl rfl ⟨⟨Nat.le_of_ble_eq_true rfl, Nat.le_of_ble_eq_true rfl⟩, Nat.zero_le _, Nat.zero_le _⟩ (Nat.le_of_ble_eq_true rfl) (st' := [.int y97, .ref (ad 0)]) rfl (fun hE => ?_)
                  refine j_iload_n 101 C dX5_bend_100 rfl rfl 3 rfl ?_
                  obtain ⟨y101, e101, hz⟩ := ap_x hz
                  refine s_V 104 C (As := [.int y97, .int what]) cv_X5_113 (c_X5_end (l := l) (D := D) (K := K) (ad := ad) hG  (hz := e101)) dX5_bend_101 rfl 0 5 (GH_r hG (by decide)) rfl (CE_0 _) rfl rfl rfl rfl rfl rfl ⟨⟨Nat.le_of_ble_eq_true rfl, Nat.le_of_ble_eq_true rfl⟩, Nat.zero_le _, Nat.zero_le _⟩ (Nat.le_of_ble_eq_true rfl) (st' := [.int y101]) rfl (fun hE => ?_)
                  refine j_istore 106 C [(7, .int y101), (6, .int y82), (5, .int y63), (0, .ref (ad 0)), (1, .int what), (2, .int c37), (3, .int (nI i23)), (4, .int (nI i37))] dX5_bend_104 rfl (by decide) rfl ?_
                  refine j_iload_n 107 C dX5_bend_106 rfl rfl 5 rfl ?_
                  refine j_iconst 108 C (x := nI 2) dX5_bend_107 rfl (by decide) ?_
                  refine j_iload 110 C dX5_bend_108 rfl 2 rfl ?_
                  refine j_imul 111 C dX5_bend_110 rfl rfl ?_
                  refine j_iload 113 C dX5_bend_111 rfl 1 rfl ?_
                  refine j_isub 114 C dX5_bend_113 rfl rfl ?_
                  refine j_iload 116 C dX5_bend_114 rfl 0 rfl ?_
                  refine j_isub 117 C dX5_bend_116 rfl rfl ?_
                  refine j_mabs 120 C wl_X5_142 rfl dX5_bend_117 rfl (Nat.le_of_ble_eq_true rfl) (Nat.le_of_ble_eq_true rfl) (Nat.zero_le _) (Nat.zero_le _) ?_
                  refine j_iadd 121 C dX5_bend_120 rfl rfl ?_
                  obtain ⟨x121, e121, hz⟩ := ap_x hz
                  refine j_st (st' := [.int x121]) (by rw [← e121]) ?_
                  refine j_istore_n 122 C [(2, .int x121), (7, .int y101), (6, .int y82), (5, .int y63), (0, .ref (ad 0)), (1, .int what), (3, .int (nI i23)), (4, .int (nI i37))] dX5_bend_121 rfl rfl (by decide) rfl ?_
                  refine j_iinc 125 C (x' := nI (i37 + 1)) [(4, .int (nI (i37 + 1))), (2, .int x121), (7, .int y101), (6, .int y82), (5, .int y63), (0, .ref (ad 0)), (1, .int what), (3, .int (nI i23))] dX5_bend_122 rfl 7 rfl (by rw [show Int32.ofInt 1 = nI 1 from by decide, nI_add]) (by decide) rfl ?_
                  refine j_goto 37 C dX5_bend_125 rfl ?_
                  subst hz
                  refine j_lv [5, 6, 1, 7, 0] (lv' := [(0, .ref (ad 0)), (1, .int what), (2, .int x121), (3, .int (nI i23)), (4, .int (nI (i37 + 1)))]) rfl ?_
                  have hz := ho37
                  exact ih37 (i37 + 1) x121 (by omega) (by omega) (by omega) hz37
            refine j_lv [1, 2, 3, 4, 0] (lv' := [(0, .ref (ad 0)), (1, .int what), (2, .int c23), (3, .int (nI i23)), (4, .int (nI 1))]) rfl ?_
            exact L37 _ 1 c23 (by omega) (by omega) rfl ez37
      refine j_lv [2, 3, 1, 0] (lv' := [(0, .ref (ad 0)), (1, .int what), (2, .int (nI 0)), (3, .int (nI 0))]) rfl ?_
      exact L23 _ 0 (nI 0) (by omega) (by omega) rfl ez23
    · replace hz := (if_pos c_14).symm.trans hz
      refine j_iconst 18 C (x := (-1)) dX5_bend_17 rfl (by decide) ?_
      subst hz
      exact j_retI C X dX5_bend_18 rfl ⟨rfl, rfl, rfl, rfl, trivial⟩
def m_X5_told (W S ns nc : Nat) (B : Nat → Option Nat) (σ : Nat → Nat → Int32) (sight : Int32) (what : Int32) : Int32 × (Nat → Nat → Int32) := ap (m_X4_at W S ns nc B σ sight) (fun (y5 : Option Nat) => (Option.elim y5 ((-2147483648), σ) (fun (q10 : Nat) => (if what = nI 0 then ap (m_X3_surface W S ns nc B σ q10) (fun (y57 : Int32) => (y57, σ)) else (if what = nI 1 then ap (m_X3_column W S ns nc B σ q10) (fun (y62 : Int32) => (y62, σ)) else (if what = nI 2 then ap (m_X3_kind W S ns nc B σ q10) (fun (y67 : Int32) => (y67, σ)) else (if what = nI 3 then ap (m_X3_z W S ns nc B σ q10) (fun (y72 : Int32) => (y72, σ)) else (if what = nI 4 then ap (m_X3_miss W S ns nc B σ q10) (fun (y77 : Int32) => (y77, σ)) else (if what = nI 5 then ap (m_X0_areSome W S ns nc B σ) (fun (y85 : Int32 × (Nat → Nat → Int32)) => (if y85.1 = 0 then ((-2147483648), y85.2) else ap (m_X0_leftOut W S ns nc B y85.2) (fun (y95 : Int32) => ((y95 >>> (sight &&& 31)) &&& (nI 1), y85.2)))) else ((-2147483648), σ))))))))))
abbrev rm_X5_told : Room := { frames := 18, cells := 0, slots := 0, locals := 540 }
set_option maxHeartbeats 4000000 in
set_option maxRecDepth 100000 in
theorem c_X5_told {l : Launch} {D : va_G} {K : Nat → ClassId} {W S ns nc N : Nat} {ad : Nat → Nat} {B : Nat → Option Nat} {σ : Nat → Nat → Int32} (hG : GH W S ns nc N) {sight : Int32} {what : Int32}  {z : Int32 × (Nat → Nat → Int32)} (hz : m_X5_told W S ns nc B σ sight what = z) (hB : BOK B N) (hb7 : bl (σ 9 7)) : MC l yX5_told cX5_told 4 (some .int) rm_X5_told D (TY K) N ad (CT K W S ns nc ad B σ) [.ref (ad 0), .int sight, .int what] (BS (some (.int z.1)) N ad (CT K W S ns nc ad B z.2) True) := by
  have hW := hG.1; have hW8 := hG.2.1; have hS := hG.2.2.1; have hS4 := hG.2.2.2.1; have hns := hG.2.2.2.2.1; have hnc := hG.2.2.2.2.2.1; have hWS := GH_ws hG
  refine MC.of (by decide) (Nat.le_of_ble_eq_true rfl) (fun p e s m args below meth c Q A H0 C X => ?_)
  replace C : Cx p s m args meth c cX5_told RX5 4 D (TY K) A H0 := C
  show J p l e rm_X5_told s m args below meth c Q D A H0 4 0 0 N ad (CT K W S ns nc ad B σ) 0 [(0, .ref (ad 0)), (1, .int sight), (2, .int what)] []
  unfold m_X5_told at hz
  refine j_aload_n 1 C dX5_told_0 rfl rfl 0 rfl ?_
  refine k_get 4 C fl_X5_30 dX5_told_1 rfl 0 (GH_r hG (by decide)) _ rfl (CE_0 _) (.ref (ad 7)) rfl ?_
  refine j_iload_n 5 C dX5_told_4 rfl rfl 1 rfl ?_
  obtain ⟨y5, e5, hz⟩ := ap_x hz
  refine s_V 8 C (As := [.int sight]) cv_X5_145 (c_X4_at (l := l) (D := D) (K := K) (ad := ad) hG  (hz := e5)) dX5_told_5 rfl 7 4 (GH_r hG (by decide)) rfl (CE_7 _) rfl rfl rfl rfl rfl rfl ⟨⟨Nat.le_of_ble_eq_true rfl, Nat.le_of_ble_eq_true rfl⟩, Nat.zero_le _, Nat.zero_le _⟩ (Nat.le_of_ble_eq_true rfl) (st' := [va_rf (y5.map ad)]) rfl (fun hE => ?_)
  refine j_astore_no 9 C [(3, va_rf (y5.map ad)), (0, .ref (ad 0)), (1, .int sight), (2, .int what)] dX5_told_8 rfl rfl (by decide) rfl ?_
  refine j_aload_no 10 C dX5_told_9 rfl rfl 0 rfl ?_
  refine j_ifnonnull 16 13 C dX5_told_10 rfl rfl (fun a_10 c_10 => ?_) (fun c_10 => ?_)
  · skip
    obtain ⟨q10, c_10⟩ := om_s c_10
    replace hz := oe_s c_10 hz
    obtain ⟨hq_q10, hN_q10⟩ := at_q hB e5 c_10
    rw [c_10]
    refine j_lv [0, 1, 2, 3] (lv' := [(3, .ref (ad q10)), (0, .ref (ad 0)), (1, .int sight), (2, .int what)]) rfl ?_
    refine j_iload_n 17 C dX5_told_16 rfl rfl 3 rfl ?_
    rcases Classical.em (what = nI 0) with c_1700 | c_1700
    · replace hz := (if_pos c_1700).symm.trans hz
      refine j_swIn 56 C dX5_told_17 (off := 39) (by rw [c_1700]; decide) (by rw [c_1700]; decide) (by rw [c_1700]; decide) rfl ?_
      refine j_aload_n 57 C dX5_told_56 rfl rfl 0 rfl ?_
      obtain ⟨y57, e57, hz⟩ := ap_x hz
      refine s_V 60 C (As := []) cv_X5_149 (c_X3_surface (l := l) (D := D) (K := K) (ad := ad) hG (hq_q := hq_q10) (hN_q := hN_q10) (hz := e57)) dX5_told_57 rfl q10 3 hN_q10 rfl (CE_q hq_q10 _) rfl rfl rfl rfl rfl rfl ⟨⟨Nat.le_of_ble_eq_true rfl, Nat.le_of_ble_eq_true rfl⟩, Nat.zero_le _, Nat.zero_le _⟩ (Nat.le_of_ble_eq_true rfl) (st' := [.int y57]) rfl (fun hE => ?_)
      subst hz
      exact j_retI C X dX5_told_60 rfl ⟨rfl, rfl, rfl, rfl, trivial⟩
    · replace hz := (if_neg c_1700).symm.trans hz
      rcases Classical.em (what = nI 1) with c_1701 | c_1701
      · replace hz := (if_pos c_1701).symm.trans hz
        refine j_swIn 61 C dX5_told_17 (off := 44) (by rw [c_1701]; decide) (by rw [c_1701]; decide) (by rw [c_1701]; decide) rfl ?_
        refine j_aload_n 62 C dX5_told_61 rfl rfl 0 rfl ?_
        obtain ⟨y62, e62, hz⟩ := ap_x hz
        refine s_V 65 C (As := []) cv_X5_152 (c_X3_column (l := l) (D := D) (K := K) (ad := ad) hG (hq_q := hq_q10) (hN_q := hN_q10) (hz := e62)) dX5_told_62 rfl q10 3 hN_q10 rfl (CE_q hq_q10 _) rfl rfl rfl rfl rfl rfl ⟨⟨Nat.le_of_ble_eq_true rfl, Nat.le_of_ble_eq_true rfl⟩, Nat.zero_le _, Nat.zero_le _⟩ (Nat.le_of_ble_eq_true rfl) (st' := [.int y62]) rfl (fun hE => ?_)
        subst hz
        exact j_retI C X dX5_told_65 rfl ⟨rfl, rfl, rfl, rfl, trivial⟩
      · replace hz := (if_neg c_1701).symm.trans hz
        rcases Classical.em (what = nI 2) with c_1702 | c_1702
        · replace hz := (if_pos c_1702).symm.trans hz
          refine j_swIn 66 C dX5_told_17 (off := 49) (by rw [c_1702]; decide) (by rw [c_1702]; decide) (by rw [c_1702]; decide) rfl ?_
          refine j_aload_n 67 C dX5_told_66 rfl rfl 0 rfl ?_
          obtain ⟨y67, e67, hz⟩ := ap_x hz
          refine s_V 70 C (As := []) cv_X5_155 (c_X3_kind (l := l) (D := D) (K := K) (ad := ad) hG (hq_q := hq_q10) (hN_q := hN_q10) (hz := e67)) dX5_told_67 rfl q10 3 hN_q10 rfl (CE_q hq_q10 _) rfl rfl rfl rfl rfl rfl ⟨⟨Nat.le_of_ble_eq_true rfl, Nat.le_of_ble_eq_true rfl⟩, Nat.zero_le _, Nat.zero_le _⟩ (Nat.le_of_ble_eq_true rfl) (st' := [.int y67]) rfl (fun hE => ?_)
          subst hz
          exact j_retI C X dX5_told_70 rfl ⟨rfl, rfl, rfl, rfl, trivial⟩
        · replace hz := (if_neg c_1702).symm.trans hz
          rcases Classical.em (what = nI 3) with c_1703 | c_1703
          · replace hz := (if_pos c_1703).symm.trans hz
            refine j_swIn 71 C dX5_told_17 (off := 54) (by rw [c_1703]; decide) (by rw [c_1703]; decide) (by rw [c_1703]; decide) rfl ?_
            refine j_aload_n 72 C dX5_told_71 rfl rfl 0 rfl ?_
            obtain ⟨y72, e72, hz⟩ := ap_x hz
            refine s_V 75 C (As := []) cv_X5_158 (c_X3_z (l := l) (D := D) (K := K) (ad := ad) hG (hq_q := hq_q10) (hN_q := hN_q10) (hz := e72)) dX5_told_72 rfl q10 3 hN_q10 rfl (CE_q hq_q10 _) rfl rfl rfl rfl rfl rfl ⟨⟨Nat.le_of_ble_eq_true rfl, Nat.le_of_ble_eq_true rfl⟩, Nat.zero_le _, Nat.zero_le _⟩ (Nat.le_of_ble_eq_true rfl) (st' := [.int y72]) rfl (fun hE => ?_)
            subst hz
            exact j_retI C X dX5_told_75 rfl ⟨rfl, rfl, rfl, rfl, trivial⟩
          · replace hz := (if_neg c_1703).symm.trans hz
            rcases Classical.em (what = nI 4) with c_1704 | c_1704
            · replace hz := (if_pos c_1704).symm.trans hz
              refine j_swIn 76 C dX5_told_17 (off := 59) (by rw [c_1704]; decide) (by rw [c_1704]; decide) (by rw [c_1704]; decide) rfl ?_
              refine j_aload_n 77 C dX5_told_76 rfl rfl 0 rfl ?_
              obtain ⟨y77, e77, hz⟩ := ap_x hz
              refine s_V 80 C (As := []) cv_X5_161 (c_X3_miss (l := l) (D := D) (K := K) (ad := ad) hG (hq_q := hq_q10) (hN_q := hN_q10) (hz := e77)) dX5_told_77 rfl q10 3 hN_q10 rfl (CE_q hq_q10 _) rfl rfl rfl rfl rfl rfl ⟨⟨Nat.le_of_ble_eq_true rfl, Nat.le_of_ble_eq_true rfl⟩, Nat.zero_le _, Nat.zero_le _⟩ (Nat.le_of_ble_eq_true rfl) (st' := [.int y77]) rfl (fun hE => ?_)
              subst hz
              exact j_retI C X dX5_told_80 rfl ⟨rfl, rfl, rfl, rfl, trivial⟩
            · replace hz := (if_neg c_1704).symm.trans hz
              rcases Classical.em (what = nI 5) with c_1705 | c_1705
              · replace hz := (if_pos c_1705).symm.trans hz
                refine j_swIn 81 C dX5_told_17 (off := 64) (by rw [c_1705]; decide) (by rw [c_1705]; decide) (by rw [c_1705]; decide) rfl ?_
                refine j_aload_n 82 C dX5_told_81 rfl rfl 1 rfl ?_
                refine k_get 85 C fl_X5_39 dX5_told_82 rfl 0 (GH_r hG (by decide)) _ rfl (CE_0 _) (.ref (ad 9)) rfl ?_
                obtain ⟨y85, e85, hz⟩ := ap_x hz
                refine s_V 88 C (As := []) cv_X5_99 (c_X0_areSome (l := l) (D := D) (K := K) (ad := ad) hG (hB := hB) (hb7 := hb7) (hz := e85)) dX5_told_85 rfl 9 0 (GH_r hG (by decide)) rfl (CE_9 _) rfl rfl rfl rfl rfl rfl ⟨⟨Nat.le_of_ble_eq_true rfl, Nat.le_of_ble_eq_true rfl⟩, Nat.zero_le _, Nat.zero_le _⟩ (Nat.le_of_ble_eq_true rfl) (st' := [.int y85.1]) rfl (fun hE => ?_)
                have hbl85 : bl y85.1 := hE
                refine j_if_eq 105 91 C dX5_told_88 rfl rfl (fun c_88 => ?_) (fun c_88 => ?_)
                · replace hz := (if_pos c_88).symm.trans hz
                  refine j_ldc 107 C (x' := (-2147483648)) wv_X5_131 dX5_told_105 rfl (by decide) ?_
                  subst hz
                  exact j_retI C X dX5_told_107 rfl ⟨rfl, rfl, rfl, rfl, trivial⟩
                · replace hz := (if_neg c_88).symm.trans hz
                  refine j_aload_n 92 C dX5_told_91 rfl rfl 1 rfl ?_
                  refine k_get 95 C fl_X5_39 dX5_told_92 rfl 0 (GH_r hG (by decide)) _ rfl (CE_0 _) (.ref (ad 9)) rfl ?_
                  obtain ⟨y95, e95, hz⟩ := ap_x hz
                  refine s_V 98 C (As := []) cv_X5_103 (c_X0_leftOut (l := l) (D := D) (K := K) (ad := ad) hG  (hz := e95)) dX5_told_95 rfl 9 0 (GH_r hG (by decide)) rfl (CE_9 _) rfl rfl rfl rfl rfl rfl ⟨⟨Nat.le_of_ble_eq_true rfl, Nat.le_of_ble_eq_true rfl⟩, Nat.zero_le _, Nat.zero_le _⟩ (Nat.le_of_ble_eq_true rfl) (st' := [.int y95]) rfl (fun hE => ?_)
                  refine j_iload_n 99 C dX5_told_98 rfl rfl 2 rfl ?_
                  refine j_ishr 100 C dX5_told_99 rfl rfl ?_
                  refine j_iconst 101 C (x := nI 1) dX5_told_100 rfl (by decide) ?_
                  refine j_iand 102 C dX5_told_101 rfl rfl ?_
                  refine j_goto 107 C dX5_told_102 rfl ?_
                  subst hz
                  exact j_retI C X dX5_told_107 rfl ⟨rfl, rfl, rfl, rfl, trivial⟩
              · replace hz := (if_neg c_1705).symm.trans hz
                refine j_swOut 108 C dX5_told_17 (sw_out6 c_1700 c_1701 c_1702 c_1703 c_1704 c_1705) rfl ?_
                refine j_ldc 110 C (x' := (-2147483648)) wv_X5_131 dX5_told_108 rfl (by decide) ?_
                subst hz
                exact j_retI C X dX5_told_110 rfl ⟨rfl, rfl, rfl, rfl, trivial⟩
  · skip
    replace c_10 := om_n c_10
    replace hz := oe_n c_10 hz
    refine j_ldc 15 C (x' := (-2147483648)) wv_X5_131 dX5_told_13 rfl (by decide) ?_
    subst hz
    exact j_retI C X dX5_told_15 rfl ⟨rfl, rfl, rfl, rfl, trivial⟩
def m_X5_count (W S ns nc : Nat) (B : Nat → Option Nat) (σ : Nat → Nat → Int32) (what : Int32) : Int32 := (if what = nI 0 then ap (m_X2_columns W S ns nc B σ) (fun (y36 : Int32) => y36) else (if what = nI 1 then ap (m_X2_surfaces W S ns nc B σ) (fun (y44 : Int32) => y44) else (if what = nI 2 then ap (m_X4_heap W S ns nc B σ) (fun (y52 : Int32) => ap (m_J6_bitCount_0f7a4 W S ns nc B σ y52) (fun (y55 : Int32) => y55)) else (if what = nI 3 then ap (m_X2_faults W S ns nc B σ) (fun (y63 : Int32) => y63) else (-1)))))
abbrev rm_X5_count : Room := { frames := 3, cells := 0, slots := 0, locals := 64 }
set_option maxHeartbeats 4000000 in
set_option maxRecDepth 100000 in
theorem c_X5_count {l : Launch} {D : va_G} {K : Nat → ClassId} {W S ns nc N : Nat} {ad : Nat → Nat} {B : Nat → Option Nat} {σ : Nat → Nat → Int32} (hG : GH W S ns nc N) {what : Int32}  {z : Int32} (hz : m_X5_count W S ns nc B σ what = z) (hB : BOK B N) : MC l yX5_count cX5_count 2 (some .int) rm_X5_count D (TY K) N ad (CT K W S ns nc ad B σ) [.ref (ad 0), .int what] (BS (some (.int z)) N ad (CT K W S ns nc ad B σ) True) := by
  have hW := hG.1; have hW8 := hG.2.1; have hS := hG.2.2.1; have hS4 := hG.2.2.2.1; have hns := hG.2.2.2.2.1; have hnc := hG.2.2.2.2.2.1; have hWS := GH_ws hG
  refine MC.of (by decide) (Nat.le_of_ble_eq_true rfl) (fun p e s m args below meth c Q A H0 C X => ?_)
  replace C : Cx p s m args meth c cX5_count RX5 2 D (TY K) A H0 := C
  show J p l e rm_X5_count s m args below meth c Q D A H0 2 0 0 N ad (CT K W S ns nc ad B σ) 0 [(0, .ref (ad 0)), (1, .int what)] []
  unfold m_X5_count at hz
  refine j_iload_n 1 C dX5_count_0 rfl rfl 1 rfl ?_
  rcases Classical.em (what = nI 0) with c_100 | c_100
  · replace hz := (if_pos c_100).symm.trans hz
    refine j_swIn 32 C dX5_count_1 (off := 31) (by rw [c_100]; decide) (by rw [c_100]; decide) (by rw [c_100]; decide) rfl ?_
    refine j_aload_n 33 C dX5_count_32 rfl rfl 0 rfl ?_
    refine k_get 36 C fl_X5_21 dX5_count_33 rfl 0 (GH_r hG (by decide)) _ rfl (CE_0 _) (.ref (ad 1)) rfl ?_
    obtain ⟨y36, e36, hz⟩ := ap_x hz
    refine s_V 39 C (As := []) cv_X5_139 (c_X2_columns (l := l) (D := D) (K := K) (ad := ad) hG  (hz := e36)) dX5_count_36 rfl 1 2 (GH_r hG (by decide)) rfl (CE_1 _) rfl rfl rfl rfl rfl rfl ⟨⟨Nat.le_of_ble_eq_true rfl, Nat.le_of_ble_eq_true rfl⟩, Nat.zero_le _, Nat.zero_le _⟩ (Nat.le_of_ble_eq_true rfl) (st' := [.int y36]) rfl (fun hE => ?_)
    have ey36 : y36 = nI W := by rw [← e36]; exact rfl
    subst hz
    exact j_retI C X dX5_count_39 rfl ⟨rfl, rfl, rfl, rfl, trivial⟩
  · replace hz := (if_neg c_100).symm.trans hz
    rcases Classical.em (what = nI 1) with c_101 | c_101
    · replace hz := (if_pos c_101).symm.trans hz
      refine j_swIn 40 C dX5_count_1 (off := 39) (by rw [c_101]; decide) (by rw [c_101]; decide) (by rw [c_101]; decide) rfl ?_
      refine j_aload_n 41 C dX5_count_40 rfl rfl 0 rfl ?_
      refine k_get 44 C fl_X5_21 dX5_count_41 rfl 0 (GH_r hG (by decide)) _ rfl (CE_0 _) (.ref (ad 1)) rfl ?_
      obtain ⟨y44, e44, hz⟩ := ap_x hz
      refine s_V 47 C (As := []) cv_X5_125 (c_X2_surfaces (l := l) (D := D) (K := K) (ad := ad) hG  (hz := e44)) dX5_count_44 rfl 1 2 (GH_r hG (by decide)) rfl (CE_1 _) rfl rfl rfl rfl rfl rfl ⟨⟨Nat.le_of_ble_eq_true rfl, Nat.le_of_ble_eq_true rfl⟩, Nat.zero_le _, Nat.zero_le _⟩ (Nat.le_of_ble_eq_true rfl) (st' := [.int y44]) rfl (fun hE => ?_)
      have ey44 : y44 = nI S := by rw [← e44]; exact rfl
      subst hz
      exact j_retI C X dX5_count_47 rfl ⟨rfl, rfl, rfl, rfl, trivial⟩
    · replace hz := (if_neg c_101).symm.trans hz
      rcases Classical.em (what = nI 2) with c_102 | c_102
      · replace hz := (if_pos c_102).symm.trans hz
        refine j_swIn 48 C dX5_count_1 (off := 47) (by rw [c_102]; decide) (by rw [c_102]; decide) (by rw [c_102]; decide) rfl ?_
        refine j_aload_n 49 C dX5_count_48 rfl rfl 0 rfl ?_
        refine k_get 52 C fl_X5_30 dX5_count_49 rfl 0 (GH_r hG (by decide)) _ rfl (CE_0 _) (.ref (ad 7)) rfl ?_
        obtain ⟨y52, e52, hz⟩ := ap_x hz
        refine s_V 55 C (As := []) cv_X5_164 (c_X4_heap (l := l) (D := D) (K := K) (ad := ad) hG (hB := hB) (hz := e52)) dX5_count_52 rfl 7 4 (GH_r hG (by decide)) rfl (CE_7 _) rfl rfl rfl rfl rfl rfl ⟨⟨Nat.le_of_ble_eq_true rfl, Nat.le_of_ble_eq_true rfl⟩, Nat.zero_le _, Nat.zero_le _⟩ (Nat.le_of_ble_eq_true rfl) (st' := [.int y52]) rfl (fun hE => ?_)
        obtain ⟨y55, e55, hz⟩ := ap_x hz
        refine s_S 58 C (As := [.int y52]) cs_X5_167 (c_J6_bitCount_0f7a4 (l := l) (D := D) (K := K) (ad := ad) hG  (hz := e55)) dX5_count_55 rfl rfl rfl rfl rfl ⟨⟨Nat.le_of_ble_eq_true rfl, Nat.le_of_ble_eq_true rfl⟩, Nat.zero_le _, Nat.zero_le _⟩ (Nat.le_of_ble_eq_true rfl) (st' := [.int y55]) rfl (fun hE => ?_)
        subst hz
        exact j_retI C X dX5_count_58 rfl ⟨rfl, rfl, rfl, rfl, trivial⟩
      · replace hz := (if_neg c_102).symm.trans hz
        rcases Classical.em (what = nI 3) with c_103 | c_103
        · replace hz := (if_pos c_103).symm.trans hz
          refine j_swIn 59 C dX5_count_1 (off := 58) (by rw [c_103]; decide) (by rw [c_103]; decide) (by rw [c_103]; decide) rfl ?_
          refine j_aload_n 60 C dX5_count_59 rfl rfl 0 rfl ?_
          refine k_get 63 C fl_X5_21 dX5_count_60 rfl 0 (GH_r hG (by decide)) _ rfl (CE_0 _) (.ref (ad 1)) rfl ?_
          obtain ⟨y63, e63, hz⟩ := ap_x hz
          refine s_V 66 C (As := []) cv_X5_172 (c_X2_faults (l := l) (D := D) (K := K) (ad := ad) hG  (hz := e63)) dX5_count_63 rfl 1 2 (GH_r hG (by decide)) rfl (CE_1 _) rfl rfl rfl rfl rfl rfl ⟨⟨Nat.le_of_ble_eq_true rfl, Nat.le_of_ble_eq_true rfl⟩, Nat.zero_le _, Nat.zero_le _⟩ (Nat.le_of_ble_eq_true rfl) (st' := [.int y63]) rfl (fun hE => ?_)
          subst hz
          exact j_retI C X dX5_count_66 rfl ⟨rfl, rfl, rfl, rfl, trivial⟩
        · replace hz := (if_neg c_103).symm.trans hz
          refine j_swOut 67 C dX5_count_1 (sw_out4 c_100 c_101 c_102 c_103) rfl ?_
          refine j_iconst 68 C (x := (-1)) dX5_count_67 rfl (by decide) ?_
          subst hz
          exact j_retI C X dX5_count_68 rfl ⟨rfl, rfl, rfl, rfl, trivial⟩
end
