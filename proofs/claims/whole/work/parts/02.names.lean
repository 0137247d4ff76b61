/-! ===== BEGIN words of one list among another's, by their places ===== -/
theorem goodIn_r {big : List Cond} (ws : List Cond) (ps : List Nat) (hp : ws = ps.filterMap (fun i => big[i]?)) (h : ws.all goodWord = true) : GoodIn big ws := by
  intro w hw
  have h1 := List.all_eq_true.mp h w hw
  rw [hp] at hw
  obtain ⟨i, -, hi⟩ := List.mem_filterMap.mp hw
  have hm : w ∈ big := by first | exact List.mem_of_getElem? hi | exact List.getElem?_mem hi
  exact ⟨hm, good_of_word h1⟩
theorem goodIn_app {big a b : List Cond} (ha : GoodIn big a) (hb : GoodIn big b) : GoodIn big (a ++ b) := fun w h => (List.mem_append.mp h).elim (ha w) (hb w)
theorem goodIn_ca {big a b : List Cond} {c : Cond} (ha : GoodIn big (c :: a)) (hb : GoodIn big b) : GoodIn big (c :: (a ++ b)) := fun w h => (List.mem_cons.mp h).elim (fun e => ha w (List.mem_cons.mpr (Or.inl e))) (fun h => (List.mem_append.mp h).elim (fun h => ha w (List.mem_cons.mpr (Or.inr h))) (hb w))
theorem goodIn_sub {big ws : List Cond} (hm : ∀ w ∈ ws, w ∈ big) (h : ws.all goodWord = true) : GoodIn big ws := fun w hw => ⟨hm w hw, good_of_word (List.all_eq_true.mp h w hw)⟩
/-! ===== END ===== -/

/-! ===== BEGIN printed: names, fields, word lists, decode rows ===== -/
def RX0 : String := "HillLayers$Bodies"
def TX0 : u_T := fun k => match k with
  | 0 => ("HillLayers$Bodies", "rock", "LHillLayers$Rock;", true)
  | 1 => ("HillLayers$Bodies", "sights", "LHillLayers$Sights;", true)
  | 2 => ("HillLayers$Bodies", "steps", "[LHillLayers$Gaps;", true)
  | 3 => ("HillLayers$Bodies", "withoutSights", "LHillLayers$Gaps;", true)
  | 4 => ("HillLayers$Bodies", "agreed", "LHillLayers$Gaps;", true)
  | 5 => ("HillLayers$Bodies", "rockIsBound", "Z", false)
  | 6 => ("HillLayers$Bodies", "quarrelIsFound", "Z", false)
  | 7 => ("HillLayers$Bodies", "hillStands", "Z", false)
  | _ => ("HillLayers$Bodies", "leftOut", "I", false)
def tyX0 : Nat → FieldType := fun k => match k with
  | 0 => .object "HillLayers$Rock"
  | 1 => .object "HillLayers$Sights"
  | 2 => .array (.object "HillLayers$Gaps")
  | 3 => .object "HillLayers$Gaps"
  | 4 => .object "HillLayers$Gaps"
  | 5 => .boolean
  | 6 => .boolean
  | 7 => .boolean
  | _ => .int
abbrev wsX00 : List Cond := u_ws RX0 TX0 9
theorem nmX0 : ∀ a, a < 9 → ∀ b, b < 9 → a ≠ b → (TX0 a).2.1 ≠ (TX0 b).2.1 := by decide +kernel
theorem tyX0_ok : ∀ k, k < 9 → parseFieldDescriptor (TX0 k).2.2.1 = some (tyX0 k) := by decide +kernel
abbrev cX0_init : ByteArray := prog_2_method_1_code
def yX0_init : MethodName := ⟨RX0, "<init>", "(LHillLayers$Rock;LHillLayers$Sights;)V"⟩
abbrev cX0_forgetRock : ByteArray := prog_2_method_2_code
def yX0_forgetRock : MethodName := ⟨RX0, "forgetRock", "()V"⟩
abbrev cX0_forgetQuarrel : ByteArray := prog_2_method_3_code
def yX0_forgetQuarrel : MethodName := ⟨RX0, "forgetQuarrel", "()V"⟩
abbrev cX0_areSome : ByteArray := prog_2_method_4_code
def yX0_areSome : MethodName := ⟨RX0, "areSome", "()Z"⟩
abbrev cX0_leftOut : ByteArray := prog_2_method_5_code
def yX0_leftOut : MethodName := ⟨RX0, "leftOut", "()I"⟩
abbrev cX0_agreed : ByteArray := prog_2_method_6_code
def yX0_agreed : MethodName := ⟨RX0, "agreed", "()LHillLayers$Gaps;"⟩
abbrev cX0_findQuarrel : ByteArray := prog_2_method_7_code
def yX0_findQuarrel : MethodName := ⟨RX0, "findQuarrel", "()V"⟩
abbrev cX0_decide : ByteArray := prog_2_method_8_code
def yX0_decide : MethodName := ⟨RX0, "decide", "(LHillLayers$Bodies;LHillLayers$Gaps;II)V"⟩
def RX1 : String := "HillLayers$Gaps"
def TX1 : u_T := fun k => match k with
  | 0 => ("HillLayers$Gaps", "size", "I", true)
  | _ => ("HillLayers$Gaps", "widths", "[I", true)
def tyX1 : Nat → FieldType := fun k => match k with
  | 0 => .int
  | _ => .array .int
abbrev wsX10 : List Cond := u_ws RX1 TX1 2
theorem nmX1 : ∀ a, a < 2 → ∀ b, b < 2 → a ≠ b → (TX1 a).2.1 ≠ (TX1 b).2.1 := by decide +kernel
theorem tyX1_ok : ∀ k, k < 2 → parseFieldDescriptor (TX1 k).2.2.1 = some (tyX1 k) := by decide +kernel
abbrev cX1_init : ByteArray := prog_3_method_1_code
def yX1_init : MethodName := ⟨RX1, "<init>", "(I)V"⟩
abbrev cX1_clear : ByteArray := prog_3_method_2_code
def yX1_clear : MethodName := ⟨RX1, "clear", "()V"⟩
abbrev cX1_copyFrom : ByteArray := prog_3_method_3_code
def yX1_copyFrom : MethodName := ⟨RX1, "copyFrom", "(LHillLayers$Gaps;)V"⟩
abbrev cX1_most : ByteArray := prog_3_method_4_code
def yX1_most : MethodName := ⟨RX1, "most", "(II)I"⟩
abbrev cX1_least : ByteArray := prog_3_method_5_code
def yX1_least : MethodName := ⟨RX1, "least", "(I)I"⟩
abbrev cX1_greatest : ByteArray := prog_3_method_6_code
def yX1_greatest : MethodName := ⟨RX1, "greatest", "(I)I"⟩
abbrev cX1_hold : ByteArray := prog_3_method_7_code
def yX1_hold : MethodName := ⟨RX1, "hold", "(IIII)Z"⟩
abbrev cX1_narrow : ByteArray := prog_3_method_8_code
def yX1_narrow : MethodName := ⟨RX1, "narrow", "(III)V"⟩
abbrev cX1_openSum : ByteArray := prog_3_method_9_code
def yX1_openSum : MethodName := ⟨RX1, "openSum", "()I"⟩
abbrev cX1_openSumAfterBore : ByteArray := prog_3_method_10_code
def yX1_openSumAfterBore : MethodName := ⟨RX1, "openSumAfterBore", "(II)I"⟩
abbrev cX1_isPlace : ByteArray := prog_3_method_11_code
def yX1_isPlace : MethodName := ⟨RX1, "isPlace", "(I)Z"⟩
def RX2 : String := "HillLayers$Rock"
def TX2 : u_T := fun k => match k with
  | 0 => ("HillLayers$Rock", "columns", "I", true)
  | 1 => ("HillLayers$Rock", "surfaces", "I", true)
  | 2 => ("HillLayers$Rock", "thickFrom", "[I", true)
  | 3 => ("HillLayers$Rock", "thickTo", "[I", true)
  | 4 => ("HillLayers$Rock", "steepest", "[I", true)
  | 5 => ("HillLayers$Rock", "throwAfter", "[I", true)
  | _ => ("HillLayers$Rock", "brokenAfter", "[Z", true)
def tyX2 : Nat → FieldType := fun k => match k with
  | 0 => .int
  | 1 => .int
  | 2 => .array .int
  | 3 => .array .int
  | 4 => .array .int
  | 5 => .array .int
  | _ => .array .boolean
abbrev wsX20 : List Cond := u_ws RX2 TX2 7
theorem nmX2 : ∀ a, a < 7 → ∀ b, b < 7 → a ≠ b → (TX2 a).2.1 ≠ (TX2 b).2.1 := by decide +kernel
theorem tyX2_ok : ∀ k, k < 7 → parseFieldDescriptor (TX2 k).2.2.1 = some (tyX2 k) := by decide +kernel
abbrev cX2_init : ByteArray := prog_4_method_1_code
def yX2_init : MethodName := ⟨RX2, "<init>", "(II)V"⟩
abbrev cX2_columns : ByteArray := prog_4_method_2_code
def yX2_columns : MethodName := ⟨RX2, "columns", "()I"⟩
abbrev cX2_surfaces : ByteArray := prog_4_method_3_code
def yX2_surfaces : MethodName := ⟨RX2, "surfaces", "()I"⟩
abbrev cX2_places : ByteArray := prog_4_method_4_code
def yX2_places : MethodName := ⟨RX2, "places", "()I"⟩
abbrev cX2_hasSurface : ByteArray := prog_4_method_5_code
def yX2_hasSurface : MethodName := ⟨RX2, "hasSurface", "(I)Z"⟩
abbrev cX2_hasColumn : ByteArray := prog_4_method_6_code
def yX2_hasColumn : MethodName := ⟨RX2, "hasColumn", "(I)Z"⟩
abbrev cX2_hasNextColumn : ByteArray := prog_4_method_7_code
def yX2_hasNextColumn : MethodName := ⟨RX2, "hasNextColumn", "(I)Z"⟩
abbrev cX2_hasPlace : ByteArray := prog_4_method_8_code
def yX2_hasPlace : MethodName := ⟨RX2, "hasPlace", "(II)Z"⟩
abbrev cX2_placeOf : ByteArray := prog_4_method_9_code
def yX2_placeOf : MethodName := ⟨RX2, "placeOf", "(II)I"⟩
abbrev cX2_setThick : ByteArray := prog_4_method_10_code
def yX2_setThick : MethodName := ⟨RX2, "setThick", "(III)V"⟩
abbrev cX2_setSteep : ByteArray := prog_4_method_11_code
def yX2_setSteep : MethodName := ⟨RX2, "setSteep", "(II)V"⟩
abbrev cX2_breakAt : ByteArray := prog_4_method_12_code
def yX2_breakAt : MethodName := ⟨RX2, "breakAt", "(II)V"⟩
abbrev cX2_mendAt : ByteArray := prog_4_method_13_code
def yX2_mendAt : MethodName := ⟨RX2, "mendAt", "(I)V"⟩
abbrev cX2_isBroken : ByteArray := prog_4_method_14_code
def yX2_isBroken : MethodName := ⟨RX2, "isBroken", "(I)Z"⟩
abbrev cX2_faults : ByteArray := prog_4_method_15_code
def yX2_faults : MethodName := ⟨RX2, "faults", "()I"⟩
abbrev cX2_bind : ByteArray := prog_4_method_16_code
def yX2_bind : MethodName := ⟨RX2, "bind", "(LHillLayers$Gaps;)Z"⟩
abbrev cX2_bindThick : ByteArray := prog_4_method_17_code
def yX2_bindThick : MethodName := ⟨RX2, "bindThick", "(LHillLayers$Gaps;II)Z"⟩
abbrev cX2_bindStep : ByteArray := prog_4_method_18_code
def yX2_bindStep : MethodName := ⟨RX2, "bindStep", "(LHillLayers$Gaps;II)Z"⟩
def RX3 : String := "HillLayers$Sight"
def TX3 : u_T := fun k => match k with
  | 0 => ("HillLayers$Sight", "surface", "I", true)
  | 1 => ("HillLayers$Sight", "column", "I", true)
  | 2 => ("HillLayers$Sight", "kind", "I", true)
  | 3 => ("HillLayers$Sight", "z", "I", true)
  | _ => ("HillLayers$Sight", "miss", "I", true)
def tyX3 : Nat → FieldType := fun k => match k with
  | 0 => .int
  | 1 => .int
  | 2 => .int
  | 3 => .int
  | _ => .int
abbrev wsX30 : List Cond := u_ws RX3 TX3 5
theorem nmX3 : ∀ a, a < 5 → ∀ b, b < 5 → a ≠ b → (TX3 a).2.1 ≠ (TX3 b).2.1 := by decide +kernel
theorem tyX3_ok : ∀ k, k < 5 → parseFieldDescriptor (TX3 k).2.2.1 = some (tyX3 k) := by decide +kernel
abbrev cX3_init : ByteArray := prog_5_method_1_code
def yX3_init : MethodName := ⟨RX3, "<init>", "(IIIII)V"⟩
abbrev cX3_surface : ByteArray := prog_5_method_2_code
def yX3_surface : MethodName := ⟨RX3, "surface", "()I"⟩
abbrev cX3_column : ByteArray := prog_5_method_3_code
def yX3_column : MethodName := ⟨RX3, "column", "()I"⟩
abbrev cX3_kind : ByteArray := prog_5_method_4_code
def yX3_kind : MethodName := ⟨RX3, "kind", "()I"⟩
abbrev cX3_z : ByteArray := prog_5_method_5_code
def yX3_z : MethodName := ⟨RX3, "z", "()I"⟩
abbrev cX3_miss : ByteArray := prog_5_method_6_code
def yX3_miss : MethodName := ⟨RX3, "miss", "()I"⟩
abbrev cX3_bind : ByteArray := prog_5_method_7_code
def yX3_bind : MethodName := ⟨RX3, "bind", "(LHillLayers$Gaps;LHillLayers$Rock;)Z"⟩
def RX4 : String := "HillLayers$Sights"
def TX4 : u_T := fun k => match k with
  | 0 => ("HillLayers$Sights", "byNumber", "[LHillLayers$Sight;", true)
  | _ => ("HillLayers$Sights", "came", "I", false)
def tyX4 : Nat → FieldType := fun k => match k with
  | 0 => .array (.object "HillLayers$Sight")
  | _ => .int
abbrev wsX40 : List Cond := u_ws RX4 TX4 2
theorem nmX4 : ∀ a, a < 2 → ∀ b, b < 2 → a ≠ b → (TX4 a).2.1 ≠ (TX4 b).2.1 := by decide +kernel
theorem tyX4_ok : ∀ k, k < 2 → parseFieldDescriptor (TX4 k).2.2.1 = some (tyX4 k) := by decide +kernel
abbrev cX4_init : ByteArray := prog_6_method_1_code
def yX4_init : MethodName := ⟨RX4, "<init>", "()V"⟩
abbrev cX4_add : ByteArray := prog_6_method_2_code
def yX4_add : MethodName := ⟨RX4, "add", "(LHillLayers$Sight;)I"⟩
abbrev cX4_remove : ByteArray := prog_6_method_3_code
def yX4_remove : MethodName := ⟨RX4, "remove", "(I)Z"⟩
abbrev cX4_at : ByteArray := prog_6_method_4_code
def yX4_at : MethodName := ⟨RX4, "at", "(I)LHillLayers$Sight;"⟩
abbrev cX4_came : ByteArray := prog_6_method_5_code
def yX4_came : MethodName := ⟨RX4, "came", "()I"⟩
abbrev cX4_heap : ByteArray := prog_6_method_6_code
def yX4_heap : MethodName := ⟨RX4, "heap", "()I"⟩
def RX5 : String := "HillLayers"
def TX5 : u_T := fun k => match k with
  | 0 => ("HillLayers", "rock", "LHillLayers$Rock;", true)
  | 1 => ("HillLayers", "sights", "LHillLayers$Sights;", true)
  | 2 => ("HillLayers", "bodies", "LHillLayers$Bodies;", true)
  | _ => ("HillLayers", "grounds", "[I", true)
def tyX5 : Nat → FieldType := fun k => match k with
  | 0 => .object "HillLayers$Rock"
  | 1 => .object "HillLayers$Sights"
  | 2 => .object "HillLayers$Bodies"
  | _ => .array .int
abbrev wsX50 : List Cond := u_ws RX5 TX5 4
theorem nmX5 : ∀ a, a < 4 → ∀ b, b < 4 → a ≠ b → (TX5 a).2.1 ≠ (TX5 b).2.1 := by decide +kernel
theorem tyX5_ok : ∀ k, k < 4 → parseFieldDescriptor (TX5 k).2.2.1 = some (tyX5 k) := by decide +kernel
abbrev cX5_init : ByteArray := prog_1_method_1_code
def yX5_init : MethodName := ⟨RX5, "<init>", "(II)V"⟩
abbrev cX5_thick : ByteArray := prog_1_method_2_code
def yX5_thick : MethodName := ⟨RX5, "thick", "(III)Z"⟩
abbrev cX5_steep : ByteArray := prog_1_method_3_code
def yX5_steep : MethodName := ⟨RX5, "steep", "(II)Z"⟩
abbrev cX5_fault : ByteArray := prog_1_method_4_code
def yX5_fault : MethodName := ⟨RX5, "fault", "(II)Z"⟩
abbrev cX5_heal : ByteArray := prog_1_method_5_code
def yX5_heal : MethodName := ⟨RX5, "heal", "(I)Z"⟩
abbrev cX5_ground : ByteArray := prog_1_method_6_code
def yX5_ground : MethodName := ⟨RX5, "ground", "(II)Z"⟩
abbrev cX5_sight : ByteArray := prog_1_method_7_code
def yX5_sight : MethodName := ⟨RX5, "sight", "(III)I"⟩
abbrev cX5_take : ByteArray := prog_1_method_8_code
def yX5_take : MethodName := ⟨RX5, "take", "(I)Z"⟩
abbrev cX5_quarrel : ByteArray := prog_1_method_9_code
def yX5_quarrel : MethodName := ⟨RX5, "quarrel", "()I"⟩
abbrev cX5_span : ByteArray := prog_1_method_10_code
def yX5_span : MethodName := ⟨RX5, "span", "(III)I"⟩
abbrev cX5_open : ByteArray := prog_1_method_11_code
def yX5_open : MethodName := ⟨RX5, "open", "()I"⟩
abbrev cX5_layer : ByteArray := prog_1_method_12_code
def yX5_layer : MethodName := ⟨RX5, "layer", "(II)I"⟩
abbrev cX5_between : ByteArray := prog_1_method_13_code
def yX5_between : MethodName := ⟨RX5, "between", "(III)I"⟩
abbrev cX5_worn : ByteArray := prog_1_method_14_code
def yX5_worn : MethodName := ⟨RX5, "worn", "(II)I"⟩
abbrev cX5_tells : ByteArray := prog_1_method_15_code
def yX5_tells : MethodName := ⟨RX5, "tells", "(II)I"⟩
abbrev cX5_next : ByteArray := prog_1_method_16_code
def yX5_next : MethodName := ⟨RX5, "next", "()I"⟩
abbrev cX5_bend : ByteArray := prog_1_method_17_code
def yX5_bend : MethodName := ⟨RX5, "bend", "(I)I"⟩
abbrev cX5_told : ByteArray := prog_1_method_18_code
def yX5_told : MethodName := ⟨RX5, "told", "(II)I"⟩
abbrev cX5_count : ByteArray := prog_1_method_19_code
def yX5_count : MethodName := ⟨RX5, "count", "(I)I"⟩
abbrev cX5_isDepth : ByteArray := prog_1_method_20_code
def yX5_isDepth : MethodName := ⟨RX5, "isDepth", "(I)Z"⟩
abbrev cX5_isWithin : ByteArray := prog_1_method_21_code
def yX5_isWithin : MethodName := ⟨RX5, "isWithin", "(II)Z"⟩
abbrev cX5_isEnd : ByteArray := prog_1_method_22_code
def yX5_isEnd : MethodName := ⟨RX5, "isEnd", "(I)Z"⟩
abbrev cX5_isPlaceCode : ByteArray := prog_1_method_23_code
def yX5_isPlaceCode : MethodName := ⟨RX5, "isPlaceCode", "(I)Z"⟩
abbrev cX5_end : ByteArray := prog_1_method_24_code
def yX5_end : MethodName := ⟨RX5, "end", "(II)I"⟩
abbrev cX5_gain : ByteArray := prog_1_method_25_code
def yX5_gain : MethodName := ⟨RX5, "gain", "(I)I"⟩
def RX6 : String := "HillLayersModel"
def TX6 : u_T := fun k => match k with
  | 0 => ("HillLayersModel", "w", "I", true)
  | 1 => ("HillLayersModel", "s", "I", true)
  | 2 => ("HillLayersModel", "thickFrom", "[I", true)
  | 3 => ("HillLayersModel", "thickTo", "[I", true)
  | 4 => ("HillLayersModel", "steep", "[I", true)
  | 5 => ("HillLayersModel", "isFault", "[Z", true)
  | 6 => ("HillLayersModel", "thrown", "[I", true)
  | 7 => ("HillLayersModel", "ground", "[I", true)
  | 8 => ("HillLayersModel", "sights", "I", false)
  | 9 => ("HillLayersModel", "where", "[I", true)
  | 10 => ("HillLayersModel", "told", "[I", true)
  | 11 => ("HillLayersModel", "miss", "[I", true)
  | 12 => ("HillLayersModel", "isThere", "[Z", true)
  | 13 => ("HillLayersModel", "most", "[I", true)
  | 14 => ("HillLayersModel", "base", "[I", true)
  | 15 => ("HillLayersModel", "badWith", "[I", true)
  | 16 => ("HillLayersModel", "isReckoned", "Z", false)
  | 17 => ("HillLayersModel", "isHill", "Z", false)
  | _ => ("HillLayersModel", "quarrels", "I", false)
def tyX6 : Nat → FieldType := fun k => match k with
  | 0 => .int
  | 1 => .int
  | 2 => .array .int
  | 3 => .array .int
  | 4 => .array .int
  | 5 => .array .boolean
  | 6 => .array .int
  | 7 => .array .int
  | 8 => .int
  | 9 => .array .int
  | 10 => .array .int
  | 11 => .array .int
  | 12 => .array .boolean
  | 13 => .array .int
  | 14 => .array .int
  | 15 => .array .int
  | 16 => .boolean
  | 17 => .boolean
  | _ => .int
abbrev wsX60 : List Cond := u_ws RX6 TX6 19
theorem nmX6 : ∀ a, a < 19 → ∀ b, b < 19 → a ≠ b → (TX6 a).2.1 ≠ (TX6 b).2.1 := by decide +kernel
theorem tyX6_ok : ∀ k, k < 19 → parseFieldDescriptor (TX6 k).2.2.1 = some (tyX6 k) := by decide +kernel
abbrev cX6_init : ByteArray := prog_8_method_1_code
def yX6_init : MethodName := ⟨RX6, "<init>", "(II)V"⟩
abbrev cX6_in : ByteArray := prog_8_method_2_code
def yX6_in : MethodName := ⟨RX6, "in", "(III)Z"⟩
abbrev cX6_isPlace : ByteArray := prog_8_method_3_code
def yX6_isPlace : MethodName := ⟨RX6, "isPlace", "(II)Z"⟩
abbrev cX6_thick : ByteArray := prog_8_method_4_code
def yX6_thick : MethodName := ⟨RX6, "thick", "(III)Z"⟩
abbrev cX6_steep : ByteArray := prog_8_method_5_code
def yX6_steep : MethodName := ⟨RX6, "steep", "(II)Z"⟩
abbrev cX6_fault : ByteArray := prog_8_method_6_code
def yX6_fault : MethodName := ⟨RX6, "fault", "(II)Z"⟩
abbrev cX6_heal : ByteArray := prog_8_method_7_code
def yX6_heal : MethodName := ⟨RX6, "heal", "(I)Z"⟩
abbrev cX6_ground : ByteArray := prog_8_method_8_code
def yX6_ground : MethodName := ⟨RX6, "ground", "(II)Z"⟩
abbrev cX6_sight : ByteArray := prog_8_method_9_code
def yX6_sight : MethodName := ⟨RX6, "sight", "(III)I"⟩
abbrev cX6_isSight : ByteArray := prog_8_method_10_code
def yX6_isSight : MethodName := ⟨RX6, "isSight", "(I)Z"⟩
abbrev cX6_take : ByteArray := prog_8_method_11_code
def yX6_take : MethodName := ⟨RX6, "take", "(I)Z"⟩
abbrev cX6_node : ByteArray := prog_8_method_12_code
def yX6_node : MethodName := ⟨RX6, "node", "(II)I"⟩
abbrev cX6_bounds : ByteArray := prog_8_method_13_code
def yX6_bounds : MethodName := ⟨RX6, "bounds", "(III)V"⟩
abbrev cX6_within : ByteArray := prog_8_method_14_code
def yX6_within : MethodName := ⟨RX6, "within", "(IIII)V"⟩
abbrev cX6_stands : ByteArray := prog_8_method_15_code
def yX6_stands : MethodName := ⟨RX6, "stands", "()Z"⟩
abbrev cX6_adds : ByteArray := prog_8_method_16_code
def yX6_adds : MethodName := ⟨RX6, "adds", "(III)Z"⟩
abbrev cX6_addsWithin : ByteArray := prog_8_method_17_code
def yX6_addsWithin : MethodName := ⟨RX6, "addsWithin", "(IIII)Z"⟩
abbrev cX6_sees : ByteArray := prog_8_method_18_code
def yX6_sees : MethodName := ⟨RX6, "sees", "(I)Z"⟩
abbrev cX6_agrees : ByteArray := prog_8_method_19_code
def yX6_agrees : MethodName := ⟨RX6, "agrees", "(I)Z"⟩
abbrev cX6_pairs : ByteArray := prog_8_method_20_code
def yX6_pairs : MethodName := ⟨RX6, "pairs", "(I)V"⟩
abbrev cX6_bits : ByteArray := prog_8_method_21_code
def yX6_bits : MethodName := ⟨RX6, "bits", "(I)I"⟩
abbrev cX6_reckons : ByteArray := prog_8_method_22_code
def yX6_reckons : MethodName := ⟨RX6, "reckons", "()Z"⟩
abbrev cX6_found : ByteArray := prog_8_method_23_code
def yX6_found : MethodName := ⟨RX6, "found", "()Z"⟩
abbrev cX6_quarrel : ByteArray := prog_8_method_24_code
def yX6_quarrel : MethodName := ⟨RX6, "quarrel", "()I"⟩
abbrev cX6_high : ByteArray := prog_8_method_25_code
def yX6_high : MethodName := ⟨RX6, "high", "(I)I"⟩
abbrev cX6_low : ByteArray := prog_8_method_26_code
def yX6_low : MethodName := ⟨RX6, "low", "(I)I"⟩
abbrev cX6_span : ByteArray := prog_8_method_27_code
def yX6_span : MethodName := ⟨RX6, "span", "(III)I"⟩
abbrev cX6_opens : ByteArray := prog_8_method_28_code
def yX6_opens : MethodName := ⟨RX6, "opens", "()I"⟩
abbrev cX6_open : ByteArray := prog_8_method_29_code
def yX6_open : MethodName := ⟨RX6, "open", "()I"⟩
abbrev cX6_layer : ByteArray := prog_8_method_30_code
def yX6_layer : MethodName := ⟨RX6, "layer", "(II)I"⟩
abbrev cX6_between : ByteArray := prog_8_method_31_code
def yX6_between : MethodName := ⟨RX6, "between", "(III)I"⟩
abbrev cX6_worn : ByteArray := prog_8_method_32_code
def yX6_worn : MethodName := ⟨RX6, "worn", "(II)I"⟩
abbrev cX6_opensBy : ByteArray := prog_8_method_33_code
def yX6_opensBy : MethodName := ⟨RX6, "opensBy", "(II)I"⟩
abbrev cX6_tellsAt : ByteArray := prog_8_method_34_code
def yX6_tellsAt : MethodName := ⟨RX6, "tellsAt", "(I)I"⟩
abbrev cX6_tells : ByteArray := prog_8_method_35_code
def yX6_tells : MethodName := ⟨RX6, "tells", "(II)I"⟩
abbrev cX6_next : ByteArray := prog_8_method_36_code
def yX6_next : MethodName := ⟨RX6, "next", "()I"⟩
abbrev cX6_depth : ByteArray := prog_8_method_37_code
def yX6_depth : MethodName := ⟨RX6, "depth", "(III)I"⟩
abbrev cX6_bend : ByteArray := prog_8_method_38_code
def yX6_bend : MethodName := ⟨RX6, "bend", "(I)I"⟩
abbrev cX6_told : ByteArray := prog_8_method_39_code
def yX6_told : MethodName := ⟨RX6, "told", "(II)I"⟩
abbrev cX6_count : ByteArray := prog_8_method_40_code
def yX6_count : MethodName := ⟨RX6, "count", "(I)I"⟩
def RJ6 : String := "java/lang/Integer"
def TJ6 : u_T := fun k => match k with
  | _ => ("", "", "", false)
def tyJ6 : Nat → FieldType := fun k => match k with
  | _ => .int
abbrev wsJ60 : List Cond := u_ws RJ6 TJ6 0
theorem nmJ6 : ∀ a, a < 0 → ∀ b, b < 0 → a ≠ b → (TJ6 a).2.1 ≠ (TJ6 b).2.1 := by decide +kernel
theorem tyJ6_ok : ∀ k, k < 0 → parseFieldDescriptor (TJ6 k).2.2.1 = some (tyJ6 k) := by decide +kernel
abbrev cJ6_bitCount_0f7a4 : ByteArray := prog_9_method_49_code
def yJ6_bitCount_0f7a4 : MethodName := ⟨RJ6, "bitCount", "(I)I"⟩
def RJ9 : String := "java/lang/Math"
def TJ9 : u_T := fun k => match k with
  | _ => ("", "", "", false)
def tyJ9 : Nat → FieldType := fun k => match k with
  | _ => .int
abbrev wsJ90 : List Cond := u_ws RJ9 TJ9 0
theorem nmJ9 : ∀ a, a < 0 → ∀ b, b < 0 → a ≠ b → (TJ9 a).2.1 ≠ (TJ9 b).2.1 := by decide +kernel
theorem tyJ9_ok : ∀ k, k < 0 → parseFieldDescriptor (TJ9 k).2.2.1 = some (tyJ9 k) := by decide +kernel
abbrev cJ9_abs_0f7a4 : ByteArray := prog_10_method_59_code
def yJ9_abs_0f7a4 : MethodName := ⟨RJ9, "abs", "(I)I"⟩
abbrev cJ9_max_7cf53 : ByteArray := prog_10_method_65_code
def yJ9_max_7cf53 : MethodName := ⟨RJ9, "max", "(II)I"⟩
abbrev cJ9_min_7cf53 : ByteArray := prog_10_method_69_code
def yJ9_min_7cf53 : MethodName := ⟨RJ9, "min", "(II)I"⟩
def RJ10 : String := "java/lang/System"
def TJ10 : u_T := fun k => match k with
  | _ => ("", "", "", false)
def tyJ10 : Nat → FieldType := fun k => match k with
  | _ => .int
abbrev wsJ100 : List Cond := u_ws RJ10 TJ10 0
theorem nmJ10 : ∀ a, a < 0 → ∀ b, b < 0 → a ≠ b → (TJ10 a).2.1 ≠ (TJ10 b).2.1 := by decide +kernel
theorem tyJ10_ok : ∀ k, k < 0 → parseFieldDescriptor (TJ10 k).2.2.1 = some (tyJ10 k) := by decide +kernel
def RL : String := "HillLayersLaw"
abbrev cL_cell : ByteArray := method_2_code
def yL_cell : MethodName := ⟨RL, "cell", "([II)I"⟩
abbrev cL_law : ByteArray := code
def yL_law : MethodName := ⟨RL, "law", "([I)Z"⟩
def wsL_law_r1 : List Cond := [Cond.classLink RL 7 RX5, Cond.instantiable RX5 4, Cond.initialized RX5, Cond.classLink RL 18 RX6, Cond.instantiable RX6 19, Cond.initialized RX6, Cond.methodLink RL 9 yL_cell, Cond.static yL_cell, Cond.initialized RL, Cond.code yL_cell cL_cell 2 (some .int), Cond.methodLink RL 15 yX5_init, Cond.instanceMethod yX5_init, Cond.code yX5_init cX5_init 5 none, Cond.methodLink RX5 1 objectInit, Cond.instanceMethod objectInit, Cond.code objectInit ⟨#[0xb1]⟩ 1 none, Cond.methodLink RX5 7 Lib.Math.min.name, Cond.static Lib.Math.min.name, Cond.initialized "java/lang/Math", Cond.code Lib.Math.min.name Lib.Math.min.code 2 (some .int), Cond.methodLink RX5 13 Lib.Math.max.name, Cond.static Lib.Math.max.name, Cond.code Lib.Math.max.name Lib.Math.max.code 2 (some .int), Cond.classLink RX5 16 RX2]
def wsL_law_r2 : List Cond := [Cond.instantiable RX2 7, Cond.initialized RX2, Cond.fieldLink RX5 21 "HillLayers" "rock" "LHillLayers$Rock;", Cond.classLink RX5 27 RX4, Cond.instantiable RX4 2, Cond.initialized RX4, Cond.fieldLink RX5 30 "HillLayers" "sights" "LHillLayers$Sights;", Cond.classLink RX5 34 RX0, Cond.instantiable RX0 9, Cond.initialized RX0, Cond.fieldLink RX5 39 "HillLayers" "bodies" "LHillLayers$Bodies;", Cond.arrayClass .int, Cond.fieldLink RX5 43 "HillLayers" "grounds" "[I", Cond.methodLink RX5 18 yX2_init, Cond.instanceMethod yX2_init, Cond.code yX2_init cX2_init 4 none, Cond.methodLink RX2 3 objectInit, Cond.methodLink RX2 9 Lib.Math.max.name, Cond.fieldLink RX2 15 "HillLayers$Rock" "columns" "I", Cond.fieldLink RX2 21 "HillLayers$Rock" "surfaces" "I", Cond.fieldLink RX2 24 "HillLayers$Rock" "thickFrom" "[I", Cond.fieldLink RX2 28 "HillLayers$Rock" "thickTo" "[I", Cond.fieldLink RX2 31 "HillLayers$Rock" "steepest" "[I", Cond.fieldLink RX2 34 "HillLayers$Rock" "throwAfter" "[I"]
def wsL_law_r3 : List Cond := [Cond.arrayClass .boolean, Cond.fieldLink RX2 37 "HillLayers$Rock" "brokenAfter" "[Z", Cond.instanceMethod yX4_init, Cond.code yX4_init cX4_init 1 none, Cond.methodLink RX4 3 objectInit, Cond.classLink RX4 9 RX3, Cond.fieldLink RX4 11 "HillLayers$Sights" "byNumber" "[LHillLayers$Sight;", Cond.fieldLink RX4 17 "HillLayers$Sights" "came" "I", Cond.methodLink RX5 36 yX0_init, Cond.instanceMethod yX0_init, Cond.code yX0_init cX0_init 4 none, Cond.methodLink RX0 3 objectInit, Cond.classLink RX0 9 RX1, Cond.fieldLink RX0 11 "HillLayers$Bodies" "steps" "[LHillLayers$Gaps;", Cond.fieldLink RX0 17 "HillLayers$Bodies" "rockIsBound" "Z", Cond.fieldLink RX0 21 "HillLayers$Bodies" "quarrelIsFound" "Z", Cond.fieldLink RX0 24 "HillLayers$Bodies" "hillStands" "Z", Cond.fieldLink RX0 27 "HillLayers$Bodies" "leftOut" "I", Cond.fieldLink RX0 31 "HillLayers$Bodies" "rock" "LHillLayers$Rock;", Cond.fieldLink RX0 35 "HillLayers$Bodies" "sights" "LHillLayers$Sights;", Cond.instantiable RX1 2, Cond.initialized RX1, Cond.fieldLink RX0 48 "HillLayers$Bodies" "withoutSights" "LHillLayers$Gaps;", Cond.fieldLink RX0 52 "HillLayers$Bodies" "agreed" "LHillLayers$Gaps;"]
def wsL_law_r4 : List Cond := [Cond.methodLink RX0 39 yX2_places, Cond.instanceMethod yX2_places, Cond.selects RX2 yX2_places yX2_places, Cond.code yX2_places cX2_places 1 (some .int), Cond.methodLink RX0 45 yX1_init, Cond.instanceMethod yX1_init, Cond.code yX1_init cX1_init 2 none, Cond.methodLink RX1 3 objectInit, Cond.methodLink RX1 9 Lib.Math.max.name, Cond.fieldLink RX1 15 "HillLayers$Gaps" "size" "I", Cond.fieldLink RX1 21 "HillLayers$Gaps" "widths" "[I", Cond.methodLink RL 20 yX6_init, Cond.instanceMethod yX6_init, Cond.code yX6_init cX6_init 4 none, Cond.methodLink RX6 3 objectInit, Cond.fieldLink RX6 9 "HillLayersModel" "thickFrom" "[I", Cond.fieldLink RX6 13 "HillLayersModel" "thickTo" "[I", Cond.fieldLink RX6 16 "HillLayersModel" "steep" "[I", Cond.fieldLink RX6 19 "HillLayersModel" "isFault" "[Z", Cond.fieldLink RX6 23 "HillLayersModel" "thrown" "[I", Cond.fieldLink RX6 26 "HillLayersModel" "ground" "[I", Cond.fieldLink RX6 29 "HillLayersModel" "where" "[I", Cond.fieldLink RX6 32 "HillLayersModel" "told" "[I", Cond.fieldLink RX6 35 "HillLayersModel" "miss" "[I"]
def wsL_law_r5 : List Cond := [Cond.fieldLink RX6 38 "HillLayersModel" "isThere" "[Z", Cond.fieldLink RX6 41 "HillLayersModel" "most" "[I", Cond.fieldLink RX6 44 "HillLayersModel" "base" "[I", Cond.fieldLink RX6 47 "HillLayersModel" "badWith" "[I", Cond.fieldLink RX6 50 "HillLayersModel" "w" "I", Cond.fieldLink RX6 54 "HillLayersModel" "s" "I", Cond.methodLink RL 21 yX5_thick, Cond.instanceMethod yX5_thick, Cond.selects RX5 yX5_thick yX5_thick, Cond.code yX5_thick cX5_thick 4 (some .boolean), Cond.methodLink RX5 47 yX2_hasSurface, Cond.instanceMethod yX2_hasSurface, Cond.selects RX2 yX2_hasSurface yX2_hasSurface, Cond.code yX2_hasSurface cX2_hasSurface 2 (some .boolean), Cond.methodLink RX5 51 yX5_isDepth, Cond.static yX5_isDepth, Cond.code yX5_isDepth cX5_isDepth 1 (some .boolean), Cond.methodLink RX5 54 yX2_setThick, Cond.instanceMethod yX2_setThick, Cond.selects RX2 yX2_setThick yX2_setThick, Cond.code yX2_setThick cX2_setThick 4 none, Cond.methodLink RX2 41 yX2_hasSurface, Cond.methodLink RX5 58 yX0_forgetRock, Cond.instanceMethod yX0_forgetRock]
def wsL_law_r6 : List Cond := [Cond.selects RX0 yX0_forgetRock yX0_forgetRock, Cond.code yX0_forgetRock cX0_forgetRock 1 none, Cond.methodLink RL 25 yX6_thick, Cond.instanceMethod yX6_thick, Cond.selects RX6 yX6_thick yX6_thick, Cond.code yX6_thick cX6_thick 4 (some .boolean), Cond.fieldLink RX6 61 "HillLayersModel" "isReckoned" "Z", Cond.methodLink RX6 57 yX6_in, Cond.static yX6_in, Cond.code yX6_in cX6_in 3 (some .boolean), Cond.methodLink RL 26 yX5_steep, Cond.instanceMethod yX5_steep, Cond.selects RX5 yX5_steep yX5_steep, Cond.code yX5_steep cX5_steep 3 (some .boolean), Cond.methodLink RX5 61 yX2_setSteep, Cond.instanceMethod yX2_setSteep, Cond.selects RX2 yX2_setSteep yX2_setSteep, Cond.code yX2_setSteep cX2_setSteep 3 none, Cond.methodLink RL 30 yX6_steep, Cond.instanceMethod yX6_steep, Cond.selects RX6 yX6_steep yX6_steep, Cond.code yX6_steep cX6_steep 3 (some .boolean), Cond.methodLink RL 31 yX5_fault, Cond.instanceMethod yX5_fault]
def wsL_law_r7 : List Cond := [Cond.selects RX5 yX5_fault yX5_fault, Cond.code yX5_fault cX5_fault 3 (some .boolean), Cond.methodLink RX5 64 yX2_hasNextColumn, Cond.instanceMethod yX2_hasNextColumn, Cond.selects RX2 yX2_hasNextColumn yX2_hasNextColumn, Cond.code yX2_hasNextColumn cX2_hasNextColumn 2 (some .boolean), Cond.methodLink RX5 67 yX5_isWithin, Cond.static yX5_isWithin, Cond.code yX5_isWithin cX5_isWithin 2 (some .boolean), Cond.methodLink RX5 71 yX2_breakAt, Cond.instanceMethod yX2_breakAt, Cond.selects RX2 yX2_breakAt yX2_breakAt, Cond.code yX2_breakAt cX2_breakAt 3 none, Cond.methodLink RX2 50 yX2_hasNextColumn, Cond.methodLink RL 34 yX6_fault, Cond.instanceMethod yX6_fault, Cond.selects RX6 yX6_fault yX6_fault, Cond.code yX6_fault cX6_fault 3 (some .boolean), Cond.methodLink RL 35 yX5_heal, Cond.instanceMethod yX5_heal, Cond.selects RX5 yX5_heal yX5_heal, Cond.code yX5_heal cX5_heal 2 (some .boolean), Cond.methodLink RX5 74 yX2_isBroken, Cond.instanceMethod yX2_isBroken]
def wsL_law_r8 : List Cond := [Cond.selects RX2 yX2_isBroken yX2_isBroken, Cond.code yX2_isBroken cX2_isBroken 2 (some .boolean), Cond.methodLink RX5 77 yX2_mendAt, Cond.instanceMethod yX2_mendAt, Cond.selects RX2 yX2_mendAt yX2_mendAt, Cond.code yX2_mendAt cX2_mendAt 2 none, Cond.methodLink RL 39 yX6_heal, Cond.instanceMethod yX6_heal, Cond.selects RX6 yX6_heal yX6_heal, Cond.code yX6_heal cX6_heal 2 (some .boolean), Cond.methodLink RL 40 yX5_ground, Cond.instanceMethod yX5_ground, Cond.selects RX5 yX5_ground yX5_ground, Cond.code yX5_ground cX5_ground 3 (some .boolean), Cond.methodLink RL 43 yX6_ground, Cond.instanceMethod yX6_ground, Cond.selects RX6 yX6_ground yX6_ground, Cond.code yX6_ground cX6_ground 3 (some .boolean), Cond.methodLink RL 44 yX5_sight, Cond.instanceMethod yX5_sight, Cond.selects RX5 yX5_sight yX5_sight, Cond.code yX5_sight cX5_sight 8 (some .int), Cond.classLink RX5 84 RX3, Cond.instantiable RX3 5]
def wsL_law_r9 : List Cond := [Cond.initialized RX3, Cond.methodLink RX5 81 yX2_hasPlace, Cond.instanceMethod yX2_hasPlace, Cond.selects RX2 yX2_hasPlace yX2_hasPlace, Cond.code yX2_hasPlace cX2_hasPlace 3 (some .boolean), Cond.methodLink RX2 45 yX2_hasColumn, Cond.instanceMethod yX2_hasColumn, Cond.selects RX2 yX2_hasColumn yX2_hasColumn, Cond.code yX2_hasColumn cX2_hasColumn 2 (some .boolean), Cond.methodLink RX5 86 yX3_init, Cond.instanceMethod yX3_init, Cond.code yX3_init cX3_init 6 none, Cond.methodLink RX3 3 objectInit, Cond.fieldLink RX3 9 "HillLayers$Sight" "surface" "I", Cond.fieldLink RX3 15 "HillLayers$Sight" "column" "I", Cond.fieldLink RX3 18 "HillLayers$Sight" "kind" "I", Cond.fieldLink RX3 21 "HillLayers$Sight" "z" "I", Cond.fieldLink RX3 24 "HillLayers$Sight" "miss" "I", Cond.methodLink RX5 89 yX4_add, Cond.instanceMethod yX4_add, Cond.selects RX4 yX4_add yX4_add, Cond.code yX4_add cX4_add 2 (some .int), Cond.methodLink RX5 93 yX0_forgetQuarrel, Cond.instanceMethod yX0_forgetQuarrel]
def wsL_law_r10 : List Cond := [Cond.selects RX0 yX0_forgetQuarrel yX0_forgetQuarrel, Cond.code yX0_forgetQuarrel cX0_forgetQuarrel 1 none, Cond.methodLink RL 48 yX6_sight, Cond.instanceMethod yX6_sight, Cond.selects RX6 yX6_sight yX6_sight, Cond.code yX6_sight cX6_sight 4 (some .int), Cond.fieldLink RX6 69 "HillLayersModel" "sights" "I", Cond.methodLink RX6 65 yX6_isPlace, Cond.instanceMethod yX6_isPlace, Cond.selects RX6 yX6_isPlace yX6_isPlace, Cond.code yX6_isPlace cX6_isPlace 3 (some .boolean), Cond.methodLink RL 49 yX5_take, Cond.instanceMethod yX5_take, Cond.selects RX5 yX5_take yX5_take, Cond.code yX5_take cX5_take 2 (some .boolean), Cond.methodLink RX5 96 yX4_remove, Cond.instanceMethod yX4_remove, Cond.selects RX4 yX4_remove yX4_remove, Cond.code yX4_remove cX4_remove 2 (some .boolean), Cond.methodLink RX4 21 yX4_at, Cond.instanceMethod yX4_at, Cond.selects RX4 yX4_at yX4_at, Cond.code yX4_at cX4_at 2 (some (.object "HillLayers$Sight")), Cond.methodLink RL 52 yX6_take]
def wsL_law_r11 : List Cond := [Cond.instanceMethod yX6_take, Cond.selects RX6 yX6_take yX6_take, Cond.code yX6_take cX6_take 2 (some .boolean), Cond.methodLink RX6 72 yX6_isSight, Cond.instanceMethod yX6_isSight, Cond.selects RX6 yX6_isSight yX6_isSight, Cond.code yX6_isSight cX6_isSight 2 (some .boolean), Cond.methodLink RL 53 yX5_quarrel, Cond.instanceMethod yX5_quarrel, Cond.selects RX5 yX5_quarrel yX5_quarrel, Cond.code yX5_quarrel cX5_quarrel 1 (some .int), Cond.methodLink RX5 99 yX0_areSome, Cond.instanceMethod yX0_areSome, Cond.selects RX0 yX0_areSome yX0_areSome, Cond.code yX0_areSome cX0_areSome 1 (some .boolean), Cond.methodLink RX0 55 yX1_clear, Cond.instanceMethod yX1_clear, Cond.selects RX1 yX1_clear yX1_clear, Cond.code yX1_clear cX1_clear 4 none, Cond.methodLink RX0 58 yX2_bind, Cond.instanceMethod yX2_bind, Cond.selects RX2 yX2_bind yX2_bind, Cond.code yX2_bind cX2_bind 4 (some .boolean), Cond.methodLink RX2 56 yX2_bindThick]
def wsL_law_r12 : List Cond := [Cond.instanceMethod yX2_bindThick, Cond.selects RX2 yX2_bindThick yX2_bindThick, Cond.code yX2_bindThick cX2_bindThick 6 (some .boolean), Cond.methodLink RX2 63 yX2_hasPlace, Cond.methodLink RX2 67 yX2_placeOf, Cond.instanceMethod yX2_placeOf, Cond.selects RX2 yX2_placeOf yX2_placeOf, Cond.code yX2_placeOf cX2_placeOf 3 (some .int), Cond.methodLink RX2 70 yX1_hold, Cond.instanceMethod yX1_hold, Cond.selects RX1 yX1_hold yX1_hold, Cond.code yX1_hold cX1_hold 5 (some .boolean), Cond.methodLink RX1 31 yX1_isPlace, Cond.instanceMethod yX1_isPlace, Cond.selects RX1 yX1_isPlace yX1_isPlace, Cond.code yX1_isPlace cX1_isPlace 2 (some .boolean), Cond.methodLink RX1 38 yX1_narrow, Cond.instanceMethod yX1_narrow, Cond.selects RX1 yX1_narrow yX1_narrow, Cond.code yX1_narrow cX1_narrow 8 none, Cond.methodLink RX1 42 Lib.Math.min.name, Cond.methodLink RX2 60 yX2_bindStep, Cond.instanceMethod yX2_bindStep, Cond.selects RX2 yX2_bindStep yX2_bindStep]
def wsL_law_r13 : List Cond := [Cond.code yX2_bindStep cX2_bindStep 8 (some .boolean), Cond.methodLink RX0 62 yX0_findQuarrel, Cond.instanceMethod yX0_findQuarrel, Cond.selects RX0 yX0_findQuarrel yX0_findQuarrel, Cond.code yX0_findQuarrel cX0_findQuarrel 1 none, Cond.methodLink RX0 77 Lib.Math.min.name, Cond.methodLink RX0 65 yX4_heap, Cond.instanceMethod yX4_heap, Cond.selects RX4 yX4_heap yX4_heap, Cond.code yX4_heap cX4_heap 3 (some .int), Cond.methodLink RX0 70 yX1_copyFrom, Cond.instanceMethod yX1_copyFrom, Cond.selects RX1 yX1_copyFrom yX1_copyFrom, Cond.code yX1_copyFrom cX1_copyFrom 2 none, Cond.methodLink RX1 25 arraycopyName, Cond.native arraycopyName, Cond.static arraycopyName, Cond.initialized "java/lang/System", Cond.methodLink RX0 74 yX4_came, Cond.instanceMethod yX4_came, Cond.selects RX4 yX4_came yX4_came, Cond.code yX4_came cX4_came 1 (some .int), Cond.methodLink RX0 83 yX0_decide, Cond.static yX0_decide]
def wsL_law_r14 : List Cond := [Cond.code yX0_decide cX0_decide 7 none, Cond.methodLink RX0 87 yJ6_bitCount_0f7a4, Cond.static yJ6_bitCount_0f7a4, Cond.initialized RJ6, Cond.code yJ6_bitCount_0f7a4 cJ6_bitCount_0f7a4 1 (some .int), Cond.constant RJ6 265 (1431655765), Cond.constant RJ6 266 (858993459), Cond.constant RJ6 267 (252645135), Cond.methodLink RX0 93 yX4_at, Cond.methodLink RX0 97 yX3_bind, Cond.instanceMethod yX3_bind, Cond.selects RX3 yX3_bind yX3_bind, Cond.code yX3_bind cX3_bind 4 (some .boolean), Cond.methodLink RX3 27 yX2_placeOf, Cond.methodLink RX3 35 yX1_hold, Cond.methodLink RX5 103 yX0_leftOut, Cond.instanceMethod yX0_leftOut, Cond.selects RX0 yX0_leftOut yX0_leftOut, Cond.code yX0_leftOut cX0_leftOut 1 (some .int), Cond.methodLink RL 57 yX6_quarrel, Cond.instanceMethod yX6_quarrel, Cond.selects RX6 yX6_quarrel yX6_quarrel, Cond.code yX6_quarrel cX6_quarrel 1 (some .int), Cond.fieldLink RX6 121 "HillLayersModel" "quarrels" "I"]
def wsL_law_r15 : List Cond := [Cond.methodLink RX6 124 yX6_reckons, Cond.instanceMethod yX6_reckons, Cond.selects RX6 yX6_reckons yX6_reckons, Cond.code yX6_reckons cX6_reckons 1 (some .boolean), Cond.fieldLink RX6 107 "HillLayersModel" "isHill" "Z", Cond.methodLink RX6 103 yX6_found, Cond.instanceMethod yX6_found, Cond.selects RX6 yX6_found yX6_found, Cond.code yX6_found cX6_found 4 (some .boolean), Cond.methodLink RX6 110 yX6_stands, Cond.instanceMethod yX6_stands, Cond.selects RX6 yX6_stands yX6_stands, Cond.code yX6_stands cX6_stands 5 (some .boolean), Cond.constant RX6 80 (100000), Cond.constant RX6 89 (50000), Cond.methodLink RX6 81 yX6_node, Cond.static yX6_node, Cond.code yX6_node cX6_node 2 (some .int), Cond.methodLink RX6 76 yX6_bounds, Cond.instanceMethod yX6_bounds, Cond.selects RX6 yX6_bounds yX6_bounds, Cond.code yX6_bounds cX6_bounds 4 none, Cond.methodLink RX6 85 yX6_within, Cond.instanceMethod yX6_within]
def wsL_law_r16 : List Cond := [Cond.selects RX6 yX6_within yX6_within, Cond.code yX6_within cX6_within 5 none, Cond.methodLink RX6 113 yX6_pairs, Cond.instanceMethod yX6_pairs, Cond.selects RX6 yX6_pairs yX6_pairs, Cond.code yX6_pairs cX6_pairs 5 none, Cond.methodLink RX6 100 yX6_agrees, Cond.instanceMethod yX6_agrees, Cond.selects RX6 yX6_agrees yX6_agrees, Cond.code yX6_agrees cX6_agrees 3 (some .boolean), Cond.methodLink RX6 97 yX6_sees, Cond.instanceMethod yX6_sees, Cond.selects RX6 yX6_sees yX6_sees, Cond.code yX6_sees cX6_sees 4 (some .boolean), Cond.methodLink RX6 93 yX6_addsWithin, Cond.instanceMethod yX6_addsWithin, Cond.selects RX6 yX6_addsWithin yX6_addsWithin, Cond.code yX6_addsWithin cX6_addsWithin 5 (some .boolean), Cond.methodLink RX6 90 yX6_adds, Cond.instanceMethod yX6_adds, Cond.selects RX6 yX6_adds yX6_adds, Cond.code yX6_adds cX6_adds 7 (some .boolean), Cond.methodLink RX6 117 yX6_bits, Cond.static yX6_bits]
def wsL_law_r17 : List Cond := [Cond.code yX6_bits cX6_bits 3 (some .int), Cond.methodLink RL 58 yX5_span, Cond.instanceMethod yX5_span, Cond.selects RX5 yX5_span yX5_span, Cond.code yX5_span cX5_span 4 (some .int), Cond.methodLink RX5 107 yX5_isEnd, Cond.static yX5_isEnd, Cond.code yX5_isEnd cX5_isEnd 1 (some .boolean), Cond.methodLink RX5 110 yX2_placeOf, Cond.methodLink RX5 113 yX5_end, Cond.instanceMethod yX5_end, Cond.selects RX5 yX5_end yX5_end, Cond.code yX5_end cX5_end 4 (some .int), Cond.methodLink RX5 116 yX0_agreed, Cond.instanceMethod yX0_agreed, Cond.selects RX0 yX0_agreed yX0_agreed, Cond.code yX0_agreed cX0_agreed 1 (some (.object "HillLayers$Gaps")), Cond.methodLink RX5 175 yX1_least, Cond.instanceMethod yX1_least, Cond.selects RX1 yX1_least yX1_least, Cond.code yX1_least cX1_least 2 (some .int), Cond.methodLink RX1 35 yX1_most, Cond.instanceMethod yX1_most, Cond.selects RX1 yX1_most yX1_most]
def wsL_law_r18 : List Cond := [Cond.code yX1_most cX1_most 3 (some .int), Cond.methodLink RX5 178 yX1_greatest, Cond.instanceMethod yX1_greatest, Cond.selects RX1 yX1_greatest yX1_greatest, Cond.code yX1_greatest cX1_greatest 2 (some .int), Cond.methodLink RL 61 yX6_span, Cond.instanceMethod yX6_span, Cond.selects RX6 yX6_span yX6_span, Cond.code yX6_span cX6_span 4 (some .int), Cond.methodLink RX6 127 yX6_low, Cond.instanceMethod yX6_low, Cond.selects RX6 yX6_low yX6_low, Cond.code yX6_low cX6_low 2 (some .int), Cond.methodLink RX6 130 yX6_high, Cond.instanceMethod yX6_high, Cond.selects RX6 yX6_high yX6_high, Cond.code yX6_high cX6_high 2 (some .int), Cond.methodLink RL 62 yX5_open, Cond.instanceMethod yX5_open, Cond.selects RX5 yX5_open yX5_open, Cond.code yX5_open cX5_open 1 (some .int), Cond.methodLink RX5 120 yX1_openSum, Cond.instanceMethod yX1_openSum, Cond.selects RX1 yX1_openSum yX1_openSum]
def wsL_law_r19 : List Cond := [Cond.code yX1_openSum cX1_openSum 3 (some .int), Cond.methodLink RX1 45 yX1_greatest, Cond.methodLink RX1 49 yX1_least, Cond.methodLink RL 65 yX6_open, Cond.instanceMethod yX6_open, Cond.selects RX6 yX6_open yX6_open, Cond.code yX6_open cX6_open 1 (some .int), Cond.methodLink RX6 133 yX6_opens, Cond.instanceMethod yX6_opens, Cond.selects RX6 yX6_opens yX6_opens, Cond.code yX6_opens cX6_opens 4 (some .int), Cond.methodLink RL 66 yX5_layer, Cond.instanceMethod yX5_layer, Cond.selects RX5 yX5_layer yX5_layer, Cond.code yX5_layer cX5_layer 7 (some .int), Cond.methodLink RX5 125 yX2_surfaces, Cond.instanceMethod yX2_surfaces, Cond.selects RX2 yX2_surfaces yX2_surfaces, Cond.code yX2_surfaces cX2_surfaces 1 (some .int), Cond.methodLink RL 70 yX6_layer, Cond.instanceMethod yX6_layer, Cond.selects RX6 yX6_layer yX6_layer, Cond.code yX6_layer cX6_layer 6 (some .int), Cond.methodLink RL 71 yX5_between]
def wsL_law_r20 : List Cond := [Cond.instanceMethod yX5_between, Cond.selects RX5 yX5_between yX5_between, Cond.code yX5_between cX5_between 7 (some .int), Cond.constant RX5 131 (-2147483648), Cond.methodLink RX5 128 yX5_isPlaceCode, Cond.instanceMethod yX5_isPlaceCode, Cond.selects RX5 yX5_isPlaceCode yX5_isPlaceCode, Cond.code yX5_isPlaceCode cX5_isPlaceCode 2 (some .boolean), Cond.methodLink RX5 132 yX1_most, Cond.methodLink RL 74 yX6_between, Cond.instanceMethod yX6_between, Cond.selects RX6 yX6_between yX6_between, Cond.code yX6_between cX6_between 6 (some .int), Cond.constant RX6 137 (-2147483648), Cond.methodLink RL 75 yX5_worn, Cond.instanceMethod yX5_worn, Cond.selects RX5 yX5_worn yX5_worn, Cond.code yX5_worn cX5_worn 4 (some .int), Cond.methodLink RL 78 yX6_worn, Cond.instanceMethod yX6_worn, Cond.selects RX6 yX6_worn yX6_worn, Cond.code yX6_worn cX6_worn 4 (some .int), Cond.methodLink RL 79 yX5_tells, Cond.instanceMethod yX5_tells]
def wsL_law_r21 : List Cond := [Cond.selects RX5 yX5_tells yX5_tells, Cond.code yX5_tells cX5_tells 3 (some .int), Cond.methodLink RX5 135 yX5_gain, Cond.instanceMethod yX5_gain, Cond.selects RX5 yX5_gain yX5_gain, Cond.code yX5_gain cX5_gain 5 (some .int), Cond.methodLink RX5 181 yX1_openSumAfterBore, Cond.instanceMethod yX1_openSumAfterBore, Cond.selects RX1 yX1_openSumAfterBore yX1_openSumAfterBore, Cond.code yX1_openSumAfterBore cX1_openSumAfterBore 7 (some .int), Cond.methodLink RL 82 yX6_tells, Cond.instanceMethod yX6_tells, Cond.selects RX6 yX6_tells yX6_tells, Cond.code yX6_tells cX6_tells 3 (some .int), Cond.methodLink RX6 141 yX6_tellsAt, Cond.instanceMethod yX6_tellsAt, Cond.selects RX6 yX6_tellsAt yX6_tellsAt, Cond.code yX6_tellsAt cX6_tellsAt 4 (some .int), Cond.methodLink RX6 138 yX6_opensBy, Cond.instanceMethod yX6_opensBy, Cond.selects RX6 yX6_opensBy yX6_opensBy, Cond.code yX6_opensBy cX6_opensBy 9 (some .int), Cond.methodLink RL 83 yX5_next, Cond.instanceMethod yX5_next]
def wsL_law_r22 : List Cond := [Cond.selects RX5 yX5_next yX5_next, Cond.code yX5_next cX5_next 6 (some .int), Cond.methodLink RX5 139 yX2_columns, Cond.instanceMethod yX2_columns, Cond.selects RX2 yX2_columns yX2_columns, Cond.code yX2_columns cX2_columns 1 (some .int), Cond.methodLink RL 86 yX6_next, Cond.instanceMethod yX6_next, Cond.selects RX6 yX6_next yX6_next, Cond.code yX6_next cX6_next 6 (some .int), Cond.methodLink RL 87 yX5_bend, Cond.instanceMethod yX5_bend, Cond.selects RX5 yX5_bend yX5_bend, Cond.code yX5_bend cX5_bend 8 (some .int), Cond.methodLink RX5 142 Lib.Math.abs.name, Cond.static Lib.Math.abs.name, Cond.code Lib.Math.abs.name Lib.Math.abs.code 1 (some .int), Cond.methodLink RL 91 yX6_bend, Cond.instanceMethod yX6_bend, Cond.selects RX6 yX6_bend yX6_bend, Cond.code yX6_bend cX6_bend 6 (some .int), Cond.methodLink RX6 144 yX6_depth, Cond.instanceMethod yX6_depth, Cond.selects RX6 yX6_depth yX6_depth]
def wsL_law_r23 : List Cond := [Cond.code yX6_depth cX6_depth 4 (some .int), Cond.methodLink RL 92 yX5_told, Cond.instanceMethod yX5_told, Cond.selects RX5 yX5_told yX5_told, Cond.code yX5_told cX5_told 4 (some .int), Cond.methodLink RX5 145 yX4_at, Cond.methodLink RX5 149 yX3_surface, Cond.instanceMethod yX3_surface, Cond.selects RX3 yX3_surface yX3_surface, Cond.code yX3_surface cX3_surface 1 (some .int), Cond.methodLink RX5 152 yX3_column, Cond.instanceMethod yX3_column, Cond.selects RX3 yX3_column yX3_column, Cond.code yX3_column cX3_column 1 (some .int), Cond.methodLink RX5 155 yX3_kind, Cond.instanceMethod yX3_kind, Cond.selects RX3 yX3_kind yX3_kind, Cond.code yX3_kind cX3_kind 1 (some .int), Cond.methodLink RX5 158 yX3_z, Cond.instanceMethod yX3_z, Cond.selects RX3 yX3_z yX3_z, Cond.code yX3_z cX3_z 1 (some .int), Cond.methodLink RX5 161 yX3_miss, Cond.instanceMethod yX3_miss]
def wsL_law_r24 : List Cond := [Cond.selects RX3 yX3_miss yX3_miss, Cond.code yX3_miss cX3_miss 1 (some .int), Cond.methodLink RL 95 yX6_told, Cond.instanceMethod yX6_told, Cond.selects RX6 yX6_told yX6_told, Cond.code yX6_told cX6_told 3 (some .int), Cond.methodLink RL 96 yX5_count, Cond.instanceMethod yX5_count, Cond.selects RX5 yX5_count yX5_count, Cond.code yX5_count cX5_count 2 (some .int), Cond.methodLink RX5 164 yX4_heap, Cond.methodLink RX5 167 yJ6_bitCount_0f7a4, Cond.methodLink RX5 172 yX2_faults, Cond.instanceMethod yX2_faults, Cond.selects RX2 yX2_faults yX2_faults, Cond.code yX2_faults cX2_faults 3 (some .int), Cond.methodLink RX2 53 yX2_isBroken, Cond.methodLink RL 99 yX6_count, Cond.instanceMethod yX6_count, Cond.selects RX6 yX6_count yX6_count, Cond.code yX6_count cX6_count 4 (some .int)]
def wsL_law : List Cond := (wsL_law_r1 ++ (wsL_law_r2 ++ (wsL_law_r3 ++ (wsL_law_r4 ++ (wsL_law_r5 ++ (wsL_law_r6 ++ (wsL_law_r7 ++ (wsL_law_r8 ++ (wsL_law_r9 ++ (wsL_law_r10 ++ (wsL_law_r11 ++ (wsL_law_r12 ++ (wsL_law_r13 ++ (wsL_law_r14 ++ (wsL_law_r15 ++ (wsL_law_r16 ++ (wsL_law_r17 ++ (wsL_law_r18 ++ (wsL_law_r19 ++ (wsL_law_r20 ++ (wsL_law_r21 ++ (wsL_law_r22 ++ (wsL_law_r23 ++ wsL_law_r24))))))))))))))))))))))) ++ wsX50 ++ wsX60 ++ wsX20 ++ wsX40 ++ wsX00 ++ wsX10 ++ wsX30 ++ ([] : List Cond)
set_option maxRecDepth 20000 in
theorem wsL_law_in : ∀ w ∈ wsL_law, w ∈ lw_tbl := fun w h => (goodIn_p wsL_law [484, 41, 44, 47, 50, 55, 86, 101, 109, 112, 489, 166, 170, 173, 177, 182, 552, 555, 186, 190, 559, 194, 198, 201, 205, 563, 210, 214, 218, 567, 222, 571, 226, 230, 234, 239, 260, 264, 575, 579, 268, 272, 276, 583, 587, 280, 284, 288, 292, 296, 301, 305, 309, 313, 318, 322, 326, 330, 337, 341, 344, 352, 358, 591, 595, 599, 603, 607, 611, 615, 620, 624, 628, 632, 636, 639, 362, 365, 370, 374, 378, 382, 386, 643, 647, 651, 390, 394, 655, 659, 400, 404, 663, 408, 412, 667, 418, 672, 422, 426, 430, 676, 680, 684, 434, 438, 688, 442, 445, 692, 696, 449, 454, 458, 462, 466, 470, 700, 474, 480, 704] (by decide +kernel) (by decide +kernel) w h).1
theorem inlX0 : ∀ w ∈ wsX00, w ∈ wsL_law := fun _ h => List.mem_append_left _ (List.mem_append_left _ (List.mem_append_left _ (List.mem_append_right _ h)))
theorem inX0 : ∀ w ∈ wsX00, w ∈ lw_tbl := fun w h => wsL_law_in w (inlX0 w h)
theorem inlX1 : ∀ w ∈ wsX10, w ∈ wsL_law := fun _ h => List.mem_append_left _ (List.mem_append_left _ (List.mem_append_right _ h))
theorem inX1 : ∀ w ∈ wsX10, w ∈ lw_tbl := fun w h => wsL_law_in w (inlX1 w h)
theorem inlX2 : ∀ w ∈ wsX20, w ∈ wsL_law := fun _ h => List.mem_append_left _ (List.mem_append_left _ (List.mem_append_left _ (List.mem_append_left _ (List.mem_append_left _ (List.mem_append_right _ h)))))
theorem inX2 : ∀ w ∈ wsX20, w ∈ lw_tbl := fun w h => wsL_law_in w (inlX2 w h)
theorem inlX3 : ∀ w ∈ wsX30, w ∈ wsL_law := fun _ h => List.mem_append_left _ (List.mem_append_right _ h)
theorem inX3 : ∀ w ∈ wsX30, w ∈ lw_tbl := fun w h => wsL_law_in w (inlX3 w h)
theorem inlX4 : ∀ w ∈ wsX40, w ∈ wsL_law := fun _ h => List.mem_append_left _ (List.mem_append_left _ (List.mem_append_left _ (List.mem_append_left _ (List.mem_append_right _ h))))
theorem inX4 : ∀ w ∈ wsX40, w ∈ lw_tbl := fun w h => wsL_law_in w (inlX4 w h)
theorem inlX5 : ∀ w ∈ wsX50, w ∈ wsL_law := fun _ h => List.mem_append_left _ (List.mem_append_left _ (List.mem_append_left _ (List.mem_append_left _ (List.mem_append_left _ (List.mem_append_left _ (List.mem_append_left _ (List.mem_append_right _ h)))))))
theorem inX5 : ∀ w ∈ wsX50, w ∈ lw_tbl := fun w h => wsL_law_in w (inlX5 w h)
theorem inlX6 : ∀ w ∈ wsX60, w ∈ wsL_law := fun _ h => List.mem_append_left _ (List.mem_append_left _ (List.mem_append_left _ (List.mem_append_left _ (List.mem_append_left _ (List.mem_append_left _ (List.mem_append_right _ h))))))
theorem inX6 : ∀ w ∈ wsX60, w ∈ lw_tbl := fun w h => wsL_law_in w (inlX6 w h)
theorem inJ6 : ∀ w ∈ wsJ60, w ∈ lw_tbl := by decide +kernel
theorem inJ9 : ∀ w ∈ wsJ90, w ∈ lw_tbl := by decide +kernel
theorem inJ10 : ∀ w ∈ wsJ100, w ∈ lw_tbl := by decide +kernel
abbrev vwCl : List vw_C := [(RX0, TX0, 9), (RX1, TX1, 2), (RX2, TX2, 7), (RX3, TX3, 5), (RX4, TX4, 2), (RX5, TX5, 4), (RX6, TX6, 19)]
