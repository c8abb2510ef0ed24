/-! ===== BEGIN words of one list among another's, by their places ===== -/
theorem goodIn_r {big : List Cond} (ws : List Cond) (ps : List Nat) (hp : ws = ps.filterMap (fun i => big[i]?)) (h : ws.all goodWord = true) : GoodIn big ws := by
  intro w hw
  have h1 := List.all_eq_true.mp h w hw
  rw [hp] at hw
  obtain ⟨i, -, hi⟩ := List.mem_filterMap.mp hw
  have hm : w ∈ big := by first | exact List.mem_of_getElem? hi | exact List.getElem?_mem hi
  exact ⟨hm, good_of_word h1⟩
theorem goodIn_app {big a b : List Cond} (ha : GoodIn big a) (hb : GoodIn big b) : GoodIn big (a ++ b) := fun w h => (List.mem_append.mp h).elim (ha w) (hb w)
theorem goodIn_ca {big a b : List Cond} {c : Cond} (ha : GoodIn big (c :: a)) (hb : GoodIn big b) : GoodIn big (c :: (a ++ b)) := fun w h => (List.mem_cons.mp h).elim (fun e => ha w (List.mem_cons.mpr (Or.inl e))) (fun h => (List.mem_append.mp h).elim (fun h => ha w (List.mem_cons.mpr (Or.inr h))) (hb w))
theorem goodIn_sub {big ws : List Cond} (hm : ∀ w ∈ ws, w ∈ big) (h : ws.all goodWord = true) : GoodIn big ws := fun w hw => ⟨hm w hw, good_of_word (List.all_eq_true.mp h w hw)⟩
/-! ===== END ===== -/

/-! ===== BEGIN printed: names, fields, word lists, decode rows ===== -/
def RX0 : String := "GirthReports$Ball"
def TX0 : u_T := fun k => match k with
  | 0 => ("GirthReports$Ball", "lies", "[I", true)
  | 1 => ("GirthReports$Ball", "leans", "[I", true)
  | 2 => ("GirthReports$Ball", "bends", "[I", true)
  | 3 => ("GirthReports$Ball", "roads", "[I", true)
  | 4 => ("GirthReports$Ball", "kinds", "[I", true)
  | 5 => ("GirthReports$Ball", "paces", "[I", true)
  | 6 => ("GirthReports$Ball", "units", "[I", true)
  | 7 => ("GirthReports$Ball", "girth", "I", false)
  | 8 => ("GirthReports$Ball", "townCount", "I", false)
  | _ => ("GirthReports$Ball", "walkerCount", "I", false)
def tyX0 : Nat → FieldType := fun k => match k with
  | 0 => .array .int
  | 1 => .array .int
  | 2 => .array .int
  | 3 => .array .int
  | 4 => .array .int
  | 5 => .array .int
  | 6 => .array .int
  | 7 => .int
  | 8 => .int
  | _ => .int
abbrev wsX00 : List Cond := u_ws RX0 TX0 10
theorem nmX0 : ∀ a, a < 10 → ∀ b, b < 10 → a ≠ b → (TX0 a).2.1 ≠ (TX0 b).2.1 := by decide +kernel
theorem tyX0_ok : ∀ k, k < 10 → parseFieldDescriptor (TX0 k).2.2.1 = some (tyX0 k) := by decide +kernel
abbrev cX0_init : ByteArray := prog_2_method_1_code
def yX0_init : MethodName := ⟨RX0, "<init>", "()V"⟩
abbrev cX0_clear : ByteArray := prog_2_method_2_code
def yX0_clear : MethodName := ⟨RX0, "clear", "()V"⟩
abbrev cX0_accepts : ByteArray := prog_2_method_3_code
def yX0_accepts : MethodName := ⟨RX0, "accepts", "(IIII)Z"⟩
abbrev cX0_acceptsGirth : ByteArray := prog_2_method_4_code
def yX0_acceptsGirth : MethodName := ⟨RX0, "acceptsGirth", "(I)Z"⟩
abbrev cX0_acceptsTown : ByteArray := prog_2_method_5_code
def yX0_acceptsTown : MethodName := ⟨RX0, "acceptsTown", "(II)Z"⟩
abbrev cX0_acceptsRoad : ByteArray := prog_2_method_6_code
def yX0_acceptsRoad : MethodName := ⟨RX0, "acceptsRoad", "(III)Z"⟩
abbrev cX0_acceptsWalker : ByteArray := prog_2_method_7_code
def yX0_acceptsWalker : MethodName := ⟨RX0, "acceptsWalker", "(III)Z"⟩
abbrev cX0_measureRoads : ByteArray := prog_2_method_8_code
def yX0_measureRoads : MethodName := ⟨RX0, "measureRoads", "()V"⟩
abbrev cX0_isTown : ByteArray := prog_2_method_9_code
def yX0_isTown : MethodName := ⟨RX0, "isTown", "(I)Z"⟩
abbrev cX0_areTwoTowns : ByteArray := prog_2_method_10_code
def yX0_areTwoTowns : MethodName := ⟨RX0, "areTwoTowns", "(II)Z"⟩
abbrev cX0_isWalker : ByteArray := prog_2_method_11_code
def yX0_isWalker : MethodName := ⟨RX0, "isWalker", "(I)Z"⟩
abbrev cX0_shadow : ByteArray := prog_2_method_12_code
def yX0_shadow : MethodName := ⟨RX0, "shadow", "(I)I"⟩
abbrev cX0_liesApart : ByteArray := prog_2_method_13_code
def yX0_liesApart : MethodName := ⟨RX0, "liesApart", "(II)I"⟩
abbrev cX0_shadowsApart : ByteArray := prog_2_method_14_code
def yX0_shadowsApart : MethodName := ⟨RX0, "shadowsApart", "(II)I"⟩
abbrev cX0_straight : ByteArray := prog_2_method_15_code
def yX0_straight : MethodName := ⟨RX0, "straight", "(II)I"⟩
abbrev cX0_byRoad : ByteArray := prog_2_method_16_code
def yX0_byRoad : MethodName := ⟨RX0, "byRoad", "(II)I"⟩
abbrev cX0_daysOf : ByteArray := prog_2_method_17_code
def yX0_daysOf : MethodName := ⟨RX0, "daysOf", "(III)I"⟩
abbrev cX0_girthOf : ByteArray := prog_2_method_18_code
def yX0_girthOf : MethodName := ⟨RX0, "girthOf", "(III)I"⟩
abbrev cX0_offGirth : ByteArray := prog_2_method_19_code
def yX0_offGirth : MethodName := ⟨RX0, "offGirth", "(I)I"⟩
abbrev cX0_isNear : ByteArray := prog_2_method_20_code
def yX0_isNear : MethodName := ⟨RX0, "isNear", "(II)Z"⟩
def RX1 : String := "GirthReports$Book"
def TX1 : u_T := fun k => match k with
  | 0 => ("GirthReports$Book", "who", "[I", true)
  | 1 => ("GirthReports$Book", "from", "[I", true)
  | 2 => ("GirthReports$Book", "to", "[I", true)
  | 3 => ("GirthReports$Book", "stadia", "[I", true)
  | 4 => ("GirthReports$Book", "size", "I", false)
  | _ => ("GirthReports$Book", "days", "I", false)
def tyX1 : Nat → FieldType := fun k => match k with
  | 0 => .array .int
  | 1 => .array .int
  | 2 => .array .int
  | 3 => .array .int
  | 4 => .int
  | _ => .int
abbrev wsX10 : List Cond := u_ws RX1 TX1 6
theorem nmX1 : ∀ a, a < 6 → ∀ b, b < 6 → a ≠ b → (TX1 a).2.1 ≠ (TX1 b).2.1 := by decide +kernel
theorem tyX1_ok : ∀ k, k < 6 → parseFieldDescriptor (TX1 k).2.2.1 = some (tyX1 k) := by decide +kernel
abbrev cX1_init : ByteArray := prog_3_method_1_code
def yX1_init : MethodName := ⟨RX1, "<init>", "()V"⟩
abbrev cX1_clear : ByteArray := prog_3_method_2_code
def yX1_clear : MethodName := ⟨RX1, "clear", "()V"⟩
abbrev cX1_has : ByteArray := prog_3_method_3_code
def yX1_has : MethodName := ⟨RX1, "has", "(I)Z"⟩
abbrev cX1_add : ByteArray := prog_3_method_4_code
def yX1_add : MethodName := ⟨RX1, "add", "(IIII)V"⟩
abbrev cX1_insertAt : ByteArray := prog_3_method_5_code
def yX1_insertAt : MethodName := ⟨RX1, "insertAt", "(IIIII)V"⟩
abbrev cX1_removeAt : ByteArray := prog_3_method_6_code
def yX1_removeAt : MethodName := ⟨RX1, "removeAt", "(I)V"⟩
abbrev cX1_copyFrom : ByteArray := prog_3_method_7_code
def yX1_copyFrom : MethodName := ⟨RX1, "copyFrom", "(LGirthReports$Book;)V"⟩
abbrev cX1_latestOfAnother : ByteArray := prog_3_method_8_code
def yX1_latestOfAnother : MethodName := ⟨RX1, "latestOfAnother", "(III)I"⟩
abbrev cX1_isBetween : ByteArray := prog_3_method_9_code
def yX1_isBetween : MethodName := ⟨RX1, "isBetween", "(III)Z"⟩
def RX2 : String := "GirthReports$Girths"
def TX2 : u_T := fun k => match k with
  | 0 => ("GirthReports$Girths", "asTold", "[I", true)
  | 1 => ("GirthReports$Girths", "miscounted", "[I", true)
  | _ => ("GirthReports$Girths", "size", "I", false)
def tyX2 : Nat → FieldType := fun k => match k with
  | 0 => .array .int
  | 1 => .array .int
  | _ => .int
abbrev wsX20 : List Cond := u_ws RX2 TX2 3
theorem nmX2 : ∀ a, a < 3 → ∀ b, b < 3 → a ≠ b → (TX2 a).2.1 ≠ (TX2 b).2.1 := by decide +kernel
theorem tyX2_ok : ∀ k, k < 3 → parseFieldDescriptor (TX2 k).2.2.1 = some (tyX2 k) := by decide +kernel
abbrev cX2_init : ByteArray := prog_4_method_1_code
def yX2_init : MethodName := ⟨RX2, "<init>", "()V"⟩
abbrev cX2_reckon : ByteArray := prog_4_method_2_code
def yX2_reckon : MethodName := ⟨RX2, "reckon", "(LGirthReports$Ball;LGirthReports$Book;)V"⟩
abbrev cX2_meanOf : ByteArray := prog_4_method_3_code
def yX2_meanOf : MethodName := ⟨RX2, "meanOf", "(II)I"⟩
def RX3 : String := "GirthReports$Paper"
def TX3 : u_T := fun k => match k with
  | 0 => ("GirthReports$Paper", "letters", "[I", true)
  | _ => ("GirthReports$Paper", "length", "I", false)
def tyX3 : Nat → FieldType := fun k => match k with
  | 0 => .array .int
  | _ => .int
abbrev wsX30 : List Cond := u_ws RX3 TX3 2
theorem nmX3 : ∀ a, a < 2 → ∀ b, b < 2 → a ≠ b → (TX3 a).2.1 ≠ (TX3 b).2.1 := by decide +kernel
theorem tyX3_ok : ∀ k, k < 2 → parseFieldDescriptor (TX3 k).2.2.1 = some (tyX3 k) := by decide +kernel
abbrev cX3_init : ByteArray := prog_5_method_1_code
def yX3_init : MethodName := ⟨RX3, "<init>", "()V"⟩
abbrev cX3_append : ByteArray := prog_5_method_2_code
def yX3_append : MethodName := ⟨RX3, "append", "(I)V"⟩
abbrev cX3_clear : ByteArray := prog_5_method_3_code
def yX3_clear : MethodName := ⟨RX3, "clear", "()V"⟩
abbrev cX3_letterAt : ByteArray := prog_5_method_4_code
def yX3_letterAt : MethodName := ⟨RX3, "letterAt", "(I)I"⟩
def RX4 : String := "GirthReports$Reader"
def TX4 : u_T := fun k => match k with
  | 0 => ("GirthReports$Reader", "numbers", "[I", true)
  | _ => ("GirthReports$Reader", "place", "I", false)
def tyX4 : Nat → FieldType := fun k => match k with
  | 0 => .array .int
  | _ => .int
abbrev wsX40 : List Cond := u_ws RX4 TX4 2
theorem nmX4 : ∀ a, a < 2 → ∀ b, b < 2 → a ≠ b → (TX4 a).2.1 ≠ (TX4 b).2.1 := by decide +kernel
theorem tyX4_ok : ∀ k, k < 2 → parseFieldDescriptor (TX4 k).2.2.1 = some (tyX4 k) := by decide +kernel
abbrev cX4_init : ByteArray := prog_6_method_1_code
def yX4_init : MethodName := ⟨RX4, "<init>", "()V"⟩
abbrev cX4_firstFault : ByteArray := prog_6_method_2_code
def yX4_firstFault : MethodName := ⟨RX4, "firstFault", "(LGirthReports$Paper;LGirthReports$Ball;)I"⟩
abbrev cX4_takesItem : ByteArray := prog_6_method_3_code
def yX4_takesItem : MethodName := ⟨RX4, "takesItem", "(LGirthReports$Paper;LGirthReports$Ball;)Z"⟩
abbrev cX4_numbersBehind : ByteArray := prog_6_method_4_code
def yX4_numbersBehind : MethodName := ⟨RX4, "numbersBehind", "(I)I"⟩
abbrev cX4_readNumber : ByteArray := prog_6_method_5_code
def yX4_readNumber : MethodName := ⟨RX4, "readNumber", "(LGirthReports$Paper;)I"⟩
def RX5 : String := "GirthReports$Sightings"
def TX5 : u_T := fun k => match k with
  | 0 => ("GirthReports$Sightings", "who", "[I", true)
  | 1 => ("GirthReports$Sightings", "from", "[I", true)
  | 2 => ("GirthReports$Sightings", "to", "[I", true)
  | 3 => ("GirthReports$Sightings", "stadia", "[I", true)
  | _ => ("GirthReports$Sightings", "size", "I", false)
def tyX5 : Nat → FieldType := fun k => match k with
  | 0 => .array .int
  | 1 => .array .int
  | 2 => .array .int
  | 3 => .array .int
  | _ => .int
abbrev wsX50 : List Cond := u_ws RX5 TX5 5
theorem nmX5 : ∀ a, a < 5 → ∀ b, b < 5 → a ≠ b → (TX5 a).2.1 ≠ (TX5 b).2.1 := by decide +kernel
theorem tyX5_ok : ∀ k, k < 5 → parseFieldDescriptor (TX5 k).2.2.1 = some (tyX5 k) := by decide +kernel
abbrev cX5_init : ByteArray := prog_7_method_1_code
def yX5_init : MethodName := ⟨RX5, "<init>", "()V"⟩
abbrev cX5_clear : ByteArray := prog_7_method_2_code
def yX5_clear : MethodName := ⟨RX5, "clear", "()V"⟩
abbrev cX5_add : ByteArray := prog_7_method_3_code
def yX5_add : MethodName := ⟨RX5, "add", "(IIII)V"⟩
def RX6 : String := "GirthReports$Trail"
def TX6 : u_T := fun k => match k with
  | 0 => ("GirthReports$Trail", "places", "[I", true)
  | 1 => ("GirthReports$Trail", "who", "[I", true)
  | 2 => ("GirthReports$Trail", "from", "[I", true)
  | 3 => ("GirthReports$Trail", "to", "[I", true)
  | 4 => ("GirthReports$Trail", "stadia", "[I", true)
  | 5 => ("GirthReports$Trail", "days", "[I", true)
  | _ => ("GirthReports$Trail", "size", "I", false)
def tyX6 : Nat → FieldType := fun k => match k with
  | 0 => .array .int
  | 1 => .array .int
  | 2 => .array .int
  | 3 => .array .int
  | 4 => .array .int
  | 5 => .array .int
  | _ => .int
abbrev wsX60 : List Cond := u_ws RX6 TX6 7
theorem nmX6 : ∀ a, a < 7 → ∀ b, b < 7 → a ≠ b → (TX6 a).2.1 ≠ (TX6 b).2.1 := by decide +kernel
theorem tyX6_ok : ∀ k, k < 7 → parseFieldDescriptor (TX6 k).2.2.1 = some (tyX6 k) := by decide +kernel
abbrev cX6_init : ByteArray := prog_8_method_1_code
def yX6_init : MethodName := ⟨RX6, "<init>", "()V"⟩
abbrev cX6_clear : ByteArray := prog_8_method_2_code
def yX6_clear : MethodName := ⟨RX6, "clear", "()V"⟩
abbrev cX6_rememberWalk : ByteArray := prog_8_method_3_code
def yX6_rememberWalk : MethodName := ⟨RX6, "rememberWalk", "(I)V"⟩
abbrev cX6_rememberStriking : ByteArray := prog_8_method_4_code
def yX6_rememberStriking : MethodName := ⟨RX6, "rememberStriking", "(LGirthReports$Book;I)V"⟩
abbrev cX6_takeBack : ByteArray := prog_8_method_5_code
def yX6_takeBack : MethodName := ⟨RX6, "takeBack", "(LGirthReports$Book;)V"⟩
abbrev cX6_makeRoom : ByteArray := prog_8_method_6_code
def yX6_makeRoom : MethodName := ⟨RX6, "makeRoom", "()V"⟩
def RX7 : String := "GirthReports"
def TX7 : u_T := fun k => match k with
  | 0 => ("GirthReports", "paper", "LGirthReports$Paper;", true)
  | 1 => ("GirthReports", "reader", "LGirthReports$Reader;", true)
  | 2 => ("GirthReports", "book", "LGirthReports$Book;", true)
  | 3 => ("GirthReports", "yearBook", "LGirthReports$Book;", true)
  | 4 => ("GirthReports", "keptFirst", "LGirthReports$Book;", true)
  | 5 => ("GirthReports", "keptSecond", "LGirthReports$Book;", true)
  | 6 => ("GirthReports", "trail", "LGirthReports$Trail;", true)
  | 7 => ("GirthReports", "seen", "LGirthReports$Sightings;", true)
  | 8 => ("GirthReports", "girths", "LGirthReports$Girths;", true)
  | 9 => ("GirthReports", "ball", "LGirthReports$Ball;", false)
  | 10 => ("GirthReports", "spare", "LGirthReports$Ball;", false)
  | _ => ("GirthReports", "kept", "I", false)
def tyX7 : Nat → FieldType := fun k => match k with
  | 0 => .object "GirthReports$Paper"
  | 1 => .object "GirthReports$Reader"
  | 2 => .object "GirthReports$Book"
  | 3 => .object "GirthReports$Book"
  | 4 => .object "GirthReports$Book"
  | 5 => .object "GirthReports$Book"
  | 6 => .object "GirthReports$Trail"
  | 7 => .object "GirthReports$Sightings"
  | 8 => .object "GirthReports$Girths"
  | 9 => .object "GirthReports$Ball"
  | 10 => .object "GirthReports$Ball"
  | _ => .int
abbrev wsX70 : List Cond := u_ws RX7 TX7 12
theorem nmX7 : ∀ a, a < 12 → ∀ b, b < 12 → a ≠ b → (TX7 a).2.1 ≠ (TX7 b).2.1 := by decide +kernel
theorem tyX7_ok : ∀ k, k < 12 → parseFieldDescriptor (TX7 k).2.2.1 = some (tyX7 k) := by decide +kernel
abbrev cX7_init : ByteArray := prog_1_method_1_code
def yX7_init : MethodName := ⟨RX7, "<init>", "()V"⟩
abbrev cX7_write : ByteArray := prog_1_method_2_code
def yX7_write : MethodName := ⟨RX7, "write", "(I)I"⟩
abbrev cX7_wipe : ByteArray := prog_1_method_3_code
def yX7_wipe : MethodName := ⟨RX7, "wipe", "()I"⟩
abbrev cX7_fault : ByteArray := prog_1_method_4_code
def yX7_fault : MethodName := ⟨RX7, "fault", "()I"⟩
abbrev cX7_lay : ByteArray := prog_1_method_5_code
def yX7_lay : MethodName := ⟨RX7, "lay", "()I"⟩
abbrev cX7_town : ByteArray := prog_1_method_6_code
def yX7_town : MethodName := ⟨RX7, "town", "(II)I"⟩
abbrev cX7_between : ByteArray := prog_1_method_7_code
def yX7_between : MethodName := ⟨RX7, "between", "(III)I"⟩
abbrev cX7_walker : ByteArray := prog_1_method_8_code
def yX7_walker : MethodName := ⟨RX7, "walker", "(II)I"⟩
abbrev cX7_report : ByteArray := prog_1_method_9_code
def yX7_report : MethodName := ⟨RX7, "report", "(II)I"⟩
abbrev cX7_walk : ByteArray := prog_1_method_10_code
def yX7_walk : MethodName := ⟨RX7, "walk", "(III)I"⟩
abbrev cX7_strike : ByteArray := prog_1_method_11_code
def yX7_strike : MethodName := ⟨RX7, "strike", "(I)I"⟩
abbrev cX7_undo : ByteArray := prog_1_method_12_code
def yX7_undo : MethodName := ⟨RX7, "undo", "()I"⟩
abbrev cX7_mean : ByteArray := prog_1_method_13_code
def yX7_mean : MethodName := ⟨RX7, "mean", "()I"⟩
abbrev cX7_all : ByteArray := prog_1_method_14_code
def yX7_all : MethodName := ⟨RX7, "all", "(I)I"⟩
abbrev cX7_next : ByteArray := prog_1_method_15_code
def yX7_next : MethodName := ⟨RX7, "next", "(II)I"⟩
abbrev cX7_fewest : ByteArray := prog_1_method_16_code
def yX7_fewest : MethodName := ⟨RX7, "fewest", "(II)I"⟩
abbrev cX7_cancel : ByteArray := prog_1_method_17_code
def yX7_cancel : MethodName := ⟨RX7, "cancel", "(II)I"⟩
abbrev cX7_sail : ByteArray := prog_1_method_18_code
def yX7_sail : MethodName := ⟨RX7, "sail", "(II)I"⟩
abbrev cX7_see : ByteArray := prog_1_method_19_code
def yX7_see : MethodName := ⟨RX7, "see", "(IIII)I"⟩
abbrev cX7_forget : ByteArray := prog_1_method_20_code
def yX7_forget : MethodName := ⟨RX7, "forget", "()I"⟩
abbrev cX7_fits : ByteArray := prog_1_method_21_code
def yX7_fits : MethodName := ⟨RX7, "fits", "(II)I"⟩
abbrev cX7_towns : ByteArray := prog_1_method_22_code
def yX7_towns : MethodName := ⟨RX7, "towns", "(I)I"⟩
abbrev cX7_miscount : ByteArray := prog_1_method_23_code
def yX7_miscount : MethodName := ⟨RX7, "miscount", "(III)I"⟩
abbrev cX7_year : ByteArray := prog_1_method_24_code
def yX7_year : MethodName := ⟨RX7, "year", "(III)I"⟩
abbrev cX7_keep : ByteArray := prog_1_method_25_code
def yX7_keep : MethodName := ⟨RX7, "keep", "()I"⟩
abbrev cX7_back : ByteArray := prog_1_method_26_code
def yX7_back : MethodName := ⟨RX7, "back", "()I"⟩
abbrev cX7_count : ByteArray := prog_1_method_27_code
def yX7_count : MethodName := ⟨RX7, "count", "(I)I"⟩
abbrev cX7_girthBy : ByteArray := prog_1_method_28_code
def yX7_girthBy : MethodName := ⟨RX7, "girthBy", "(I)I"⟩
abbrev cX7_leastBy : ByteArray := prog_1_method_29_code
def yX7_leastBy : MethodName := ⟨RX7, "leastBy", "(I)I"⟩
abbrev cX7_mostBy : ByteArray := prog_1_method_30_code
def yX7_mostBy : MethodName := ⟨RX7, "mostBy", "(I)I"⟩
abbrev cX7_shadowsApartBy : ByteArray := prog_1_method_31_code
def yX7_shadowsApartBy : MethodName := ⟨RX7, "shadowsApartBy", "(I)I"⟩
abbrev cX7_meanBy : ByteArray := prog_1_method_32_code
def yX7_meanBy : MethodName := ⟨RX7, "meanBy", "(LGirthReports$Book;)I"⟩
abbrev cX7_widthOfNext : ByteArray := prog_1_method_33_code
def yX7_widthOfNext : MethodName := ⟨RX7, "widthOfNext", "(III)I"⟩
abbrev cX7_girthWithout : ByteArray := prog_1_method_34_code
def yX7_girthWithout : MethodName := ⟨RX7, "girthWithout", "(II)I"⟩
abbrev cX7_stadiaWithout : ByteArray := prog_1_method_35_code
def yX7_stadiaWithout : MethodName := ⟨RX7, "stadiaWithout", "(II)I"⟩
abbrev cX7_wouldTell : ByteArray := prog_1_method_36_code
def yX7_wouldTell : MethodName := ⟨RX7, "wouldTell", "(LGirthReports$Book;IIIII)I"⟩
abbrev cX7_toldOfMiles : ByteArray := prog_1_method_37_code
def yX7_toldOfMiles : MethodName := ⟨RX7, "toldOfMiles", "(III)I"⟩
abbrev cX7_goWalking : ByteArray := prog_1_method_38_code
def yX7_goWalking : MethodName := ⟨RX7, "goWalking", "(LGirthReports$Book;III)V"⟩
abbrev cX7_fittingUnits : ByteArray := prog_1_method_39_code
def yX7_fittingUnits : MethodName := ⟨RX7, "fittingUnits", "(I)I"⟩
abbrev cX7_fittingKinds : ByteArray := prog_1_method_40_code
def yX7_fittingKinds : MethodName := ⟨RX7, "fittingKinds", "(I)I"⟩
abbrev cX7_allSeenFits : ByteArray := prog_1_method_41_code
def yX7_allSeenFits : MethodName := ⟨RX7, "allSeenFits", "(III)Z"⟩
abbrev cX7_waysNear : ByteArray := prog_1_method_42_code
def yX7_waysNear : MethodName := ⟨RX7, "waysNear", "(II)I"⟩
abbrev cX7_walkByDraw : ByteArray := prog_1_method_43_code
def yX7_walkByDraw : MethodName := ⟨RX7, "walkByDraw", "(LGirthReports$Book;I)V"⟩
abbrev cX7_drawOf : ByteArray := prog_1_method_44_code
def yX7_drawOf : MethodName := ⟨RX7, "drawOf", "(II)I"⟩
abbrev cX7_keptAt : ByteArray := prog_1_method_45_code
def yX7_keptAt : MethodName := ⟨RX7, "keptAt", "(I)LGirthReports$Book;"⟩
abbrev cX7_within : ByteArray := prog_1_method_46_code
def yX7_within : MethodName := ⟨RX7, "within", "(III)Z"⟩
abbrev cX7_cut : ByteArray := prog_1_method_47_code
def yX7_cut : MethodName := ⟨RX7, "cut", "(JI)I"⟩
abbrev cX7_rest : ByteArray := prog_1_method_48_code
def yX7_rest : MethodName := ⟨RX7, "rest", "(II)I"⟩
abbrev cX7_nineTenths : ByteArray := prog_1_method_49_code
def yX7_nineTenths : MethodName := ⟨RX7, "nineTenths", "(I)I"⟩
abbrev cX7_power : ByteArray := prog_1_method_50_code
def yX7_power : MethodName := ⟨RX7, "power", "(II)I"⟩
abbrev cX7_commonDivisor : ByteArray := prog_1_method_51_code
def yX7_commonDivisor : MethodName := ⟨RX7, "commonDivisor", "(II)I"⟩
abbrev cX7_at : ByteArray := prog_1_method_52_code
def yX7_at : MethodName := ⟨RX7, "at", "([II)I"⟩
abbrev cX7_put : ByteArray := prog_1_method_53_code
def yX7_put : MethodName := ⟨RX7, "put", "([III)V"⟩
abbrev cX7_closeGap : ByteArray := prog_1_method_54_code
def yX7_closeGap : MethodName := ⟨RX7, "closeGap", "([III)V"⟩
abbrev cX7_openGap : ByteArray := prog_1_method_55_code
def yX7_openGap : MethodName := ⟨RX7, "openGap", "([III)V"⟩
abbrev cX7_copyRow : ByteArray := prog_1_method_56_code
def yX7_copyRow : MethodName := ⟨RX7, "copyRow", "([I[I)V"⟩
def RX8 : String := "GirthReportsModel"
def TX8 : u_T := fun k => match k with
  | 0 => ("GirthReportsModel", "girth", "I", false)
  | 1 => ("GirthReportsModel", "towns", "I", false)
  | 2 => ("GirthReportsModel", "north", "[I", true)
  | 3 => ("GirthReportsModel", "lean", "[I", true)
  | 4 => ("GirthReportsModel", "bend", "[I", true)
  | 5 => ("GirthReportsModel", "walkers", "I", false)
  | 6 => ("GirthReportsModel", "sort", "[I", true)
  | 7 => ("GirthReportsModel", "pace", "[I", true)
  | 8 => ("GirthReportsModel", "unit", "[I", true)
  | 9 => ("GirthReportsModel", "newGirth", "I", false)
  | 10 => ("GirthReportsModel", "newTowns", "I", false)
  | 11 => ("GirthReportsModel", "newNorth", "[I", true)
  | 12 => ("GirthReportsModel", "newLean", "[I", true)
  | 13 => ("GirthReportsModel", "newBend", "[I", true)
  | 14 => ("GirthReportsModel", "newWalkers", "I", false)
  | 15 => ("GirthReportsModel", "newSort", "[I", true)
  | 16 => ("GirthReportsModel", "newPace", "[I", true)
  | 17 => ("GirthReportsModel", "newUnit", "[I", true)
  | 18 => ("GirthReportsModel", "slot", "[I", true)
  | 19 => ("GirthReportsModel", "acts", "I", false)
  | 20 => ("GirthReportsModel", "keeps", "I", false)
  | 21 => ("GirthReportsModel", "length", "I", false)
  | 22 => ("GirthReportsModel", "text", "[B", true)
  | 23 => ("GirthReportsModel", "at", "I", false)
  | 24 => ("GirthReportsModel", "begin", "I", false)
  | 25 => ("GirthReportsModel", "isWrong", "Z", false)
  | 26 => ("GirthReportsModel", "seens", "I", false)
  | 27 => ("GirthReportsModel", "sawWho", "[I", true)
  | 28 => ("GirthReportsModel", "sawFrom", "[I", true)
  | 29 => ("GirthReportsModel", "sawTo", "[I", true)
  | _ => ("GirthReportsModel", "sawMany", "[I", true)
def tyX8 : Nat → FieldType := fun k => match k with
  | 0 => .int
  | 1 => .int
  | 2 => .array .int
  | 3 => .array .int
  | 4 => .array .int
  | 5 => .int
  | 6 => .array .int
  | 7 => .array .int
  | 8 => .array .int
  | 9 => .int
  | 10 => .int
  | 11 => .array .int
  | 12 => .array .int
  | 13 => .array .int
  | 14 => .int
  | 15 => .array .int
  | 16 => .array .int
  | 17 => .array .int
  | 18 => .array .int
  | 19 => .int
  | 20 => .int
  | 21 => .int
  | 22 => .array .byte
  | 23 => .int
  | 24 => .int
  | 25 => .boolean
  | 26 => .int
  | 27 => .array .int
  | 28 => .array .int
  | 29 => .array .int
  | _ => .array .int
abbrev wsX80 : List Cond := u_ws RX8 TX8 31
theorem nmX8 : ∀ a, a < 31 → ∀ b, b < 31 → a ≠ b → (TX8 a).2.1 ≠ (TX8 b).2.1 := by decide +kernel
theorem tyX8_ok : ∀ k, k < 31 → parseFieldDescriptor (TX8 k).2.2.1 = some (tyX8 k) := by decide +kernel
abbrev cX8_init : ByteArray := prog_10_method_1_code
def yX8_init : MethodName := ⟨RX8, "<init>", "()V"⟩
abbrev cX8_in : ByteArray := prog_10_method_2_code
def yX8_in : MethodName := ⟨RX8, "in", "(JJJ)Z"⟩
abbrev cX8_has : ByteArray := prog_10_method_3_code
def yX8_has : MethodName := ⟨RX8, "has", "(II)Z"⟩
abbrev cX8_apart : ByteArray := prog_10_method_4_code
def yX8_apart : MethodName := ⟨RX8, "apart", "(II)I"⟩
abbrev cX8_smaller : ByteArray := prog_10_method_5_code
def yX8_smaller : MethodName := ⟨RX8, "smaller", "(II)I"⟩
abbrev cX8_larger : ByteArray := prog_10_method_6_code
def yX8_larger : MethodName := ⟨RX8, "larger", "(II)I"⟩
abbrev cX8_clears : ByteArray := prog_10_method_7_code
def yX8_clears : MethodName := ⟨RX8, "clears", "()V"⟩
abbrev cX8_lies : ByteArray := prog_10_method_8_code
def yX8_lies : MethodName := ⟨RX8, "lies", "(II)V"⟩
abbrev cX8_bends : ByteArray := prog_10_method_9_code
def yX8_bends : MethodName := ⟨RX8, "bends", "(III)V"⟩
abbrev cX8_goes : ByteArray := prog_10_method_10_code
def yX8_goes : MethodName := ⟨RX8, "goes", "(III)V"⟩
abbrev cX8_settles : ByteArray := prog_10_method_11_code
def yX8_settles : MethodName := ⟨RX8, "settles", "()V"⟩
abbrev cX8_copies : ByteArray := prog_10_method_12_code
def yX8_copies : MethodName := ⟨RX8, "copies", "(II)V"⟩
abbrev cX8_isTown : ByteArray := prog_10_method_13_code
def yX8_isTown : MethodName := ⟨RX8, "isTown", "(I)Z"⟩
abbrev cX8_areTowns : ByteArray := prog_10_method_14_code
def yX8_areTowns : MethodName := ⟨RX8, "areTowns", "(II)Z"⟩
abbrev cX8_isWalker : ByteArray := prog_10_method_15_code
def yX8_isWalker : MethodName := ⟨RX8, "isWalker", "(I)Z"⟩
abbrev cX8_isReport : ByteArray := prog_10_method_16_code
def yX8_isReport : MethodName := ⟨RX8, "isReport", "(I)Z"⟩
abbrev cX8_write : ByteArray := prog_10_method_17_code
def yX8_write : MethodName := ⟨RX8, "write", "(I)I"⟩
abbrev cX8_wipe : ByteArray := prog_10_method_18_code
def yX8_wipe : MethodName := ⟨RX8, "wipe", "()I"⟩
abbrev cX8_peek : ByteArray := prog_10_method_19_code
def yX8_peek : MethodName := ⟨RX8, "peek", "()I"⟩
abbrev cX8_number : ByteArray := prog_10_method_20_code
def yX8_number : MethodName := ⟨RX8, "number", "(II)I"⟩
abbrev cX8_more : ByteArray := prog_10_method_21_code
def yX8_more : MethodName := ⟨RX8, "more", "(II)I"⟩
abbrev cX8_item : ByteArray := prog_10_method_22_code
def yX8_item : MethodName := ⟨RX8, "item", "(I)V"⟩
abbrev cX8_reads : ByteArray := prog_10_method_23_code
def yX8_reads : MethodName := ⟨RX8, "reads", "()Z"⟩
abbrev cX8_fault : ByteArray := prog_10_method_24_code
def yX8_fault : MethodName := ⟨RX8, "fault", "()I"⟩
abbrev cX8_lay : ByteArray := prog_10_method_25_code
def yX8_lay : MethodName := ⟨RX8, "lay", "()I"⟩
abbrev cX8_shadow : ByteArray := prog_10_method_26_code
def yX8_shadow : MethodName := ⟨RX8, "shadow", "(I)I"⟩
abbrev cX8_straight : ByteArray := prog_10_method_27_code
def yX8_straight : MethodName := ⟨RX8, "straight", "(II)I"⟩
abbrev cX8_road : ByteArray := prog_10_method_28_code
def yX8_road : MethodName := ⟨RX8, "road", "(II)I"⟩
abbrev cX8_degrees : ByteArray := prog_10_method_29_code
def yX8_degrees : MethodName := ⟨RX8, "degrees", "(II)I"⟩
abbrev cX8_town : ByteArray := prog_10_method_30_code
def yX8_town : MethodName := ⟨RX8, "town", "(II)I"⟩
abbrev cX8_between : ByteArray := prog_10_method_31_code
def yX8_between : MethodName := ⟨RX8, "between", "(III)I"⟩
abbrev cX8_walker : ByteArray := prog_10_method_32_code
def yX8_walker : MethodName := ⟨RX8, "walker", "(II)I"⟩
abbrev cX8_tells : ByteArray := prog_10_method_33_code
def yX8_tells : MethodName := ⟨RX8, "tells", "(III)I"⟩
abbrev cX8_copied : ByteArray := prog_10_method_34_code
def yX8_copied : MethodName := ⟨RX8, "copied", "(IIII)I"⟩
abbrev cX8_told : ByteArray := prog_10_method_35_code
def yX8_told : MethodName := ⟨RX8, "told", "(IIIIII)I"⟩
abbrev cX8_toldBy : ByteArray := prog_10_method_36_code
def yX8_toldBy : MethodName := ⟨RX8, "toldBy", "(II)I"⟩
abbrev cX8_girthOf : ByteArray := prog_10_method_37_code
def yX8_girthOf : MethodName := ⟨RX8, "girthOf", "(III)I"⟩
abbrev cX8_degreesOf : ByteArray := prog_10_method_38_code
def yX8_degreesOf : MethodName := ⟨RX8, "degreesOf", "(II)I"⟩
abbrev cX8_girthBy : ByteArray := prog_10_method_39_code
def yX8_girthBy : MethodName := ⟨RX8, "girthBy", "(II)I"⟩
abbrev cX8_bound : ByteArray := prog_10_method_40_code
def yX8_bound : MethodName := ⟨RX8, "bound", "(III)I"⟩
abbrev cX8_report : ByteArray := prog_10_method_41_code
def yX8_report : MethodName := ⟨RX8, "report", "(II)I"⟩
abbrev cX8_known : ByteArray := prog_10_method_42_code
def yX8_known : MethodName := ⟨RX8, "known", "()V"⟩
abbrev cX8_walks : ByteArray := prog_10_method_43_code
def yX8_walks : MethodName := ⟨RX8, "walks", "(IIII)I"⟩
abbrev cX8_strikes : ByteArray := prog_10_method_44_code
def yX8_strikes : MethodName := ⟨RX8, "strikes", "(II)V"⟩
abbrev cX8_walk : ByteArray := prog_10_method_45_code
def yX8_walk : MethodName := ⟨RX8, "walk", "(III)I"⟩
abbrev cX8_strike : ByteArray := prog_10_method_46_code
def yX8_strike : MethodName := ⟨RX8, "strike", "(I)I"⟩
abbrev cX8_undo : ByteArray := prog_10_method_47_code
def yX8_undo : MethodName := ⟨RX8, "undo", "()I"⟩
abbrev cX8_meanOf : ByteArray := prog_10_method_48_code
def yX8_meanOf : MethodName := ⟨RX8, "meanOf", "(II)I"⟩
abbrev cX8_mean : ByteArray := prog_10_method_49_code
def yX8_mean : MethodName := ⟨RX8, "mean", "()I"⟩
abbrev cX8_all : ByteArray := prog_10_method_50_code
def yX8_all : MethodName := ⟨RX8, "all", "(I)I"⟩
abbrev cX8_next : ByteArray := prog_10_method_51_code
def yX8_next : MethodName := ⟨RX8, "next", "(II)I"⟩
abbrev cX8_bits : ByteArray := prog_10_method_52_code
def yX8_bits : MethodName := ⟨RX8, "bits", "(I)I"⟩
abbrev cX8_isNear : ByteArray := prog_10_method_53_code
def yX8_isNear : MethodName := ⟨RX8, "isNear", "(II)Z"⟩
abbrev cX8_fewest : ByteArray := prog_10_method_54_code
def yX8_fewest : MethodName := ⟨RX8, "fewest", "(II)I"⟩
abbrev cX8_offBy : ByteArray := prog_10_method_55_code
def yX8_offBy : MethodName := ⟨RX8, "offBy", "(II)I"⟩
abbrev cX8_cancel : ByteArray := prog_10_method_56_code
def yX8_cancel : MethodName := ⟨RX8, "cancel", "(II)I"⟩
abbrev cX8_sail : ByteArray := prog_10_method_57_code
def yX8_sail : MethodName := ⟨RX8, "sail", "(II)I"⟩
abbrev cX8_see : ByteArray := prog_10_method_58_code
def yX8_see : MethodName := ⟨RX8, "see", "(IIII)I"⟩
abbrev cX8_forget : ByteArray := prog_10_method_59_code
def yX8_forget : MethodName := ⟨RX8, "forget", "()I"⟩
abbrev cX8_isSo : ByteArray := prog_10_method_60_code
def yX8_isSo : MethodName := ⟨RX8, "isSo", "(III)Z"⟩
abbrev cX8_fits : ByteArray := prog_10_method_61_code
def yX8_fits : MethodName := ⟨RX8, "fits", "(II)I"⟩
abbrev cX8_towns : ByteArray := prog_10_method_62_code
def yX8_towns : MethodName := ⟨RX8, "towns", "(I)I"⟩
abbrev cX8_miscount : ByteArray := prog_10_method_63_code
def yX8_miscount : MethodName := ⟨RX8, "miscount", "(III)I"⟩
abbrev cX8_year : ByteArray := prog_10_method_64_code
def yX8_year : MethodName := ⟨RX8, "year", "(III)I"⟩
abbrev cX8_keep : ByteArray := prog_10_method_65_code
def yX8_keep : MethodName := ⟨RX8, "keep", "()I"⟩
abbrev cX8_back : ByteArray := prog_10_method_66_code
def yX8_back : MethodName := ⟨RX8, "back", "()I"⟩
abbrev cX8_count : ByteArray := prog_10_method_67_code
def yX8_count : MethodName := ⟨RX8, "count", "(I)I"⟩
def RJx145de : String := "java/io/Serializable"
def TJx145de : u_T := fun k => match k with
  | _ => ("", "", "", false)
def tyJx145de : Nat → FieldType := fun k => match k with
  | _ => .int
abbrev wsJx145de0 : List Cond := u_ws RJx145de TJx145de 0
theorem nmJx145de : ∀ a, a < 0 → ∀ b, b < 0 → a ≠ b → (TJx145de a).2.1 ≠ (TJx145de b).2.1 := by decide +kernel
theorem tyJx145de_ok : ∀ k, k < 0 → parseFieldDescriptor (TJx145de k).2.2.1 = some (tyJx145de k) := by decide +kernel
def RJx9f9b0 : String := "java/lang/CharSequence"
def TJx9f9b0 : u_T := fun k => match k with
  | _ => ("", "", "", false)
def tyJx9f9b0 : Nat → FieldType := fun k => match k with
  | _ => .int
abbrev wsJx9f9b00 : List Cond := u_ws RJx9f9b0 TJx9f9b0 0
theorem nmJx9f9b0 : ∀ a, a < 0 → ∀ b, b < 0 → a ≠ b → (TJx9f9b0 a).2.1 ≠ (TJx9f9b0 b).2.1 := by decide +kernel
theorem tyJx9f9b0_ok : ∀ k, k < 0 → parseFieldDescriptor (TJx9f9b0 k).2.2.1 = some (tyJx9f9b0 k) := by decide +kernel
def RJxb160c : String := "java/lang/Comparable"
def TJxb160c : u_T := fun k => match k with
  | _ => ("", "", "", false)
def tyJxb160c : Nat → FieldType := fun k => match k with
  | _ => .int
abbrev wsJxb160c0 : List Cond := u_ws RJxb160c TJxb160c 0
theorem nmJxb160c : ∀ a, a < 0 → ∀ b, b < 0 → a ≠ b → (TJxb160c a).2.1 ≠ (TJxb160c b).2.1 := by decide +kernel
theorem tyJxb160c_ok : ∀ k, k < 0 → parseFieldDescriptor (TJxb160c k).2.2.1 = some (tyJxb160c k) := by decide +kernel
def RJ6 : String := "java/lang/Integer"
def TJ6 : u_T := fun k => match k with
  | _ => ("", "", "", false)
def tyJ6 : Nat → FieldType := fun k => match k with
  | _ => .int
abbrev wsJ60 : List Cond := u_ws RJ6 TJ6 0
theorem nmJ6 : ∀ a, a < 0 → ∀ b, b < 0 → a ≠ b → (TJ6 a).2.1 ≠ (TJ6 b).2.1 := by decide +kernel
theorem tyJ6_ok : ∀ k, k < 0 → parseFieldDescriptor (TJ6 k).2.2.1 = some (tyJ6 k) := by decide +kernel
abbrev cJ6_bitCount_0f7a4 : ByteArray := prog_11_method_49_code
def yJ6_bitCount_0f7a4 : MethodName := ⟨RJ6, "bitCount", "(I)I"⟩
def RJ9 : String := "java/lang/Math"
def TJ9 : u_T := fun k => match k with
  | _ => ("", "", "", false)
def tyJ9 : Nat → FieldType := fun k => match k with
  | _ => .int
abbrev wsJ90 : List Cond := u_ws RJ9 TJ9 0
theorem nmJ9 : ∀ a, a < 0 → ∀ b, b < 0 → a ≠ b → (TJ9 a).2.1 ≠ (TJ9 b).2.1 := by decide +kernel
theorem tyJ9_ok : ∀ k, k < 0 → parseFieldDescriptor (TJ9 k).2.2.1 = some (tyJ9 k) := by decide +kernel
abbrev cJ9_abs_0f7a4 : ByteArray := prog_12_method_59_code
def yJ9_abs_0f7a4 : MethodName := ⟨RJ9, "abs", "(I)I"⟩
abbrev cJ9_max_7cf53 : ByteArray := prog_12_method_65_code
def yJ9_max_7cf53 : MethodName := ⟨RJ9, "max", "(II)I"⟩
abbrev cJ9_min_7cf53 : ByteArray := prog_12_method_69_code
def yJ9_min_7cf53 : MethodName := ⟨RJ9, "min", "(II)I"⟩
def RJ0 : String := "java/lang/String"
def TJ0 : u_T := fun k => match k with
  | _ => ("", "", "", false)
def tyJ0 : Nat → FieldType := fun k => match k with
  | _ => .int
abbrev wsJ00 : List Cond := u_ws RJ0 TJ0 0
theorem nmJ0 : ∀ a, a < 0 → ∀ b, b < 0 → a ≠ b → (TJ0 a).2.1 ≠ (TJ0 b).2.1 := by decide +kernel
theorem tyJ0_ok : ∀ k, k < 0 → parseFieldDescriptor (TJ0 k).2.2.1 = some (tyJ0 k) := by decide +kernel
abbrev cJ0_length_8abf5 : ByteArray := prog_13_method_54_code
def yJ0_length_8abf5 : MethodName := ⟨RJ0, "length", "()I"⟩
abbrev cJ0_charAt_5068e : ByteArray := prog_13_method_56_code
def yJ0_charAt_5068e : MethodName := ⟨RJ0, "charAt", "(I)C"⟩
abbrev cJ0_coder_7d493 : ByteArray := prog_13_method_152_code
def yJ0_coder_7d493 : MethodName := ⟨RJ0, "coder", "()B"⟩
abbrev cJ0_isLatin1_aae02 : ByteArray := prog_13_method_154_code
def yJ0_isLatin1_aae02 : MethodName := ⟨RJ0, "isLatin1", "()Z"⟩
abbrev cJ0_checkIndex_df160 : ByteArray := prog_13_method_155_code
def yJ0_checkIndex_df160 : MethodName := ⟨RJ0, "checkIndex", "(II)V"⟩
def RJ1 : String := "java/lang/StringLatin1"
def TJ1 : u_T := fun k => match k with
  | _ => ("", "", "", false)
def tyJ1 : Nat → FieldType := fun k => match k with
  | _ => .int
abbrev wsJ10 : List Cond := u_ws RJ1 TJ1 0
theorem nmJ1 : ∀ a, a < 0 → ∀ b, b < 0 → a ≠ b → (TJ1 a).2.1 ≠ (TJ1 b).2.1 := by decide +kernel
theorem tyJ1_ok : ∀ k, k < 0 → parseFieldDescriptor (TJ1 k).2.2.1 = some (tyJ1 k) := by decide +kernel
abbrev cJ1_charAt_3b067 : ByteArray := prog_14_method_2_code
def yJ1_charAt_3b067 : MethodName := ⟨RJ1, "charAt", "([BI)C"⟩
def RJ2 : String := "java/lang/StringUTF16"
def TJ2 : u_T := fun k => match k with
  | _ => ("", "", "", false)
def tyJ2 : Nat → FieldType := fun k => match k with
  | _ => .int
abbrev wsJ20 : List Cond := u_ws RJ2 TJ2 0
theorem nmJ2 : ∀ a, a < 0 → ∀ b, b < 0 → a ≠ b → (TJ2 a).2.1 ≠ (TJ2 b).2.1 := by decide +kernel
theorem tyJ2_ok : ∀ k, k < 0 → parseFieldDescriptor (TJ2 k).2.2.1 = some (tyJ2 k) := by decide +kernel
abbrev cJ2_getChar_3b067 : ByteArray := prog_15_method_5_code
def yJ2_getChar_3b067 : MethodName := ⟨RJ2, "getChar", "([BI)C"⟩
abbrev cJ2_length_9d52b : ByteArray := prog_15_method_6_code
def yJ2_length_9d52b : MethodName := ⟨RJ2, "length", "([B)I"⟩
abbrev cJ2_charAt_3b067 : ByteArray := prog_15_method_83_code
def yJ2_charAt_3b067 : MethodName := ⟨RJ2, "charAt", "([BI)C"⟩
abbrev cJ2_checkIndex_2214a : ByteArray := prog_15_method_91_code
def yJ2_checkIndex_2214a : MethodName := ⟨RJ2, "checkIndex", "(I[B)V"⟩
def RJxfd54e : String := "java/lang/constant/Constable"
def TJxfd54e : u_T := fun k => match k with
  | _ => ("", "", "", false)
def tyJxfd54e : Nat → FieldType := fun k => match k with
  | _ => .int
abbrev wsJxfd54e0 : List Cond := u_ws RJxfd54e TJxfd54e 0
theorem nmJxfd54e : ∀ a, a < 0 → ∀ b, b < 0 → a ≠ b → (TJxfd54e a).2.1 ≠ (TJxfd54e b).2.1 := by decide +kernel
theorem tyJxfd54e_ok : ∀ k, k < 0 → parseFieldDescriptor (TJxfd54e k).2.2.1 = some (tyJxfd54e k) := by decide +kernel
def RJx3cf43 : String := "java/lang/constant/ConstantDesc"
def TJx3cf43 : u_T := fun k => match k with
  | _ => ("", "", "", false)
def tyJx3cf43 : Nat → FieldType := fun k => match k with
  | _ => .int
abbrev wsJx3cf430 : List Cond := u_ws RJx3cf43 TJx3cf43 0
theorem nmJx3cf43 : ∀ a, a < 0 → ∀ b, b < 0 → a ≠ b → (TJx3cf43 a).2.1 ≠ (TJx3cf43 b).2.1 := by decide +kernel
theorem tyJx3cf43_ok : ∀ k, k < 0 → parseFieldDescriptor (TJx3cf43 k).2.2.1 = some (tyJx3cf43 k) := by decide +kernel
def RJ7 : String := "java/util/Arrays"
def TJ7 : u_T := fun k => match k with
  | _ => ("", "", "", false)
def tyJ7 : Nat → FieldType := fun k => match k with
  | _ => .int
abbrev wsJ70 : List Cond := u_ws RJ7 TJ7 0
theorem nmJ7 : ∀ a, a < 0 → ∀ b, b < 0 → a ≠ b → (TJ7 a).2.1 ≠ (TJ7 b).2.1 := by decide +kernel
theorem tyJ7_ok : ∀ k, k < 0 → parseFieldDescriptor (TJ7 k).2.2.1 = some (tyJ7 k) := by decide +kernel
abbrev cJ7_fill_53178 : ByteArray := prog_16_method_103_code
def yJ7_fill_53178 : MethodName := ⟨RJ7, "fill", "([II)V"⟩
def RJ3 : String := "jdk/internal/util/Preconditions"
def TJ3 : u_T := fun k => match k with
  | _ => ("", "", "", false)
def tyJ3 : Nat → FieldType := fun k => match k with
  | _ => .int
abbrev wsJ30 : List Cond := u_ws RJ3 TJ3 0
theorem nmJ3 : ∀ a, a < 0 → ∀ b, b < 0 → a ≠ b → (TJ3 a).2.1 ≠ (TJ3 b).2.1 := by decide +kernel
theorem tyJ3_ok : ∀ k, k < 0 → parseFieldDescriptor (TJ3 k).2.2.1 = some (tyJ3 k) := by decide +kernel
abbrev cJ3_checkIndex_8e157 : ByteArray := prog_17_method_11_code
def yJ3_checkIndex_8e157 : MethodName := ⟨RJ3, "checkIndex", "(IILjava/util/function/BiFunction;)I"⟩
def RL : String := "GirthReportsLaw"
abbrev cL_law : ByteArray := code
def yL_law : MethodName := ⟨RL, "law", "([I)Z"⟩
abbrev vwCl : List vw_C := [(RX0, TX0, 10), (RX1, TX1, 6), (RX2, TX2, 3), (RX3, TX3, 2), (RX4, TX4, 2), (RX5, TX5, 5), (RX6, TX6, 7), (RX7, TX7, 12), (RX8, TX8, 31)]
