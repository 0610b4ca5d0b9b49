/-! ===== BEGIN words of one list among another's, by their places ===== -/
theorem goodIn_r {big : List Cond} (ws : List Cond) (ps : List Nat) (hp : ws = ps.filterMap (fun i => big[i]?)) (h : ws.all goodWord = true) : GoodIn big ws := by
  intro w hw
  have h1 := List.all_eq_true.mp h w hw
  rw [hp] at hw
  obtain ⟨i, -, hi⟩ := List.mem_filterMap.mp hw
  have hm : w ∈ big := by first | exact List.mem_of_getElem? hi | exact List.getElem?_mem hi
  exact ⟨hm, good_of_word h1⟩
theorem goodIn_app {big a b : List Cond} (ha : GoodIn big a) (hb : GoodIn big b) : GoodIn big (a ++ b) := fun w h => (List.mem_append.mp h).elim (ha w) (hb w)
theorem goodIn_ca {big a b : List Cond} {c : Cond} (ha : GoodIn big (c :: a)) (hb : GoodIn big b) : GoodIn big (c :: (a ++ b)) := fun w h => (List.mem_cons.mp h).elim (fun e => ha w (List.mem_cons.mpr (Or.inl e))) (fun h => (List.mem_append.mp h).elim (fun h => ha w (List.mem_cons.mpr (Or.inr h))) (hb w))
theorem goodIn_sub {big ws : List Cond} (hm : ∀ w ∈ ws, w ∈ big) (h : ws.all goodWord = true) : GoodIn big ws := fun w hw => ⟨hm w hw, good_of_word (List.all_eq_true.mp h w hw)⟩
/-! ===== END ===== -/
/-! ===== BEGIN printed: names, fields, word lists, decode rows ===== -/
def RX0 : String := "JamSongs$Kitchen"
def TX0 : u_T := fun k => match k with
  | 0 => ("JamSongs$Kitchen", "told", "Z", false)
  | 1 => ("JamSongs$Kitchen", "back", "I", false)
  | 2 => ("JamSongs$Kitchen", "singers", "I", false)
  | 3 => ("JamSongs$Kitchen", "low", "[I", true)
  | 4 => ("JamSongs$Kitchen", "high", "[I", true)
  | 5 => ("JamSongs$Kitchen", "breath", "[I", true)
  | 6 => ("JamSongs$Kitchen", "pans", "I", false)
  | 7 => ("JamSongs$Kitchen", "kind", "[I", true)
  | 8 => ("JamSongs$Kitchen", "mode", "[I", true)
  | 9 => ("JamSongs$Kitchen", "needs", "[I", true)
  | 10 => ("JamSongs$Kitchen", "bar", "I", false)
  | 11 => ("JamSongs$Kitchen", "sung", "[I", true)
  | 12 => ("JamSongs$Kitchen", "hears", "[I", true)
  | 13 => ("JamSongs$Kitchen", "thick", "[I", true)
  | _ => ("JamSongs$Kitchen", "heard", "[I", true)
def tyX0 : Nat → FieldType := fun k => match k with
  | 0 => .boolean
  | 1 => .int
  | 2 => .int
  | 3 => .array .int
  | 4 => .array .int
  | 5 => .array .int
  | 6 => .int
  | 7 => .array .int
  | 8 => .array .int
  | 9 => .array .int
  | 10 => .int
  | 11 => .array .int
  | 12 => .array .int
  | 13 => .array .int
  | _ => .array .int
abbrev wsX00 : List Cond := u_ws RX0 TX0 15
theorem nmX0 : ∀ a, a < 15 → ∀ b, b < 15 → a ≠ b → (TX0 a).2.1 ≠ (TX0 b).2.1 := by decide +kernel
theorem tyX0_ok : ∀ k, k < 15 → parseFieldDescriptor (TX0 k).2.2.1 = some (tyX0 k) := by decide +kernel
abbrev cX0_init : ByteArray := prog_2_method_1_code
def yX0_init : MethodName := ⟨RX0, "<init>", "()V"⟩
abbrev cX0_begin : ByteArray := prog_2_method_2_code
def yX0_begin : MethodName := ⟨RX0, "begin", "()V"⟩
abbrev cX0_takeFrom : ByteArray := prog_2_method_3_code
def yX0_takeFrom : MethodName := ⟨RX0, "takeFrom", "(LJamSongs$Kitchen;)V"⟩
abbrev cX0_keep : ByteArray := prog_2_method_4_code
def yX0_keep : MethodName := ⟨RX0, "keep", "([I)V"⟩
abbrev cX0_bring : ByteArray := prog_2_method_5_code
def yX0_bring : MethodName := ⟨RX0, "bring", "([I)V"⟩
abbrev cX0_can : ByteArray := prog_2_method_6_code
def yX0_can : MethodName := ⟨RX0, "can", "(II)Z"⟩
abbrev cX0_isSet : ByteArray := prog_2_method_7_code
def yX0_isSet : MethodName := ⟨RX0, "isSet", "(I)Z"⟩
abbrev cX0_setPans : ByteArray := prog_2_method_8_code
def yX0_setPans : MethodName := ⟨RX0, "setPans", "()I"⟩
abbrev cX0_tryBar : ByteArray := prog_2_method_9_code
def yX0_tryBar : MethodName := ⟨RX0, "tryBar", "([I)V"⟩
abbrev cX0_singBar : ByteArray := prog_2_method_10_code
def yX0_singBar : MethodName := ⟨RX0, "singBar", "([I)V"⟩
abbrev cX0_hear : ByteArray := prog_2_method_11_code
def yX0_hear : MethodName := ⟨RX0, "hear", "(I[I)V"⟩
abbrev cX0_judge : ByteArray := prog_2_method_12_code
def yX0_judge : MethodName := ⟨RX0, "judge", "(III)I"⟩
abbrev cX0_thickBy : ByteArray := prog_2_method_13_code
def yX0_thickBy : MethodName := ⟨RX0, "thickBy", "(II)I"⟩
def RX1 : String := "JamSongs$Row"
def TX1 : u_T := fun k => match k with
  | 0 => ("JamSongs$Row", "there", "Z", false)
  | 1 => ("JamSongs$Row", "lane", "I", false)
  | 2 => ("JamSongs$Row", "size", "I", false)
  | _ => ("JamSongs$Row", "items", "[I", true)
def tyX1 : Nat → FieldType := fun k => match k with
  | 0 => .boolean
  | 1 => .int
  | 2 => .int
  | _ => .array .int
abbrev wsX10 : List Cond := u_ws RX1 TX1 4
theorem nmX1 : ∀ a, a < 4 → ∀ b, b < 4 → a ≠ b → (TX1 a).2.1 ≠ (TX1 b).2.1 := by decide +kernel
theorem tyX1_ok : ∀ k, k < 4 → parseFieldDescriptor (TX1 k).2.2.1 = some (tyX1 k) := by decide +kernel
abbrev cX1_init : ByteArray := prog_3_method_1_code
def yX1_init : MethodName := ⟨RX1, "<init>", "()V"⟩
abbrev cX1_begin : ByteArray := prog_3_method_2_code
def yX1_begin : MethodName := ⟨RX1, "begin", "(II)V"⟩
abbrev cX1_reaches : ByteArray := prog_3_method_3_code
def yX1_reaches : MethodName := ⟨RX1, "reaches", "(II)Z"⟩
abbrev cX1_cut : ByteArray := prog_3_method_4_code
def yX1_cut : MethodName := ⟨RX1, "cut", "(I)I"⟩
def RX2 : String := "JamSongs$Tape"
def TX2 : u_T := fun k => match k with
  | 0 => ("JamSongs$Tape", "bytes", "[I", true)
  | 1 => ("JamSongs$Tape", "size", "I", false)
  | 2 => ("JamSongs$Tape", "place", "I", false)
  | 3 => ("JamSongs$Tape", "next", "I", false)
  | 4 => ("JamSongs$Tape", "token", "I", false)
  | 5 => ("JamSongs$Tape", "value", "I", false)
  | _ => ("JamSongs$Tape", "fault", "I", false)
def tyX2 : Nat → FieldType := fun k => match k with
  | 0 => .array .int
  | 1 => .int
  | 2 => .int
  | 3 => .int
  | 4 => .int
  | 5 => .int
  | _ => .int
abbrev wsX20 : List Cond := u_ws RX2 TX2 7
theorem nmX2 : ∀ a, a < 7 → ∀ b, b < 7 → a ≠ b → (TX2 a).2.1 ≠ (TX2 b).2.1 := by decide +kernel
theorem tyX2_ok : ∀ k, k < 7 → parseFieldDescriptor (TX2 k).2.2.1 = some (tyX2 k) := by decide +kernel
abbrev cX2_init : ByteArray := prog_4_method_1_code
def yX2_init : MethodName := ⟨RX2, "<init>", "()V"⟩
abbrev cX2_readInto : ByteArray := prog_4_method_2_code
def yX2_readInto : MethodName := ⟨RX2, "readInto", "(LJamSongs$Kitchen;)V"⟩
abbrev cX2_readSinger : ByteArray := prog_4_method_3_code
def yX2_readSinger : MethodName := ⟨RX2, "readSinger", "(LJamSongs$Kitchen;I)V"⟩
abbrev cX2_readPan : ByteArray := prog_4_method_4_code
def yX2_readPan : MethodName := ⟨RX2, "readPan", "(LJamSongs$Kitchen;I)V"⟩
abbrev cX2_kindOf : ByteArray := prog_4_method_5_code
def yX2_kindOf : MethodName := ⟨RX2, "kindOf", "(I)I"⟩
abbrev cX2_take : ByteArray := prog_4_method_6_code
def yX2_take : MethodName := ⟨RX2, "take", "(I)V"⟩
abbrev cX2_takeNumber : ByteArray := prog_4_method_7_code
def yX2_takeNumber : MethodName := ⟨RX2, "takeNumber", "(II)I"⟩
abbrev cX2_step : ByteArray := prog_4_method_8_code
def yX2_step : MethodName := ⟨RX2, "step", "()V"⟩
abbrev cX2_stepNumber : ByteArray := prog_4_method_9_code
def yX2_stepNumber : MethodName := ⟨RX2, "stepNumber", "()V"⟩
abbrev cX2_isFigure : ByteArray := prog_4_method_10_code
def yX2_isFigure : MethodName := ⟨RX2, "isFigure", "(I)Z"⟩
def RX3 : String := "JamSongs"
def TX3 : u_T := fun k => match k with
  | 0 => ("JamSongs", "rows", "[LJamSongs$Row;", true)
  | 1 => ("JamSongs", "tape", "LJamSongs$Tape;", true)
  | 2 => ("JamSongs", "now", "LJamSongs$Kitchen;", true)
  | 3 => ("JamSongs", "trial", "LJamSongs$Kitchen;", true)
  | 4 => ("JamSongs", "images", "[LJamSongs$Kitchen;", true)
  | 5 => ("JamSongs", "acts", "[[I", true)
  | 6 => ("JamSongs", "kept", "I", false)
  | 7 => ("JamSongs", "nextAct", "I", false)
  | 8 => ("JamSongs", "voices", "[I", true)
  | 9 => ("JamSongs", "tune", "[I", true)
  | 10 => ("JamSongs", "songBars", "[[I", true)
  | 11 => ("JamSongs", "bestSong", "I", false)
  | 12 => ("JamSongs", "bestSet", "I", false)
  | 13 => ("JamSongs", "bestNotes", "I", false)
  | 14 => ("JamSongs", "traced", "[I", true)
  | 15 => ("JamSongs", "bodies", "I", false)
  | 16 => ("JamSongs", "latestFault", "I", false)
  | _ => ("JamSongs", "latestFinding", "I", false)
def tyX3 : Nat → FieldType := fun k => match k with
  | 0 => .array (.object "JamSongs$Row")
  | 1 => .object "JamSongs$Tape"
  | 2 => .object "JamSongs$Kitchen"
  | 3 => .object "JamSongs$Kitchen"
  | 4 => .array (.object "JamSongs$Kitchen")
  | 5 => .array (.array .int)
  | 6 => .int
  | 7 => .int
  | 8 => .array .int
  | 9 => .array .int
  | 10 => .array (.array .int)
  | 11 => .int
  | 12 => .int
  | 13 => .int
  | 14 => .array .int
  | 15 => .int
  | 16 => .int
  | _ => .int
abbrev wsX30 : List Cond := u_ws RX3 TX3 18
theorem nmX3 : ∀ a, a < 18 → ∀ b, b < 18 → a ≠ b → (TX3 a).2.1 ≠ (TX3 b).2.1 := by decide +kernel
theorem tyX3_ok : ∀ k, k < 18 → parseFieldDescriptor (TX3 k).2.2.1 = some (tyX3 k) := by decide +kernel
abbrev cX3_init : ByteArray := prog_1_method_1_code
def yX3_init : MethodName := ⟨RX3, "<init>", "()V"⟩
abbrev cX3_row : ByteArray := prog_1_method_2_code
def yX3_row : MethodName := ⟨RX3, "row", "(III)I"⟩
abbrev cX3_set : ByteArray := prog_1_method_3_code
def yX3_set : MethodName := ⟨RX3, "set", "(III)I"⟩
abbrev cX3_copy : ByteArray := prog_1_method_4_code
def yX3_copy : MethodName := ⟨RX3, "copy", "(IIIII)I"⟩
abbrev cX3_drop : ByteArray := prog_1_method_5_code
def yX3_drop : MethodName := ⟨RX3, "drop", "(I)I"⟩
abbrev cX3_feed : ByteArray := prog_1_method_6_code
def yX3_feed : MethodName := ⟨RX3, "feed", "(I)I"⟩
abbrev cX3_kitchen : ByteArray := prog_1_method_7_code
def yX3_kitchen : MethodName := ⟨RX3, "kitchen", "()I"⟩
abbrev cX3_fault : ByteArray := prog_1_method_8_code
def yX3_fault : MethodName := ⟨RX3, "fault", "()I"⟩
abbrev cX3_bar : ByteArray := prog_1_method_9_code
def yX3_bar : MethodName := ⟨RX3, "bar", "(III)I"⟩
abbrev cX3_window : ByteArray := prog_1_method_10_code
def yX3_window : MethodName := ⟨RX3, "window", "(III)I"⟩
abbrev cX3_undo : ByteArray := prog_1_method_11_code
def yX3_undo : MethodName := ⟨RX3, "undo", "()I"⟩
abbrev cX3_pan : ByteArray := prog_1_method_12_code
def yX3_pan : MethodName := ⟨RX3, "pan", "(II)I"⟩
abbrev cX3_singer : ByteArray := prog_1_method_13_code
def yX3_singer : MethodName := ⟨RX3, "singer", "(II)I"⟩
abbrev cX3_alone : ByteArray := prog_1_method_14_code
def yX3_alone : MethodName := ⟨RX3, "alone", "(IIII)I"⟩
abbrev cX3_round : ByteArray := prog_1_method_15_code
def yX3_round : MethodName := ⟨RX3, "round", "(IIII)I"⟩
abbrev cX3_bestRound : ByteArray := prog_1_method_16_code
def yX3_bestRound : MethodName := ⟨RX3, "bestRound", "(IIII)I"⟩
abbrev cX3_song : ByteArray := prog_1_method_17_code
def yX3_song : MethodName := ⟨RX3, "song", "(III)I"⟩
abbrev cX3_toShut : ByteArray := prog_1_method_18_code
def yX3_toShut : MethodName := ⟨RX3, "toShut", "(IIIIII)I"⟩
abbrev cX3_modes : ByteArray := prog_1_method_19_code
def yX3_modes : MethodName := ⟨RX3, "modes", "(IIIIIII)I"⟩
abbrev cX3_coughs : ByteArray := prog_1_method_20_code
def yX3_coughs : MethodName := ⟨RX3, "coughs", "(IIIIIII)I"⟩
abbrev cX3_image : ByteArray := prog_1_method_21_code
def yX3_image : MethodName := ⟨RX3, "image", "(I)I"⟩
abbrev cX3_restore : ByteArray := prog_1_method_22_code
def yX3_restore : MethodName := ⟨RX3, "restore", "(I)I"⟩
abbrev cX3_kind : ByteArray := prog_1_method_23_code
def yX3_kind : MethodName := ⟨RX3, "kind", "(I)I"⟩
abbrev cX3_as : ByteArray := prog_1_method_24_code
def yX3_as : MethodName := ⟨RX3, "as", "(II)I"⟩
abbrev cX3_ask : ByteArray := prog_1_method_25_code
def yX3_ask : MethodName := ⟨RX3, "ask", "(II)I"⟩
abbrev cX3_trace : ByteArray := prog_1_method_26_code
def yX3_trace : MethodName := ⟨RX3, "trace", "(I)I"⟩
abbrev cX3_count : ByteArray := prog_1_method_27_code
def yX3_count : MethodName := ⟨RX3, "count", "(I)I"⟩
abbrev cX3_status : ByteArray := prog_1_method_28_code
def yX3_status : MethodName := ⟨RX3, "status", "()I"⟩
abbrev cX3_isNot : ByteArray := prog_1_method_29_code
def yX3_isNot : MethodName := ⟨RX3, "isNot", "(II)Z"⟩
abbrev cX3_found : ByteArray := prog_1_method_30_code
def yX3_found : MethodName := ⟨RX3, "found", "(I)I"⟩
abbrev cX3_fine : ByteArray := prog_1_method_31_code
def yX3_fine : MethodName := ⟨RX3, "fine", "(I)I"⟩
abbrev cX3_rowsThere : ByteArray := prog_1_method_32_code
def yX3_rowsThere : MethodName := ⟨RX3, "rowsThere", "()I"⟩
abbrev cX3_keepAct : ByteArray := prog_1_method_33_code
def yX3_keepAct : MethodName := ⟨RX3, "keepAct", "()V"⟩
abbrev cX3_takeTune : ByteArray := prog_1_method_34_code
def yX3_takeTune : MethodName := ⟨RX3, "takeTune", "(LJamSongs$Row;II)I"⟩
abbrev cX3_trySolo : ByteArray := prog_1_method_35_code
def yX3_trySolo : MethodName := ⟨RX3, "trySolo", "(III)V"⟩
abbrev cX3_tryRound : ByteArray := prog_1_method_36_code
def yX3_tryRound : MethodName := ⟨RX3, "tryRound", "(II)V"⟩
abbrev cX3_setsWithout : ByteArray := prog_1_method_37_code
def yX3_setsWithout : MethodName := ⟨RX3, "setsWithout", "(IIII)Z"⟩
abbrev cX3_seekSong : ByteArray := prog_1_method_38_code
def yX3_seekSong : MethodName := ⟨RX3, "seekSong", "(II)V"⟩
abbrev cX3_trySong : ByteArray := prog_1_method_39_code
def yX3_trySong : MethodName := ⟨RX3, "trySong", "(III)I"⟩
abbrev cX3_weighSong : ByteArray := prog_1_method_40_code
def yX3_weighSong : MethodName := ⟨RX3, "weighSong", "(II)V"⟩
abbrev cX3_noteOf : ByteArray := prog_1_method_41_code
def yX3_noteOf : MethodName := ⟨RX3, "noteOf", "(III)I"⟩
abbrev cX3_weightOf : ByteArray := prog_1_method_42_code
def yX3_weightOf : MethodName := ⟨RX3, "weightOf", "(III)I"⟩
abbrev cX3_power : ByteArray := prog_1_method_43_code
def yX3_power : MethodName := ⟨RX3, "power", "(II)I"⟩
abbrev cX3_commonDivisor : ByteArray := prog_1_method_44_code
def yX3_commonDivisor : MethodName := ⟨RX3, "commonDivisor", "(II)I"⟩
abbrev cX3_isOf : ByteArray := prog_1_method_45_code
def yX3_isOf : MethodName := ⟨RX3, "isOf", "(II)Z"⟩
abbrev cX3_leave : ByteArray := prog_1_method_46_code
def yX3_leave : MethodName := ⟨RX3, "leave", "(I)V"⟩
abbrev cX3_lentSize : ByteArray := prog_1_method_47_code
def yX3_lentSize : MethodName := ⟨RX3, "lentSize", "(I)I"⟩
abbrev cX3_sizeOfPlums : ByteArray := prog_1_method_48_code
def yX3_sizeOfPlums : MethodName := ⟨RX3, "sizeOfPlums", "(I)I"⟩
abbrev cX3_plumSize : ByteArray := prog_1_method_49_code
def yX3_plumSize : MethodName := ⟨RX3, "plumSize", "(I)I"⟩
abbrev cX3_sizeOfMarrows : ByteArray := prog_1_method_50_code
def yX3_sizeOfMarrows : MethodName := ⟨RX3, "sizeOfMarrows", "(I)I"⟩
abbrev cX3_marrowSize : ByteArray := prog_1_method_51_code
def yX3_marrowSize : MethodName := ⟨RX3, "marrowSize", "(I)I"⟩
abbrev cX3_lentMark : ByteArray := prog_1_method_52_code
def yX3_lentMark : MethodName := ⟨RX3, "lentMark", "(I)I"⟩
abbrev cX3_markOfPlums : ByteArray := prog_1_method_53_code
def yX3_markOfPlums : MethodName := ⟨RX3, "markOfPlums", "(I)I"⟩
abbrev cX3_plumMark : ByteArray := prog_1_method_54_code
def yX3_plumMark : MethodName := ⟨RX3, "plumMark", "(I)I"⟩
abbrev cX3_markOfMarrows : ByteArray := prog_1_method_55_code
def yX3_markOfMarrows : MethodName := ⟨RX3, "markOfMarrows", "(I)I"⟩
def RX4 : String := "JamSongsModel"
def TX4 : u_T := fun k => match k with
  | 0 => ("JamSongsModel", "lanes", "[I", true)
  | 1 => ("JamSongsModel", "sizes", "[I", true)
  | 2 => ("JamSongsModel", "items", "[I", true)
  | 3 => ("JamSongsModel", "status", "I", false)
  | 4 => ("JamSongsModel", "isThere", "Z", false)
  | 5 => ("JamSongsModel", "st", "[I", true)
  | 6 => ("JamSongsModel", "moved", "[I", true)
  | 7 => ("JamSongsModel", "tape", "[I", true)
  | 8 => ("JamSongsModel", "bytes", "I", false)
  | 9 => ("JamSongsModel", "latest", "I", false)
  | 10 => ("JamSongsModel", "place", "I", false)
  | 11 => ("JamSongsModel", "token", "I", false)
  | 12 => ("JamSongsModel", "value", "I", false)
  | 13 => ("JamSongsModel", "begins", "I", false)
  | 14 => ("JamSongsModel", "wrong", "I", false)
  | 15 => ("JamSongsModel", "read", "[I", true)
  | 16 => ("JamSongsModel", "notes", "[I", true)
  | 17 => ("JamSongsModel", "acts", "[I", true)
  | 18 => ("JamSongsModel", "actMany", "I", false)
  | 19 => ("JamSongsModel", "aside", "[I", true)
  | 20 => ("JamSongsModel", "row", "[I", true)
  | 21 => ("JamSongsModel", "noteMany", "I", false)
  | 22 => ("JamSongsModel", "isKept", "[Z", true)
  | 23 => ("JamSongsModel", "kept", "[I", true)
  | 24 => ("JamSongsModel", "trace", "[I", true)
  | _ => ("JamSongsModel", "traced", "I", false)
def tyX4 : Nat → FieldType := fun k => match k with
  | 0 => .array .int
  | 1 => .array .int
  | 2 => .array .int
  | 3 => .int
  | 4 => .boolean
  | 5 => .array .int
  | 6 => .array .int
  | 7 => .array .int
  | 8 => .int
  | 9 => .int
  | 10 => .int
  | 11 => .int
  | 12 => .int
  | 13 => .int
  | 14 => .int
  | 15 => .array .int
  | 16 => .array .int
  | 17 => .array .int
  | 18 => .int
  | 19 => .array .int
  | 20 => .array .int
  | 21 => .int
  | 22 => .array .boolean
  | 23 => .array .int
  | 24 => .array .int
  | _ => .int
abbrev wsX40 : List Cond := u_ws RX4 TX4 26
theorem nmX4 : ∀ a, a < 26 → ∀ b, b < 26 → a ≠ b → (TX4 a).2.1 ≠ (TX4 b).2.1 := by decide +kernel
theorem tyX4_ok : ∀ k, k < 26 → parseFieldDescriptor (TX4 k).2.2.1 = some (tyX4 k) := by decide +kernel
abbrev cX4_init : ByteArray := prog_6_method_1_code
def yX4_init : MethodName := ⟨RX4, "<init>", "()V"⟩
abbrev cX4_in : ByteArray := prog_6_method_2_code
def yX4_in : MethodName := ⟨RX4, "in", "(JJJ)Z"⟩
abbrev cX4_has : ByteArray := prog_6_method_3_code
def yX4_has : MethodName := ⟨RX4, "has", "(II)Z"⟩
abbrev cX4_ones : ByteArray := prog_6_method_4_code
def yX4_ones : MethodName := ⟨RX4, "ones", "(I)I"⟩
abbrev cX4_find : ByteArray := prog_6_method_5_code
def yX4_find : MethodName := ⟨RX4, "find", "(I)I"⟩
abbrev cX4_well : ByteArray := prog_6_method_6_code
def yX4_well : MethodName := ⟨RX4, "well", "(I)I"⟩
abbrev cX4_isRow : ByteArray := prog_6_method_7_code
def yX4_isRow : MethodName := ⟨RX4, "isRow", "(I)Z"⟩
abbrev cX4_row : ByteArray := prog_6_method_8_code
def yX4_row : MethodName := ⟨RX4, "row", "(III)I"⟩
abbrev cX4_asLane : ByteArray := prog_6_method_9_code
def yX4_asLane : MethodName := ⟨RX4, "asLane", "(II)I"⟩
abbrev cX4_set : ByteArray := prog_6_method_10_code
def yX4_set : MethodName := ⟨RX4, "set", "(III)I"⟩
abbrev cX4_copy : ByteArray := prog_6_method_11_code
def yX4_copy : MethodName := ⟨RX4, "copy", "(IIIII)I"⟩
abbrev cX4_drop : ByteArray := prog_6_method_12_code
def yX4_drop : MethodName := ⟨RX4, "drop", "(I)I"⟩
abbrev cX4_feed : ByteArray := prog_6_method_13_code
def yX4_feed : MethodName := ⟨RX4, "feed", "(I)I"⟩
abbrev cX4_nextToken : ByteArray := prog_6_method_14_code
def yX4_nextToken : MethodName := ⟨RX4, "nextToken", "()V"⟩
abbrev cX4_faults : ByteArray := prog_6_method_15_code
def yX4_faults : MethodName := ⟨RX4, "faults", "(I)Z"⟩
abbrev cX4_isLetter : ByteArray := prog_6_method_16_code
def yX4_isLetter : MethodName := ⟨RX4, "isLetter", "(I)Z"⟩
abbrev cX4_takes : ByteArray := prog_6_method_17_code
def yX4_takes : MethodName := ⟨RX4, "takes", "(I)Z"⟩
abbrev cX4_takesNumber : ByteArray := prog_6_method_18_code
def yX4_takesNumber : MethodName := ⟨RX4, "takesNumber", "(IIII)Z"⟩
abbrev cX4_readSinger : ByteArray := prog_6_method_19_code
def yX4_readSinger : MethodName := ⟨RX4, "readSinger", "()Z"⟩
abbrev cX4_readPan : ByteArray := prog_6_method_20_code
def yX4_readPan : MethodName := ⟨RX4, "readPan", "(I)Z"⟩
abbrev cX4_readKitchen : ByteArray := prog_6_method_21_code
def yX4_readKitchen : MethodName := ⟨RX4, "readKitchen", "()Z"⟩
abbrev cX4_kitchen : ByteArray := prog_6_method_22_code
def yX4_kitchen : MethodName := ⟨RX4, "kitchen", "()I"⟩
abbrev cX4_fault : ByteArray := prog_6_method_23_code
def yX4_fault : MethodName := ⟨RX4, "fault", "()I"⟩
abbrev cX4_isPan : ByteArray := prog_6_method_24_code
def yX4_isPan : MethodName := ⟨RX4, "isPan", "(I)Z"⟩
abbrev cX4_isSinger : ByteArray := prog_6_method_25_code
def yX4_isSinger : MethodName := ⟨RX4, "isSinger", "(I)Z"⟩
abbrev cX4_canSing : ByteArray := prog_6_method_26_code
def yX4_canSing : MethodName := ⟨RX4, "canSing", "(II)Z"⟩
abbrev cX4_panHears : ByteArray := prog_6_method_27_code
def yX4_panHears : MethodName := ⟨RX4, "panHears", "(I)V"⟩
abbrev cX4_oneBar : ByteArray := prog_6_method_28_code
def yX4_oneBar : MethodName := ⟨RX4, "oneBar", "()V"⟩
abbrev cX4_setPans : ByteArray := prog_6_method_29_code
def yX4_setPans : MethodName := ⟨RX4, "setPans", "()I"⟩
abbrev cX4_note : ByteArray := prog_6_method_30_code
def yX4_note : MethodName := ⟨RX4, "note", "()V"⟩
abbrev cX4_bar : ByteArray := prog_6_method_31_code
def yX4_bar : MethodName := ⟨RX4, "bar", "(III)I"⟩
abbrev cX4_window : ByteArray := prog_6_method_32_code
def yX4_window : MethodName := ⟨RX4, "window", "(III)I"⟩
abbrev cX4_undo : ByteArray := prog_6_method_33_code
def yX4_undo : MethodName := ⟨RX4, "undo", "()I"⟩
abbrev cX4_pan : ByteArray := prog_6_method_34_code
def yX4_pan : MethodName := ⟨RX4, "pan", "(II)I"⟩
abbrev cX4_singer : ByteArray := prog_6_method_35_code
def yX4_singer : MethodName := ⟨RX4, "singer", "(II)I"⟩
abbrev cX4_putAside : ByteArray := prog_6_method_36_code
def yX4_putAside : MethodName := ⟨RX4, "putAside", "()V"⟩
abbrev cX4_takeBack : ByteArray := prog_6_method_37_code
def yX4_takeBack : MethodName := ⟨RX4, "takeBack", "()V"⟩
abbrev cX4_allRest : ByteArray := prog_6_method_38_code
def yX4_allRest : MethodName := ⟨RX4, "allRest", "()V"⟩
abbrev cX4_lacks : ByteArray := prog_6_method_39_code
def yX4_lacks : MethodName := ⟨RX4, "lacks", "(III)I"⟩
abbrev cX4_singAlone : ByteArray := prog_6_method_40_code
def yX4_singAlone : MethodName := ⟨RX4, "singAlone", "(IIII)V"⟩
abbrev cX4_singRound : ByteArray := prog_6_method_41_code
def yX4_singRound : MethodName := ⟨RX4, "singRound", "(III)V"⟩
abbrev cX4_alone : ByteArray := prog_6_method_42_code
def yX4_alone : MethodName := ⟨RX4, "alone", "(IIII)I"⟩
abbrev cX4_round : ByteArray := prog_6_method_43_code
def yX4_round : MethodName := ⟨RX4, "round", "(IIII)I"⟩
abbrev cX4_bestRound : ByteArray := prog_6_method_44_code
def yX4_bestRound : MethodName := ⟨RX4, "bestRound", "(IIII)I"⟩
abbrev cX4_singsRow : ByteArray := prog_6_method_45_code
def yX4_singsRow : MethodName := ⟨RX4, "singsRow", "(II)Z"⟩
abbrev cX4_song : ByteArray := prog_6_method_46_code
def yX4_song : MethodName := ⟨RX4, "song", "(III)I"⟩
abbrev cX4_toShut : ByteArray := prog_6_method_47_code
def yX4_toShut : MethodName := ⟨RX4, "toShut", "(IIIIII)I"⟩
abbrev cX4_modes : ByteArray := prog_6_method_48_code
def yX4_modes : MethodName := ⟨RX4, "modes", "(IIIIIII)I"⟩
abbrev cX4_coughs : ByteArray := prog_6_method_49_code
def yX4_coughs : MethodName := ⟨RX4, "coughs", "(IIIIIII)I"⟩
abbrev cX4_image : ByteArray := prog_6_method_50_code
def yX4_image : MethodName := ⟨RX4, "image", "(I)I"⟩
abbrev cX4_restore : ByteArray := prog_6_method_51_code
def yX4_restore : MethodName := ⟨RX4, "restore", "(I)I"⟩
abbrev cX4_kind : ByteArray := prog_6_method_52_code
def yX4_kind : MethodName := ⟨RX4, "kind", "(I)I"⟩
abbrev cX4_isKind : ByteArray := prog_6_method_53_code
def yX4_isKind : MethodName := ⟨RX4, "isKind", "(II)Z"⟩
abbrev cX4_as : ByteArray := prog_6_method_54_code
def yX4_as : MethodName := ⟨RX4, "as", "(II)I"⟩
abbrev cX4_begin : ByteArray := prog_6_method_55_code
def yX4_begin : MethodName := ⟨RX4, "begin", "(I)V"⟩
abbrev cX4_lent : ByteArray := prog_6_method_56_code
def yX4_lent : MethodName := ⟨RX4, "lent", "(II)I"⟩
abbrev cX4_plumMark : ByteArray := prog_6_method_57_code
def yX4_plumMark : MethodName := ⟨RX4, "plumMark", "(I)I"⟩
abbrev cX4_marrowSize : ByteArray := prog_6_method_58_code
def yX4_marrowSize : MethodName := ⟨RX4, "marrowSize", "(I)I"⟩
abbrev cX4_sizeOfMarrow : ByteArray := prog_6_method_59_code
def yX4_sizeOfMarrow : MethodName := ⟨RX4, "sizeOfMarrow", "(I)I"⟩
abbrev cX4_markOf : ByteArray := prog_6_method_60_code
def yX4_markOf : MethodName := ⟨RX4, "markOf", "(I)I"⟩
abbrev cX4_plumSize : ByteArray := prog_6_method_61_code
def yX4_plumSize : MethodName := ⟨RX4, "plumSize", "(I)I"⟩
abbrev cX4_sizeOf : ByteArray := prog_6_method_62_code
def yX4_sizeOf : MethodName := ⟨RX4, "sizeOf", "(I)I"⟩
abbrev cX4_ask : ByteArray := prog_6_method_63_code
def yX4_ask : MethodName := ⟨RX4, "ask", "(II)I"⟩
abbrev cX4_trace : ByteArray := prog_6_method_64_code
def yX4_trace : MethodName := ⟨RX4, "trace", "(I)I"⟩
abbrev cX4_count : ByteArray := prog_6_method_65_code
def yX4_count : MethodName := ⟨RX4, "count", "(I)I"⟩
abbrev cX4_status : ByteArray := prog_6_method_66_code
def yX4_status : MethodName := ⟨RX4, "status", "()I"⟩
def RJ6 : String := "java/lang/Integer"
def TJ6 : u_T := fun k => match k with
  | _ => ("", "", "", false)
def tyJ6 : Nat → FieldType := fun k => match k with
  | _ => .int
abbrev wsJ60 : List Cond := u_ws RJ6 TJ6 0
theorem nmJ6 : ∀ a, a < 0 → ∀ b, b < 0 → a ≠ b → (TJ6 a).2.1 ≠ (TJ6 b).2.1 := by decide +kernel
theorem tyJ6_ok : ∀ k, k < 0 → parseFieldDescriptor (TJ6 k).2.2.1 = some (tyJ6 k) := by decide +kernel
abbrev cJ6_numberOfTrailingZeros_0f7a4 : ByteArray := prog_7_method_48_code
def yJ6_numberOfTrailingZeros_0f7a4 : MethodName := ⟨RJ6, "numberOfTrailingZeros", "(I)I"⟩
abbrev cJ6_bitCount_0f7a4 : ByteArray := prog_7_method_49_code
def yJ6_bitCount_0f7a4 : MethodName := ⟨RJ6, "bitCount", "(I)I"⟩
def RJ9 : String := "java/lang/Math"
def TJ9 : u_T := fun k => match k with
  | _ => ("", "", "", false)
def tyJ9 : Nat → FieldType := fun k => match k with
  | _ => .int
abbrev wsJ90 : List Cond := u_ws RJ9 TJ9 0
theorem nmJ9 : ∀ a, a < 0 → ∀ b, b < 0 → a ≠ b → (TJ9 a).2.1 ≠ (TJ9 b).2.1 := by decide +kernel
theorem tyJ9_ok : ∀ k, k < 0 → parseFieldDescriptor (TJ9 k).2.2.1 = some (tyJ9 k) := by decide +kernel
abbrev cJ9_abs_0f7a4 : ByteArray := prog_8_method_59_code
def yJ9_abs_0f7a4 : MethodName := ⟨RJ9, "abs", "(I)I"⟩
abbrev cJ9_max_7cf53 : ByteArray := prog_8_method_65_code
def yJ9_max_7cf53 : MethodName := ⟨RJ9, "max", "(II)I"⟩
abbrev cJ9_min_7cf53 : ByteArray := prog_8_method_69_code
def yJ9_min_7cf53 : MethodName := ⟨RJ9, "min", "(II)I"⟩
def RJ10 : String := "java/lang/System"
def TJ10 : u_T := fun k => match k with
  | _ => ("", "", "", false)
def tyJ10 : Nat → FieldType := fun k => match k with
  | _ => .int
abbrev wsJ100 : List Cond := u_ws RJ10 TJ10 0
theorem nmJ10 : ∀ a, a < 0 → ∀ b, b < 0 → a ≠ b → (TJ10 a).2.1 ≠ (TJ10 b).2.1 := by decide +kernel
theorem tyJ10_ok : ∀ k, k < 0 → parseFieldDescriptor (TJ10 k).2.2.1 = some (tyJ10 k) := by decide +kernel
def RJ7 : String := "java/util/Arrays"
def TJ7 : u_T := fun k => match k with
  | _ => ("", "", "", false)
def tyJ7 : Nat → FieldType := fun k => match k with
  | _ => .int
abbrev wsJ70 : List Cond := u_ws RJ7 TJ7 0
theorem nmJ7 : ∀ a, a < 0 → ∀ b, b < 0 → a ≠ b → (TJ7 a).2.1 ≠ (TJ7 b).2.1 := by decide +kernel
theorem tyJ7_ok : ∀ k, k < 0 → parseFieldDescriptor (TJ7 k).2.2.1 = some (tyJ7 k) := by decide +kernel
abbrev cJ7_fill_53178 : ByteArray := prog_10_method_103_code
def yJ7_fill_53178 : MethodName := ⟨RJ7, "fill", "([II)V"⟩
def RL : String := "JamSongsLaw"
abbrev cL_law : ByteArray := code
def yL_law : MethodName := ⟨RL, "law", "([I)Z"⟩
def wsL_law_r1 : List Cond := [Cond.classLink RL 7 RX3, Cond.instantiable RX3 18, Cond.initialized RX3, Cond.classLink RL 10 RX4, Cond.instantiable RX4 26, Cond.initialized RX4, Cond.methodLink RL 9 yX3_init, Cond.instanceMethod yX3_init, Cond.code yX3_init cX3_init 2 none, Cond.methodLink RX3 1 objectInit, Cond.instanceMethod objectInit, Cond.code objectInit ⟨#[0xb1]⟩ 1 none, Cond.classLink RX3 9 RX1, Cond.fieldLink RX3 11 "JamSongs" "rows" "[LJamSongs$Row;", Cond.classLink RX3 15 RX2, Cond.instantiable RX2 7, Cond.initialized RX2, Cond.fieldLink RX3 18 "JamSongs" "tape" "LJamSongs$Tape;", Cond.classLink RX3 22 RX0, Cond.instantiable RX0 15, Cond.initialized RX0, Cond.fieldLink RX3 25 "JamSongs" "now" "LJamSongs$Kitchen;", Cond.fieldLink RX3 29 "JamSongs" "trial" "LJamSongs$Kitchen;", Cond.fieldLink RX3 32 "JamSongs" "images" "[LJamSongs$Kitchen;"]
def wsL_law_r2 : List Cond := [Cond.classLink RX3 36 "[[I", Cond.arrayClass .int, Cond.fieldLink RX3 38 "JamSongs" "acts" "[[I", Cond.fieldLink RX3 41 "JamSongs" "kept" "I", Cond.fieldLink RX3 45 "JamSongs" "nextAct" "I", Cond.fieldLink RX3 48 "JamSongs" "voices" "[I", Cond.fieldLink RX3 52 "JamSongs" "tune" "[I", Cond.fieldLink RX3 55 "JamSongs" "songBars" "[[I", Cond.fieldLink RX3 58 "JamSongs" "bestSong" "I", Cond.fieldLink RX3 61 "JamSongs" "bestSet" "I", Cond.fieldLink RX3 64 "JamSongs" "bestNotes" "I", Cond.fieldLink RX3 67 "JamSongs" "traced" "[I", Cond.fieldLink RX3 70 "JamSongs" "bodies" "I", Cond.fieldLink RX3 73 "JamSongs" "latestFault" "I", Cond.fieldLink RX3 76 "JamSongs" "latestFinding" "I", Cond.instantiable RX1 4, Cond.initialized RX1, Cond.instanceMethod yX2_init, Cond.code yX2_init cX2_init 1 none, Cond.methodLink RX2 3 objectInit, Cond.fieldLink RX2 9 "JamSongs$Tape" "bytes" "[I", Cond.fieldLink RX2 15 "JamSongs$Tape" "size" "I", Cond.fieldLink RX2 19 "JamSongs$Tape" "place" "I", Cond.fieldLink RX2 22 "JamSongs$Tape" "next" "I"]
def wsL_law_r3 : List Cond := [Cond.fieldLink RX2 25 "JamSongs$Tape" "token" "I", Cond.fieldLink RX2 28 "JamSongs$Tape" "value" "I", Cond.fieldLink RX2 31 "JamSongs$Tape" "fault" "I", Cond.instanceMethod yX0_init, Cond.code yX0_init cX0_init 1 none, Cond.methodLink RX0 3 objectInit, Cond.fieldLink RX0 9 "JamSongs$Kitchen" "told" "Z", Cond.fieldLink RX0 15 "JamSongs$Kitchen" "back" "I", Cond.fieldLink RX0 19 "JamSongs$Kitchen" "singers" "I", Cond.fieldLink RX0 22 "JamSongs$Kitchen" "low" "[I", Cond.fieldLink RX0 26 "JamSongs$Kitchen" "high" "[I", Cond.fieldLink RX0 29 "JamSongs$Kitchen" "breath" "[I", Cond.fieldLink RX0 32 "JamSongs$Kitchen" "pans" "I", Cond.fieldLink RX0 35 "JamSongs$Kitchen" "kind" "[I", Cond.fieldLink RX0 38 "JamSongs$Kitchen" "mode" "[I", Cond.fieldLink RX0 41 "JamSongs$Kitchen" "needs" "[I", Cond.fieldLink RX0 44 "JamSongs$Kitchen" "bar" "I", Cond.fieldLink RX0 47 "JamSongs$Kitchen" "sung" "[I", Cond.fieldLink RX0 50 "JamSongs$Kitchen" "hears" "[I", Cond.fieldLink RX0 53 "JamSongs$Kitchen" "thick" "[I", Cond.fieldLink RX0 56 "JamSongs$Kitchen" "heard" "[I", Cond.instanceMethod yX1_init, Cond.code yX1_init cX1_init 1 none, Cond.methodLink RX1 3 objectInit]
def wsL_law_r4 : List Cond := [Cond.fieldLink RX1 9 "JamSongs$Row" "there" "Z", Cond.fieldLink RX1 15 "JamSongs$Row" "lane" "I", Cond.fieldLink RX1 19 "JamSongs$Row" "size" "I", Cond.fieldLink RX1 22 "JamSongs$Row" "items" "[I", Cond.methodLink RL 12 yX4_init, Cond.instanceMethod yX4_init, Cond.code yX4_init cX4_init 2 none, Cond.methodLink RX4 1 objectInit, Cond.fieldLink RX4 7 "JamSongsModel" "lanes" "[I", Cond.fieldLink RX4 13 "JamSongsModel" "sizes" "[I", Cond.fieldLink RX4 16 "JamSongsModel" "items" "[I", Cond.fieldLink RX4 19 "JamSongsModel" "st" "[I", Cond.fieldLink RX4 22 "JamSongsModel" "moved" "[I", Cond.fieldLink RX4 25 "JamSongsModel" "tape" "[I", Cond.fieldLink RX4 28 "JamSongsModel" "read" "[I", Cond.fieldLink RX4 31 "JamSongsModel" "notes" "[I", Cond.fieldLink RX4 34 "JamSongsModel" "acts" "[I", Cond.fieldLink RX4 37 "JamSongsModel" "aside" "[I", Cond.fieldLink RX4 40 "JamSongsModel" "row" "[I", Cond.arrayClass .boolean, Cond.fieldLink RX4 43 "JamSongsModel" "isKept" "[Z", Cond.fieldLink RX4 47 "JamSongsModel" "kept" "[I", Cond.fieldLink RX4 50 "JamSongsModel" "trace" "[I", Cond.methodLink RL 13 yX3_row]
def wsL_law_r5 : List Cond := [Cond.instanceMethod yX3_row, Cond.selects RX3 yX3_row yX3_row, Cond.code yX3_row cX3_row 4 (some .int), Cond.constant RX3 84 (-1000001), Cond.methodLink RX3 80 yX3_isNot, Cond.static yX3_isNot, Cond.code yX3_isNot cX3_isNot 2 (some .boolean), Cond.methodLink RX3 85 yX3_found, Cond.instanceMethod yX3_found, Cond.selects RX3 yX3_found yX3_found, Cond.code yX3_found cX3_found 2 (some .int), Cond.constant RX3 263 (-1000010), Cond.methodLink RX3 89 yX1_begin, Cond.instanceMethod yX1_begin, Cond.selects RX1 yX1_begin yX1_begin, Cond.code yX1_begin cX1_begin 3 none, Cond.methodLink RX1 26 yJ7_fill_53178, Cond.static yJ7_fill_53178, Cond.initialized RJ7, Cond.code yJ7_fill_53178 cJ7_fill_53178 4 none, Cond.methodLink RX3 93 yX3_fine, Cond.instanceMethod yX3_fine, Cond.selects RX3 yX3_fine yX3_fine, Cond.code yX3_fine cX3_fine 2 (some .int)]
def wsL_law_r6 : List Cond := [Cond.methodLink RL 17 yX4_row, Cond.instanceMethod yX4_row, Cond.selects RX4 yX4_row yX4_row, Cond.code yX4_row cX4_row 5 (some .int), Cond.constantLong RX4 68 (2), Cond.constant RX4 70 (-1000001), Cond.methodLink RX4 64 yX4_isRow, Cond.static yX4_isRow, Cond.code yX4_isRow cX4_isRow 1 (some .boolean), Cond.constantLong RX4 58 (7), Cond.methodLink RX4 60 yX4_in, Cond.static yX4_in, Cond.code yX4_in cX4_in 6 (some .boolean), Cond.methodLink RX4 71 yX4_find, Cond.instanceMethod yX4_find, Cond.selects RX4 yX4_find yX4_find, Cond.code yX4_find cX4_find 2 (some .int), Cond.fieldLink RX4 53 "JamSongsModel" "status" "I", Cond.constant RX4 57 (-1000010), Cond.methodLink RX4 75 yX4_well, Cond.instanceMethod yX4_well, Cond.selects RX4 yX4_well yX4_well, Cond.code yX4_well cX4_well 2 (some .int), Cond.methodLink RL 18 yX3_set]
def wsL_law_r7 : List Cond := [Cond.instanceMethod yX3_set, Cond.selects RX3 yX3_set yX3_set, Cond.code yX3_set cX3_set 5 (some .int), Cond.fieldLink RX3 96 "JamSongs$Row" "there" "Z", Cond.fieldLink RX3 103 "JamSongs$Row" "items" "[I", Cond.methodLink RX3 100 yX1_reaches, Cond.instanceMethod yX1_reaches, Cond.selects RX1 yX1_reaches yX1_reaches, Cond.code yX1_reaches cX1_reaches 3 (some .boolean), Cond.methodLink RX3 106 yX1_cut, Cond.instanceMethod yX1_cut, Cond.selects RX1 yX1_cut yX1_cut, Cond.code yX1_cut cX1_cut 2 (some .int), Cond.methodLink RL 21 yX4_set, Cond.instanceMethod yX4_set, Cond.selects RX4 yX4_set yX4_set, Cond.code yX4_set cX4_set 4 (some .int), Cond.methodLink RX4 78 yX4_asLane, Cond.static yX4_asLane, Cond.code yX4_asLane cX4_asLane 2 (some .int), Cond.methodLink RL 22 yX3_copy, Cond.instanceMethod yX3_copy, Cond.selects RX3 yX3_copy yX3_copy, Cond.code yX3_copy cX3_copy 8 (some .int)]
def wsL_law_r8 : List Cond := [Cond.fieldLink RX3 109 "JamSongs$Row" "lane" "I", Cond.methodLink RX3 112 arraycopyName, Cond.native arraycopyName, Cond.static arraycopyName, Cond.initialized "java/lang/System", Cond.methodLink RL 26 yX4_copy, Cond.instanceMethod yX4_copy, Cond.selects RX4 yX4_copy yX4_copy, Cond.code yX4_copy cX4_copy 7 (some .int), Cond.methodLink RL 27 yX3_drop, Cond.instanceMethod yX3_drop, Cond.selects RX3 yX3_drop yX3_drop, Cond.code yX3_drop cX3_drop 3 (some .int), Cond.fieldLink RX3 118 "JamSongs$Row" "size" "I", Cond.methodLink RL 31 yX4_drop, Cond.instanceMethod yX4_drop, Cond.selects RX4 yX4_drop yX4_drop, Cond.code yX4_drop cX4_drop 3 (some .int), Cond.methodLink RL 32 yX3_feed, Cond.instanceMethod yX3_feed, Cond.selects RX3 yX3_feed yX3_feed, Cond.code yX3_feed cX3_feed 2 (some .int), Cond.fieldLink RX3 121 "JamSongs$Tape" "size" "I", Cond.constant RX3 122 (-1000003)]
def wsL_law_r9 : List Cond := [Cond.fieldLink RX3 123 "JamSongs$Tape" "bytes" "[I", Cond.methodLink RL 35 yX4_feed, Cond.instanceMethod yX4_feed, Cond.selects RX4 yX4_feed yX4_feed, Cond.code yX4_feed cX4_feed 2 (some .int), Cond.constantLong RX4 82 (255), Cond.fieldLink RX4 84 "JamSongsModel" "bytes" "I", Cond.constant RX4 87 (-1000003), Cond.methodLink RL 36 yX3_kitchen, Cond.instanceMethod yX3_kitchen, Cond.selects RX3 yX3_kitchen yX3_kitchen, Cond.code yX3_kitchen cX3_kitchen 1 (some .int), Cond.fieldLink RX3 130 "JamSongs$Tape" "fault" "I", Cond.constant RX3 133 (-1000100), Cond.fieldLink RX3 134 "JamSongs$Tape" "place" "I", Cond.fieldLink RX3 140 "JamSongs$Kitchen" "pans" "I", Cond.methodLink RX3 126 yX2_readInto, Cond.instanceMethod yX2_readInto, Cond.selects RX2 yX2_readInto yX2_readInto, Cond.code yX2_readInto cX2_readInto 3 none, Cond.fieldLink RX2 50 "JamSongs$Kitchen" "back" "I", Cond.methodLink RX2 34 yX0_begin, Cond.instanceMethod yX0_begin, Cond.selects RX0 yX0_begin yX0_begin]
def wsL_law_r10 : List Cond := [Cond.code yX0_begin cX0_begin 1 none, Cond.constant RX0 65 (-1000000), Cond.methodLink RX0 59 yJ7_fill_53178, Cond.methodLink RX2 39 yX2_step, Cond.instanceMethod yX2_step, Cond.selects RX2 yX2_step yX2_step, Cond.code yX2_step cX2_step 3 none, Cond.methodLink RX2 91 yX2_isFigure, Cond.static yX2_isFigure, Cond.code yX2_isFigure cX2_isFigure 1 (some .boolean), Cond.methodLink RX2 95 yX2_stepNumber, Cond.instanceMethod yX2_stepNumber, Cond.selects RX2 yX2_stepNumber yX2_stepNumber, Cond.code yX2_stepNumber cX2_stepNumber 1 none, Cond.methodLink RX2 98 Lib.Math.min.name, Cond.static Lib.Math.min.name, Cond.initialized "java/lang/Math", Cond.code Lib.Math.min.name Lib.Math.min.code 2 (some .int), Cond.methodLink RX2 42 yX2_take, Cond.instanceMethod yX2_take, Cond.selects RX2 yX2_take yX2_take, Cond.code yX2_take cX2_take 2 none, Cond.methodLink RX2 46 yX2_takeNumber, Cond.instanceMethod yX2_takeNumber]
def wsL_law_r11 : List Cond := [Cond.selects RX2 yX2_takeNumber yX2_takeNumber, Cond.code yX2_takeNumber cX2_takeNumber 4 (some .int), Cond.methodLink RX2 53 yX2_readSinger, Cond.instanceMethod yX2_readSinger, Cond.selects RX2 yX2_readSinger yX2_readSinger, Cond.code yX2_readSinger cX2_readSinger 3 none, Cond.fieldLink RX2 64 "JamSongs$Kitchen" "low" "[I", Cond.fieldLink RX2 67 "JamSongs$Kitchen" "high" "[I", Cond.fieldLink RX2 70 "JamSongs$Kitchen" "breath" "[I", Cond.fieldLink RX2 73 "JamSongs$Kitchen" "singers" "I", Cond.methodLink RX2 57 yX2_kindOf, Cond.static yX2_kindOf, Cond.code yX2_kindOf cX2_kindOf 1 (some .int), Cond.methodLink RX2 61 yX2_readPan, Cond.instanceMethod yX2_readPan, Cond.selects RX2 yX2_readPan yX2_readPan, Cond.code yX2_readPan cX2_readPan 3 none, Cond.fieldLink RX2 76 "JamSongs$Kitchen" "kind" "[I", Cond.fieldLink RX2 79 "JamSongs$Kitchen" "mode" "[I", Cond.fieldLink RX2 82 "JamSongs$Kitchen" "needs" "[I", Cond.fieldLink RX2 85 "JamSongs$Kitchen" "hears" "[I", Cond.fieldLink RX2 88 "JamSongs$Kitchen" "pans" "I", Cond.methodLink RX3 137 yX0_takeFrom, Cond.instanceMethod yX0_takeFrom]
def wsL_law_r12 : List Cond := [Cond.selects RX0 yX0_takeFrom yX0_takeFrom, Cond.code yX0_takeFrom cX0_takeFrom 2 none, Cond.methodLink RX0 66 arraycopyName, Cond.methodLink RL 40 yX4_kitchen, Cond.instanceMethod yX4_kitchen, Cond.selects RX4 yX4_kitchen yX4_kitchen, Cond.code yX4_kitchen cX4_kitchen 3 (some .int), Cond.fieldLink RX4 108 "JamSongsModel" "wrong" "I", Cond.fieldLink RX4 138 "JamSongsModel" "latest" "I", Cond.constant RX4 141 (-1000100), Cond.fieldLink RX4 91 "JamSongsModel" "begins" "I", Cond.fieldLink RX4 142 "JamSongsModel" "isThere" "Z", Cond.fieldLink RX4 146 "JamSongsModel" "actMany" "I", Cond.methodLink RX4 135 yX4_readKitchen, Cond.instanceMethod yX4_readKitchen, Cond.selects RX4 yX4_readKitchen yX4_readKitchen, Cond.code yX4_readKitchen cX4_readKitchen 3 (some .boolean), Cond.fieldLink RX4 88 "JamSongsModel" "place" "I", Cond.fieldLink RX4 94 "JamSongsModel" "token" "I", Cond.methodLink RX4 117 yX4_nextToken, Cond.instanceMethod yX4_nextToken, Cond.selects RX4 yX4_nextToken yX4_nextToken, Cond.code yX4_nextToken cX4_nextToken 1 none, Cond.fieldLink RX4 97 "JamSongsModel" "value" "I"]
def wsL_law_r13 : List Cond := [Cond.constantLong RX4 100 (48), Cond.constantLong RX4 102 (57), Cond.constantLong RX4 104 (97), Cond.constantLong RX4 106 (122), Cond.methodLink RX4 120 yX4_takes, Cond.instanceMethod yX4_takes, Cond.selects RX4 yX4_takes yX4_takes, Cond.code yX4_takes cX4_takes 2 (some .boolean), Cond.methodLink RX4 111 yX4_isLetter, Cond.instanceMethod yX4_isLetter, Cond.selects RX4 yX4_isLetter yX4_isLetter, Cond.code yX4_isLetter cX4_isLetter 2 (some .boolean), Cond.methodLink RX4 114 yX4_faults, Cond.instanceMethod yX4_faults, Cond.selects RX4 yX4_faults yX4_faults, Cond.code yX4_faults cX4_faults 2 (some .boolean), Cond.methodLink RX4 123 yX4_takesNumber, Cond.instanceMethod yX4_takesNumber, Cond.selects RX4 yX4_takesNumber yX4_takesNumber, Cond.code yX4_takesNumber cX4_takesNumber 5 (some .boolean), Cond.methodLink RX4 128 yX4_readPan, Cond.instanceMethod yX4_readPan, Cond.selects RX4 yX4_readPan yX4_readPan, Cond.code yX4_readPan cX4_readPan 3 (some .boolean)]
def wsL_law_r14 : List Cond := [Cond.constant RX4 127 (-1000000), Cond.methodLink RX4 131 yX4_readSinger, Cond.instanceMethod yX4_readSinger, Cond.selects RX4 yX4_readSinger yX4_readSinger, Cond.code yX4_readSinger cX4_readSinger 2 (some .boolean), Cond.methodLink RL 41 yX3_fault, Cond.instanceMethod yX3_fault, Cond.selects RX3 yX3_fault yX3_fault, Cond.code yX3_fault cX3_fault 1 (some .int), Cond.methodLink RL 44 yX4_fault, Cond.instanceMethod yX4_fault, Cond.selects RX4 yX4_fault yX4_fault, Cond.code yX4_fault cX4_fault 1 (some .int), Cond.methodLink RL 45 yX3_bar, Cond.instanceMethod yX3_bar, Cond.selects RX3 yX3_bar yX3_bar, Cond.code yX3_bar cX3_bar 5 (some .int), Cond.fieldLink RX3 143 "JamSongs$Kitchen" "told" "Z", Cond.constant RX3 146 (-1000002), Cond.fieldLink RX3 147 "JamSongs$Kitchen" "singers" "I", Cond.methodLink RX3 150 yX0_can, Cond.instanceMethod yX0_can, Cond.selects RX0 yX0_can yX0_can, Cond.code yX0_can cX0_can 3 (some .boolean)]
def wsL_law_r15 : List Cond := [Cond.methodLink RX3 153 yX3_keepAct, Cond.instanceMethod yX3_keepAct, Cond.selects RX3 yX3_keepAct yX3_keepAct, Cond.code yX3_keepAct cX3_keepAct 1 none, Cond.methodLink RX3 267 Lib.Math.min.name, Cond.methodLink RX3 264 yX0_keep, Cond.instanceMethod yX0_keep, Cond.selects RX0 yX0_keep yX0_keep, Cond.code yX0_keep cX0_keep 2 none, Cond.methodLink RX3 156 yX0_singBar, Cond.instanceMethod yX0_singBar, Cond.selects RX0 yX0_singBar yX0_singBar, Cond.code yX0_singBar cX0_singBar 3 none, Cond.methodLink RX0 72 yX0_isSet, Cond.instanceMethod yX0_isSet, Cond.selects RX0 yX0_isSet yX0_isSet, Cond.code yX0_isSet cX0_isSet 2 (some .boolean), Cond.methodLink RX0 84 yX0_hear, Cond.instanceMethod yX0_hear, Cond.selects RX0 yX0_hear yX0_hear, Cond.code yX0_hear cX0_hear 5 none, Cond.methodLink RX0 88 yJ6_numberOfTrailingZeros_0f7a4, Cond.static yJ6_numberOfTrailingZeros_0f7a4, Cond.initialized RJ6]
def wsL_law_r16 : List Cond := [Cond.code yJ6_numberOfTrailingZeros_0f7a4 cJ6_numberOfTrailingZeros_0f7a4 2 (some .int), Cond.constant RJ6 264 (65536), Cond.methodLink RX0 94 yX0_judge, Cond.instanceMethod yX0_judge, Cond.selects RX0 yX0_judge yX0_judge, Cond.code yX0_judge cX0_judge 5 (some .int), Cond.methodLink RX0 102 Lib.Math.abs.name, Cond.static Lib.Math.abs.name, Cond.code Lib.Math.abs.name Lib.Math.abs.code 1 (some .int), Cond.methodLink RX0 98 yX0_thickBy, Cond.instanceMethod yX0_thickBy, Cond.selects RX0 yX0_thickBy yX0_thickBy, Cond.code yX0_thickBy cX0_thickBy 3 (some .int), Cond.methodLink RX0 107 Lib.Math.max.name, Cond.static Lib.Math.max.name, Cond.code Lib.Math.max.name Lib.Math.max.code 2 (some .int), Cond.methodLink RX3 160 yX0_setPans, Cond.instanceMethod yX0_setPans, Cond.selects RX0 yX0_setPans yX0_setPans, Cond.code yX0_setPans cX0_setPans 3 (some .int), Cond.methodLink RL 48 yX4_bar, Cond.instanceMethod yX4_bar, Cond.selects RX4 yX4_bar yX4_bar, Cond.code yX4_bar cX4_bar 6 (some .int)]
def wsL_law_r17 : List Cond := [Cond.constant RX4 157 (-1000002), Cond.methodLink RX4 158 yX4_canSing, Cond.instanceMethod yX4_canSing, Cond.selects RX4 yX4_canSing yX4_canSing, Cond.code yX4_canSing cX4_canSing 3 (some .boolean), Cond.methodLink RX4 161 yX4_note, Cond.instanceMethod yX4_note, Cond.selects RX4 yX4_note yX4_note, Cond.code yX4_note cX4_note 2 none, Cond.methodLink RX4 164 yX4_oneBar, Cond.instanceMethod yX4_oneBar, Cond.selects RX4 yX4_oneBar yX4_oneBar, Cond.code yX4_oneBar cX4_oneBar 2 none, Cond.methodLink RX4 153 yX4_panHears, Cond.instanceMethod yX4_panHears, Cond.selects RX4 yX4_panHears yX4_panHears, Cond.code yX4_panHears cX4_panHears 7 none, Cond.methodLink RX4 149 yX4_has, Cond.static yX4_has, Cond.code yX4_has cX4_has 2 (some .boolean), Cond.methodLink RX4 167 yX4_setPans, Cond.instanceMethod yX4_setPans, Cond.selects RX4 yX4_setPans yX4_setPans, Cond.code yX4_setPans cX4_setPans 3 (some .int)]
def wsL_law_r18 : List Cond := [Cond.methodLink RL 49 yX3_window, Cond.instanceMethod yX3_window, Cond.selects RX3 yX3_window yX3_window, Cond.code yX3_window cX3_window 4 (some .int), Cond.fieldLink RX3 164 "JamSongs$Kitchen" "hears" "[I", Cond.methodLink RL 52 yX4_window, Cond.instanceMethod yX4_window, Cond.selects RX4 yX4_window yX4_window, Cond.code yX4_window cX4_window 4 (some .int), Cond.methodLink RX4 171 yX4_isPan, Cond.instanceMethod yX4_isPan, Cond.selects RX4 yX4_isPan yX4_isPan, Cond.code yX4_isPan cX4_isPan 2 (some .boolean), Cond.methodLink RX4 174 yX4_isSinger, Cond.instanceMethod yX4_isSinger, Cond.selects RX4 yX4_isSinger yX4_isSinger, Cond.code yX4_isSinger cX4_isSinger 2 (some .boolean), Cond.methodLink RL 53 yX3_undo, Cond.instanceMethod yX3_undo, Cond.selects RX3 yX3_undo yX3_undo, Cond.code yX3_undo cX3_undo 1 (some .int), Cond.methodLink RX3 167 yX0_bring, Cond.instanceMethod yX0_bring, Cond.selects RX0 yX0_bring yX0_bring]
def wsL_law_r19 : List Cond := [Cond.code yX0_bring cX0_bring 2 none, Cond.methodLink RL 56 yX4_undo, Cond.instanceMethod yX4_undo, Cond.selects RX4 yX4_undo yX4_undo, Cond.code yX4_undo cX4_undo 2 (some .int), Cond.methodLink RL 57 yX3_pan, Cond.instanceMethod yX3_pan, Cond.selects RX3 yX3_pan yX3_pan, Cond.code yX3_pan cX3_pan 3 (some .int), Cond.fieldLink RX3 170 "JamSongs$Kitchen" "mode" "[I", Cond.fieldLink RX3 173 "JamSongs$Kitchen" "needs" "[I", Cond.fieldLink RX3 176 "JamSongs$Kitchen" "thick" "[I", Cond.fieldLink RX3 183 "JamSongs$Kitchen" "heard" "[I", Cond.methodLink RX3 179 yX0_isSet, Cond.methodLink RL 61 yX4_pan, Cond.instanceMethod yX4_pan, Cond.selects RX4 yX4_pan yX4_pan, Cond.code yX4_pan cX4_pan 3 (some .int), Cond.methodLink RL 62 yX3_singer, Cond.instanceMethod yX3_singer, Cond.selects RX3 yX3_singer yX3_singer, Cond.code yX3_singer cX3_singer 3 (some .int), Cond.fieldLink RX3 186 "JamSongs$Kitchen" "low" "[I", Cond.fieldLink RX3 189 "JamSongs$Kitchen" "high" "[I"]
def wsL_law_r20 : List Cond := [Cond.fieldLink RX3 192 "JamSongs$Kitchen" "breath" "[I", Cond.fieldLink RX3 195 "JamSongs$Kitchen" "sung" "[I", Cond.methodLink RL 65 yX4_singer, Cond.instanceMethod yX4_singer, Cond.selects RX4 yX4_singer yX4_singer, Cond.code yX4_singer cX4_singer 3 (some .int), Cond.methodLink RL 66 yX3_alone, Cond.instanceMethod yX3_alone, Cond.selects RX3 yX3_alone yX3_alone, Cond.code yX3_alone cX3_alone 6 (some .int), Cond.methodLink RX3 198 yX3_takeTune, Cond.instanceMethod yX3_takeTune, Cond.selects RX3 yX3_takeTune yX3_takeTune, Cond.code yX3_takeTune cX3_takeTune 5 (some .int), Cond.methodLink RX3 202 yX3_trySolo, Cond.instanceMethod yX3_trySolo, Cond.selects RX3 yX3_trySolo yX3_trySolo, Cond.code yX3_trySolo cX3_trySolo 5 none, Cond.methodLink RX3 272 yJ7_fill_53178, Cond.methodLink RX3 278 yX0_tryBar, Cond.instanceMethod yX0_tryBar, Cond.selects RX0 yX0_tryBar yX0_tryBar, Cond.code yX0_tryBar cX0_tryBar 3 none, Cond.methodLink RX0 76 yX0_can]
def wsL_law_r21 : List Cond := [Cond.methodLink RX0 80 yX0_singBar, Cond.methodLink RL 70 yX4_alone, Cond.instanceMethod yX4_alone, Cond.selects RX4 yX4_alone yX4_alone, Cond.code yX4_alone cX4_alone 7 (some .int), Cond.constantLong RX4 180 (16), Cond.methodLink RX4 182 yX4_lacks, Cond.instanceMethod yX4_lacks, Cond.selects RX4 yX4_lacks yX4_lacks, Cond.code yX4_lacks cX4_lacks 6 (some .int), Cond.methodLink RX4 186 yX4_putAside, Cond.instanceMethod yX4_putAside, Cond.selects RX4 yX4_putAside yX4_putAside, Cond.code yX4_putAside cX4_putAside 2 none, Cond.methodLink RX4 189 yX4_singAlone, Cond.instanceMethod yX4_singAlone, Cond.selects RX4 yX4_singAlone yX4_singAlone, Cond.code yX4_singAlone cX4_singAlone 7 none, Cond.methodLink RX4 177 yX4_allRest, Cond.instanceMethod yX4_allRest, Cond.selects RX4 yX4_allRest yX4_allRest, Cond.code yX4_allRest cX4_allRest 2 none, Cond.methodLink RX4 193 yX4_takeBack, Cond.instanceMethod yX4_takeBack]
def wsL_law_r22 : List Cond := [Cond.selects RX4 yX4_takeBack yX4_takeBack, Cond.code yX4_takeBack cX4_takeBack 2 none, Cond.methodLink RL 71 yX3_round, Cond.instanceMethod yX3_round, Cond.selects RX3 yX3_round yX3_round, Cond.code yX3_round cX3_round 6 (some .int), Cond.methodLink RX3 206 yX3_tryRound, Cond.instanceMethod yX3_tryRound, Cond.selects RX3 yX3_tryRound yX3_tryRound, Cond.code yX3_tryRound cX3_tryRound 7 none, Cond.methodLink RL 74 yX4_round, Cond.instanceMethod yX4_round, Cond.selects RX4 yX4_round yX4_round, Cond.code yX4_round cX4_round 7 (some .int), Cond.constantLong RX4 196 (8), Cond.methodLink RX4 198 yX4_singRound, Cond.instanceMethod yX4_singRound, Cond.selects RX4 yX4_singRound yX4_singRound, Cond.code yX4_singRound cX4_singRound 9 none, Cond.methodLink RL 75 yX3_bestRound, Cond.instanceMethod yX3_bestRound, Cond.selects RX3 yX3_bestRound yX3_bestRound, Cond.code yX3_bestRound cX3_bestRound 10 (some .int), Cond.methodLink RX3 209 yJ6_bitCount_0f7a4]
def wsL_law_r23 : List Cond := [Cond.static yJ6_bitCount_0f7a4, Cond.code yJ6_bitCount_0f7a4 cJ6_bitCount_0f7a4 1 (some .int), Cond.constant RJ6 265 (1431655765), Cond.constant RJ6 266 (858993459), Cond.constant RJ6 267 (252645135), Cond.methodLink RL 78 yX4_bestRound, Cond.instanceMethod yX4_bestRound, Cond.selects RX4 yX4_bestRound yX4_bestRound, Cond.code yX4_bestRound cX4_bestRound 10 (some .int), Cond.methodLink RX4 202 yX4_ones, Cond.static yX4_ones, Cond.code yX4_ones cX4_ones 3 (some .int), Cond.methodLink RL 79 yX3_song, Cond.instanceMethod yX3_song, Cond.selects RX3 yX3_song yX3_song, Cond.code yX3_song cX3_song 4 (some .int), Cond.methodLink RX3 214 yX3_seekSong, Cond.instanceMethod yX3_seekSong, Cond.selects RX3 yX3_seekSong yX3_seekSong, Cond.code yX3_seekSong cX3_seekSong 6 none, Cond.methodLink RX3 281 yX3_trySong, Cond.instanceMethod yX3_trySong, Cond.selects RX3 yX3_trySong yX3_trySong, Cond.code yX3_trySong cX3_trySong 7 (some .int)]
def wsL_law_r24 : List Cond := [Cond.methodLink RX3 287 yJ6_numberOfTrailingZeros_0f7a4, Cond.methodLink RX3 217 yX3_noteOf, Cond.static yX3_noteOf, Cond.code yX3_noteOf cX3_noteOf 3 (some .int), Cond.methodLink RX3 284 yX3_weighSong, Cond.instanceMethod yX3_weighSong, Cond.selects RX3 yX3_weighSong yX3_weighSong, Cond.code yX3_weighSong cX3_weighSong 6 none, Cond.methodLink RL 82 yX4_song, Cond.instanceMethod yX4_song, Cond.selects RX4 yX4_song yX4_song, Cond.code yX4_song cX4_song 10 (some .int), Cond.constantLong RX4 208 (4), Cond.constantLong RX4 210 (-1), Cond.fieldLink RX4 205 "JamSongsModel" "noteMany" "I", Cond.methodLink RX4 212 yX4_singsRow, Cond.instanceMethod yX4_singsRow, Cond.selects RX4 yX4_singsRow yX4_singsRow, Cond.code yX4_singsRow cX4_singsRow 5 (some .boolean), Cond.methodLink RL 83 yX3_toShut, Cond.instanceMethod yX3_toShut, Cond.selects RX3 yX3_toShut yX3_toShut, Cond.code yX3_toShut cX3_toShut 12 (some .int), Cond.constant RX3 221 (-1000000)]
def wsL_law_r25 : List Cond := [Cond.methodLink RX3 222 yX3_setsWithout, Cond.instanceMethod yX3_setsWithout, Cond.selects RX3 yX3_setsWithout yX3_setsWithout, Cond.code yX3_setsWithout cX3_setsWithout 5 (some .boolean), Cond.methodLink RL 87 yX4_toShut, Cond.instanceMethod yX4_toShut, Cond.selects RX4 yX4_toShut yX4_toShut, Cond.code yX4_toShut cX4_toShut 11 (some .int), Cond.methodLink RL 88 yX3_modes, Cond.instanceMethod yX3_modes, Cond.selects RX3 yX3_modes yX3_modes, Cond.code yX3_modes cX3_modes 12 (some .int), Cond.methodLink RL 92 yX4_modes, Cond.instanceMethod yX4_modes, Cond.selects RX4 yX4_modes yX4_modes, Cond.code yX4_modes cX4_modes 13 (some .int), Cond.constantLong RX4 215 (20), Cond.methodLink RL 93 yX3_coughs, Cond.instanceMethod yX3_coughs, Cond.selects RX3 yX3_coughs yX3_coughs, Cond.code yX3_coughs cX3_coughs 12 (some .int), Cond.methodLink RX3 226 yX3_weightOf, Cond.static yX3_weightOf, Cond.code yX3_weightOf cX3_weightOf 4 (some .int)]
def wsL_law_r26 : List Cond := [Cond.methodLink RX3 229 yX3_power, Cond.static yX3_power, Cond.code yX3_power cX3_power 4 (some .int), Cond.methodLink RX3 233 yX3_commonDivisor, Cond.static yX3_commonDivisor, Cond.code yX3_commonDivisor cX3_commonDivisor 6 (some .int), Cond.methodLink RX3 290 Lib.Math.max.name, Cond.methodLink RL 96 yX4_coughs, Cond.instanceMethod yX4_coughs, Cond.selects RX4 yX4_coughs yX4_coughs, Cond.code yX4_coughs cX4_coughs 14 (some .int), Cond.constantLong RX4 217 (10), Cond.methodLink RL 97 yX3_image, Cond.instanceMethod yX3_image, Cond.selects RX3 yX3_image yX3_image, Cond.code yX3_image cX3_image 2 (some .int), Cond.methodLink RL 100 yX4_image, Cond.instanceMethod yX4_image, Cond.selects RX4 yX4_image yX4_image, Cond.code yX4_image cX4_image 3 (some .int), Cond.methodLink RL 101 yX3_restore, Cond.instanceMethod yX3_restore, Cond.selects RX3 yX3_restore yX3_restore, Cond.code yX3_restore cX3_restore 2 (some .int)]
def wsL_law_r27 : List Cond := [Cond.methodLink RL 104 yX4_restore, Cond.instanceMethod yX4_restore, Cond.selects RX4 yX4_restore yX4_restore, Cond.code yX4_restore cX4_restore 3 (some .int), Cond.methodLink RL 105 yX3_kind, Cond.instanceMethod yX3_kind, Cond.selects RX3 yX3_kind yX3_kind, Cond.code yX3_kind cX3_kind 2 (some .int), Cond.fieldLink RX3 236 "JamSongs$Kitchen" "kind" "[I", Cond.methodLink RL 108 yX4_kind, Cond.instanceMethod yX4_kind, Cond.selects RX4 yX4_kind yX4_kind, Cond.code yX4_kind cX4_kind 2 (some .int), Cond.methodLink RL 109 yX3_as, Cond.instanceMethod yX3_as, Cond.selects RX3 yX3_as yX3_as, Cond.code yX3_as cX3_as 3 (some .int), Cond.methodLink RX3 239 yX3_isOf, Cond.static yX3_isOf, Cond.code yX3_isOf cX3_isOf 4 (some .boolean), Cond.fieldLink RX3 293 "JamSongs" "NEAREST" "[I", Cond.methodLink RL 112 yX4_as, Cond.instanceMethod yX4_as, Cond.selects RX4 yX4_as yX4_as]
def wsL_law_r28 : List Cond := [Cond.code yX4_as cX4_as 3 (some .int), Cond.constantLong RX4 219 (5), Cond.methodLink RX4 221 yX4_isKind, Cond.static yX4_isKind, Cond.code yX4_isKind cX4_isKind 2 (some .boolean), Cond.methodLink RL 113 yX3_ask, Cond.instanceMethod yX3_ask, Cond.selects RX3 yX3_ask yX3_ask, Cond.code yX3_ask cX3_ask 4 (some .int), Cond.methodLink RX3 242 yX3_sizeOfPlums, Cond.instanceMethod yX3_sizeOfPlums, Cond.selects RX3 yX3_sizeOfPlums yX3_sizeOfPlums, Cond.code yX3_sizeOfPlums cX3_sizeOfPlums 2 (some .int), Cond.methodLink RX3 296 yX3_leave, Cond.instanceMethod yX3_leave, Cond.selects RX3 yX3_leave yX3_leave, Cond.code yX3_leave cX3_leave 2 none, Cond.methodLink RX3 300 yX3_plumSize, Cond.instanceMethod yX3_plumSize, Cond.selects RX3 yX3_plumSize yX3_plumSize, Cond.code yX3_plumSize cX3_plumSize 3 (some .int), Cond.methodLink RX3 303 yX3_lentSize, Cond.instanceMethod yX3_lentSize, Cond.selects RX3 yX3_lentSize yX3_lentSize]
def wsL_law_r29 : List Cond := [Cond.code yX3_lentSize cX3_lentSize 2 (some .int), Cond.methodLink RX3 248 yX3_markOfPlums, Cond.instanceMethod yX3_markOfPlums, Cond.selects RX3 yX3_markOfPlums yX3_markOfPlums, Cond.code yX3_markOfPlums cX3_markOfPlums 2 (some .int), Cond.methodLink RX3 309 yX3_plumMark, Cond.instanceMethod yX3_plumMark, Cond.selects RX3 yX3_plumMark yX3_plumMark, Cond.code yX3_plumMark cX3_plumMark 2 (some .int), Cond.methodLink RX3 312 yX3_lentMark, Cond.instanceMethod yX3_lentMark, Cond.selects RX3 yX3_lentMark yX3_lentMark, Cond.code yX3_lentMark cX3_lentMark 2 (some .int), Cond.methodLink RX3 245 yX3_sizeOfMarrows, Cond.instanceMethod yX3_sizeOfMarrows, Cond.selects RX3 yX3_sizeOfMarrows yX3_sizeOfMarrows, Cond.code yX3_sizeOfMarrows cX3_sizeOfMarrows 2 (some .int), Cond.methodLink RX3 306 yX3_marrowSize, Cond.instanceMethod yX3_marrowSize, Cond.selects RX3 yX3_marrowSize yX3_marrowSize, Cond.code yX3_marrowSize cX3_marrowSize 2 (some .int), Cond.methodLink RX3 251 yX3_markOfMarrows, Cond.instanceMethod yX3_markOfMarrows, Cond.selects RX3 yX3_markOfMarrows yX3_markOfMarrows]
def wsL_law_r30 : List Cond := [Cond.code yX3_markOfMarrows cX3_markOfMarrows 3 (some .int), Cond.methodLink RL 116 yX4_ask, Cond.instanceMethod yX4_ask, Cond.selects RX4 yX4_ask yX4_ask, Cond.code yX4_ask cX4_ask 3 (some .int), Cond.fieldLink RX4 224 "JamSongsModel" "traced" "I", Cond.methodLink RX4 248 yX4_sizeOf, Cond.instanceMethod yX4_sizeOf, Cond.selects RX4 yX4_sizeOf yX4_sizeOf, Cond.code yX4_sizeOf cX4_sizeOf 3 (some .int), Cond.methodLink RX4 227 yX4_begin, Cond.instanceMethod yX4_begin, Cond.selects RX4 yX4_begin yX4_begin, Cond.code yX4_begin cX4_begin 2 none, Cond.methodLink RX4 245 yX4_plumSize, Cond.instanceMethod yX4_plumSize, Cond.selects RX4 yX4_plumSize yX4_plumSize, Cond.code yX4_plumSize cX4_plumSize 3 (some .int), Cond.methodLink RX4 230 yX4_lent, Cond.instanceMethod yX4_lent, Cond.selects RX4 yX4_lent yX4_lent, Cond.code yX4_lent cX4_lent 3 (some .int), Cond.methodLink RX4 242 yX4_markOf, Cond.instanceMethod yX4_markOf]
def wsL_law_r31 : List Cond := [Cond.selects RX4 yX4_markOf yX4_markOf, Cond.code yX4_markOf cX4_markOf 4 (some .int), Cond.methodLink RX4 236 yX4_plumMark, Cond.instanceMethod yX4_plumMark, Cond.selects RX4 yX4_plumMark yX4_plumMark, Cond.code yX4_plumMark cX4_plumMark 2 (some .int), Cond.methodLink RX4 239 yX4_sizeOfMarrow, Cond.instanceMethod yX4_sizeOfMarrow, Cond.selects RX4 yX4_sizeOfMarrow yX4_sizeOfMarrow, Cond.code yX4_sizeOfMarrow cX4_sizeOfMarrow 2 (some .int), Cond.methodLink RX4 233 yX4_marrowSize, Cond.instanceMethod yX4_marrowSize, Cond.selects RX4 yX4_marrowSize yX4_marrowSize, Cond.code yX4_marrowSize cX4_marrowSize 2 (some .int), Cond.methodLink RL 117 yX3_trace, Cond.instanceMethod yX3_trace, Cond.selects RX3 yX3_trace yX3_trace, Cond.code yX3_trace cX3_trace 2 (some .int), Cond.methodLink RL 120 yX4_trace, Cond.instanceMethod yX4_trace, Cond.selects RX4 yX4_trace yX4_trace, Cond.code yX4_trace cX4_trace 2 (some .int), Cond.methodLink RL 121 yX3_count, Cond.instanceMethod yX3_count]
def wsL_law_r32 : List Cond := [Cond.selects RX3 yX3_count yX3_count, Cond.code yX3_count cX3_count 2 (some .int), Cond.fieldLink RX3 257 "JamSongs$Kitchen" "bar" "I", Cond.fieldLink RX3 260 "JamSongs$Kitchen" "back" "I", Cond.methodLink RX3 254 yX3_rowsThere, Cond.instanceMethod yX3_rowsThere, Cond.selects RX3 yX3_rowsThere yX3_rowsThere, Cond.code yX3_rowsThere cX3_rowsThere 3 (some .int), Cond.methodLink RL 124 yX4_count, Cond.instanceMethod yX4_count, Cond.selects RX4 yX4_count yX4_count, Cond.code yX4_count cX4_count 4 (some .int), Cond.methodLink RL 125 yX3_status, Cond.instanceMethod yX3_status, Cond.selects RX3 yX3_status yX3_status, Cond.code yX3_status cX3_status 1 (some .int), Cond.methodLink RL 128 yX4_status, Cond.instanceMethod yX4_status, Cond.selects RX4 yX4_status yX4_status, Cond.code yX4_status cX4_status 1 (some .int)]
def wsL_law : List Cond := (wsL_law_r1 ++ (wsL_law_r2 ++ (wsL_law_r3 ++ (wsL_law_r4 ++ (wsL_law_r5 ++ (wsL_law_r6 ++ (wsL_law_r7 ++ (wsL_law_r8 ++ (wsL_law_r9 ++ (wsL_law_r10 ++ (wsL_law_r11 ++ (wsL_law_r12 ++ (wsL_law_r13 ++ (wsL_law_r14 ++ (wsL_law_r15 ++ (wsL_law_r16 ++ (wsL_law_r17 ++ (wsL_law_r18 ++ (wsL_law_r19 ++ (wsL_law_r20 ++ (wsL_law_r21 ++ (wsL_law_r22 ++ (wsL_law_r23 ++ (wsL_law_r24 ++ (wsL_law_r25 ++ (wsL_law_r26 ++ (wsL_law_r27 ++ (wsL_law_r28 ++ (wsL_law_r29 ++ (wsL_law_r30 ++ (wsL_law_r31 ++ wsL_law_r32))))))))))))))))))))))))))))))) ++ wsX30 ++ wsX40 ++ wsX20 ++ wsX00 ++ wsX10 ++ ([] : List Cond)
theorem jz_in {big : List Cond} : ∀ (ws : List Cond) (ps : List Nat), ws.length = ps.length → (ws.zip ps).all (fun q => decide (big[q.2]? = some q.1)) = true → ∀ w ∈ ws, w ∈ big
  | [], _, _, _, w, hw => by cases hw
  | _ :: _, [], hl, _, _, _ => by cases hl
  | u :: us, p :: ps, hl, h, w, hw => by
    rw [List.zip_cons_cons, List.all_cons, Bool.and_eq_true] at h
    rcases List.mem_cons.mp hw with rfl | hw
    · exact List.mem_of_getElem? (of_decide_eq_true h.1)
    · exact jz_in us ps (Nat.succ.inj hl) h.2 w hw
theorem jz_two {big : List Cond} (ws : List Cond) (pc ps : List Nat) (hp : ws.filter k2_isCode = pc.filterMap (fun i => big[i]?)) (hl : (ws.filter (fun w => !k2_isCode w)).length = ps.length) (h : ((ws.filter (fun w => !k2_isCode w)).zip ps).all (fun q => decide (big[q.2]? = some q.1)) = true) : ∀ w ∈ ws, w ∈ big := by
  intro w hw
  by_cases hc : k2_isCode w = true
  · have h1 : w ∈ ws.filter k2_isCode := List.mem_filter.mpr ⟨hw, hc⟩
    rw [hp] at h1
    obtain ⟨i, -, hi⟩ := List.mem_filterMap.mp h1
    exact List.mem_of_getElem? hi
  · exact jz_in _ ps hl h w (List.mem_filter.mpr ⟨hw, by simp [hc]⟩)
set_option maxRecDepth 100000 in
theorem wsL_law_in : ∀ w ∈ wsL_law, w ∈ lw_tbl := jz_two wsL_law [76, 79, 86, 119, 198, 623, 275, 278, 283, 288, 291, 295, 708, 711, 715, 721, 726, 299, 303, 307, 730, 733, 311, 737, 318, 741, 322, 745, 327, 331, 335, 341, 344, 348, 351, 355, 359, 363, 366, 370, 375, 751, 755, 759, 767, 771, 775, 779, 783, 788, 380, 793, 384, 389, 393, 397, 402, 406, 410, 413, 418, 421, 425, 428, 432, 797, 802, 806, 810, 814, 817, 821, 436, 825, 829, 833, 440, 444, 837, 448, 841, 453, 845, 457, 461, 465, 470, 849, 854, 858, 862, 866, 870, 476, 480, 874, 879, 484, 487, 883, 886, 494, 498, 502, 506, 510, 890, 896, 514, 519, 900, 523, 904, 527, 530, 533, 536, 909, 541, 914, 545, 918, 549, 922, 553, 556, 926, 930, 562, 566, 570, 574, 578, 582, 586, 590, 594, 598, 602, 934, 938, 942, 946, 950, 954, 958, 962, 966, 606, 970, 610, 614, 974, 618, 978] [72, 73, 63, 619, 620, 67, 74, 75, 77, 78, 80, 217, 82, 83, 64, 218, 115, 116, 65, 219, 220, 221, 193, 114, 222, 223, 224, 225, 226, 227, 228, 229, 230, 231, 232, 233, 234, 195, 66, 85, 87, 88, 90, 92, 94, 95, 96, 97, 118, 120, 121, 123, 126, 129, 132, 135, 138, 141, 144, 147, 150, 152, 154, 157, 159, 197, 199, 200, 202, 204, 206, 621, 622, 624, 625, 626, 627, 630, 631, 632, 640, 641, 642, 644, 645, 704, 647, 648, 649, 272, 273, 274, 279, 276, 277, 280, 282, 0, 284, 285, 286, 287, 289, 290, 68, 292, 294, 1, 705, 706, 707, 716, 717, 709, 710, 712, 713, 714, 718, 720, 30, 628, 722, 723, 725, 31, 296, 297, 298, 201, 207, 300, 301, 302, 304, 305, 306, 727, 728, 729, 731, 732, 308, 309, 310, 203, 312, 314, 313, 69, 734, 735, 736, 315, 316, 317, 205, 738, 739, 740, 319, 320, 321, 91, 323, 89, 742, 743, 744, 746, 633, 747, 324, 325, 326, 98, 371, 93, 140, 328, 329, 330, 124, 332, 333, 334, 337, 336, 338, 340, 2, 342, 343, 345, 347, 3, 349, 350, 70, 352, 354, 4, 356, 358, 5, 360, 362, 6, 130, 133, 136, 127, 364, 365, 367, 369, 7, 142, 145, 148, 155, 139, 372, 373, 374, 376, 748, 749, 750, 639, 634, 789, 638, 629, 643, 752, 754, 32, 635, 636, 756, 758, 33, 637, 760, 761, 762, 763, 764, 766, 34, 768, 770, 35, 772, 774, 36, 776, 778, 37, 780, 782, 38, 784, 785, 787, 39, 377, 378, 379, 790, 791, 792, 381, 382, 383, 122, 385, 128, 386, 387, 388, 390, 392, 8, 398, 394, 395, 396, 399, 400, 401, 403, 404, 405, 407, 409, 9, 411, 412, 71, 414, 415, 417, 10, 419, 420, 422, 424, 11, 426, 427, 429, 430, 431, 794, 795, 796, 798, 799, 801, 40, 803, 805, 41, 807, 809, 42, 811, 813, 43, 815, 816, 818, 820, 44, 433, 434, 435, 156, 822, 823, 824, 826, 828, 45, 830, 832, 46, 437, 438, 439, 441, 442, 443, 834, 835, 836, 445, 446, 447, 146, 149, 158, 160, 449, 838, 839, 840, 450, 451, 452, 131, 134, 137, 153, 842, 843, 844, 454, 455, 456, 458, 460, 12, 462, 464, 13, 466, 467, 468, 469, 471, 472, 846, 847, 848, 850, 851, 853, 47, 855, 857, 48, 859, 861, 49, 863, 865, 50, 867, 869, 51, 473, 474, 475, 477, 479, 14, 871, 872, 873, 875, 876, 878, 52, 481, 482, 483, 485, 486, 488, 489, 490, 880, 881, 882, 884, 885, 491, 492, 493, 495, 497, 15, 499, 501, 16, 503, 504, 505, 507, 509, 17, 887, 888, 889, 891, 892, 646, 893, 895, 53, 511, 512, 513, 515, 516, 518, 18, 897, 898, 899, 520, 521, 522, 901, 902, 903, 905, 524, 525, 526, 528, 529, 531, 532, 534, 535, 537, 906, 907, 908, 910, 538, 539, 540, 911, 912, 913, 542, 543, 544, 915, 916, 917, 546, 547, 548, 143, 919, 920, 921, 550, 551, 552, 554, 555, 557, 923, 924, 925, 927, 928, 929, 559, 560, 561, 563, 565, 19, 567, 569, 20, 571, 573, 21, 575, 577, 22, 579, 581, 23, 583, 585, 24, 587, 589, 25, 591, 593, 26, 595, 597, 27, 599, 601, 28, 931, 932, 933, 650, 935, 937, 54, 939, 941, 55, 943, 945, 56, 947, 949, 57, 951, 953, 58, 955, 957, 59, 959, 961, 60, 963, 965, 61, 603, 604, 605, 967, 968, 969, 607, 608, 609, 151, 125, 611, 613, 29, 971, 972, 973, 615, 616, 617, 975, 976, 977, 235, 237, 239, 241, 243, 245, 247, 249, 251, 253, 255, 257, 259, 261, 263, 265, 267, 269, 651, 653, 655, 657, 659, 661, 663, 665, 667, 669, 671, 673, 675, 677, 679, 681, 683, 685, 687, 689, 691, 693, 695, 697, 699, 701, 99, 101, 103, 105, 107, 109, 111, 161, 163, 165, 167, 169, 171, 173, 175, 177, 179, 181, 183, 185, 187, 189, 208, 210, 212, 214] rfl (by decide +kernel) (by decide +kernel)
theorem inlX0 : ∀ w ∈ wsX00, w ∈ wsL_law := fun _ h => List.mem_append_left _ (List.mem_append_left _ (List.mem_append_right _ h))
theorem inX0 : ∀ w ∈ wsX00, w ∈ lw_tbl := fun w h => wsL_law_in w (inlX0 w h)
theorem inlX1 : ∀ w ∈ wsX10, w ∈ wsL_law := fun _ h => List.mem_append_left _ (List.mem_append_right _ h)
theorem inX1 : ∀ w ∈ wsX10, w ∈ lw_tbl := fun w h => wsL_law_in w (inlX1 w h)
theorem inlX2 : ∀ w ∈ wsX20, w ∈ wsL_law := fun _ h => List.mem_append_left _ (List.mem_append_left _ (List.mem_append_left _ (List.mem_append_right _ h)))
theorem inX2 : ∀ w ∈ wsX20, w ∈ lw_tbl := fun w h => wsL_law_in w (inlX2 w h)
theorem inlX3 : ∀ w ∈ wsX30, w ∈ wsL_law := fun _ h => List.mem_append_left _ (List.mem_append_left _ (List.mem_append_left _ (List.mem_append_left _ (List.mem_append_left _ (List.mem_append_right _ h)))))
theorem inX3 : ∀ w ∈ wsX30, w ∈ lw_tbl := fun w h => wsL_law_in w (inlX3 w h)
theorem inlX4 : ∀ w ∈ wsX40, w ∈ wsL_law := fun _ h => List.mem_append_left _ (List.mem_append_left _ (List.mem_append_left _ (List.mem_append_left _ (List.mem_append_right _ h))))
theorem inX4 : ∀ w ∈ wsX40, w ∈ lw_tbl := fun w h => wsL_law_in w (inlX4 w h)
