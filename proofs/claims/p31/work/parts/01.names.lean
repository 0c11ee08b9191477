-- ===== PART A: goes FIRST, ahead of the names: the tables' words, and 'selects' of the private methods out of them =====
/-- a private method of a class that the tables say can be made, by its rows of tables_1 -/
def lw_okq (q : MethodName × Nat) : Prop := (q.1.cls ≠ "java/lang/invoke/MethodHandle" ∧ q.1.cls ≠ "java/lang/invoke/VarHandle") ∧ Cond.instantiable q.1.cls q.2 ∈ tables_1 ∧ Cond.privateMethod q.1 ∈ tables_1 ∧ Cond.instanceMethod q.1 ∈ tables_1
theorem lw_p0 : lw_okq (⟨"StageSieve$Sieve", "partOne", "(JI)V"⟩, 3) := ⟨⟨by decide +kernel, by decide +kernel⟩, List.mem_of_getElem? (i := 192) (by decide +kernel), List.mem_of_getElem? (i := 467) (by decide +kernel), List.mem_of_getElem? (i := 468) (by decide +kernel)⟩
theorem lw_p1 : lw_okq (⟨"StageSieve$Chooser", "tryRow", "(I)Z"⟩, 8) := ⟨⟨by decide +kernel, by decide +kernel⟩, List.mem_of_getElem? (i := 209) (by decide +kernel), List.mem_of_getElem? (i := 482) (by decide +kernel), List.mem_of_getElem? (i := 483) (by decide +kernel)⟩
theorem lw_p2 : lw_okq (⟨"StageSieve$Chooser", "weigh", "()V"⟩, 8) := ⟨⟨by decide +kernel, by decide +kernel⟩, List.mem_of_getElem? (i := 209) (by decide +kernel), List.mem_of_getElem? (i := 491) (by decide +kernel), List.mem_of_getElem? (i := 492) (by decide +kernel)⟩
theorem lw_p3 : lw_okq (⟨"StageSieve$Told", "doesTenths", "(LStageSieve$House;I)I"⟩, 5) := ⟨⟨by decide +kernel, by decide +kernel⟩, List.mem_of_getElem? (i := 139) (by decide +kernel), List.mem_of_getElem? (i := 604) (by decide +kernel), List.mem_of_getElem? (i := 605) (by decide +kernel)⟩
theorem lw_p4 : lw_okq (⟨"StageSieve$Night", "ask", "(LStageSieve$Row;IJ)V"⟩, 5) := ⟨⟨by decide +kernel, by decide +kernel⟩, List.mem_of_getElem? (i := 273) (by decide +kernel), List.mem_of_getElem? (i := 627) (by decide +kernel), List.mem_of_getElem? (i := 628) (by decide +kernel)⟩
theorem lw_p5 : lw_okq (⟨"StageSieve$Night", "playedAt", "(I)Z"⟩, 5) := ⟨⟨by decide +kernel, by decide +kernel⟩, List.mem_of_getElem? (i := 273) (by decide +kernel), List.mem_of_getElem? (i := 636) (by decide +kernel), List.mem_of_getElem? (i := 637) (by decide +kernel)⟩
theorem lw_p6 : lw_okq (⟨"StageSieve$Night", "keepOrSend", "(IZZ)V"⟩, 5) := ⟨⟨by decide +kernel, by decide +kernel⟩, List.mem_of_getElem? (i := 273) (by decide +kernel), List.mem_of_getElem? (i := 652) (by decide +kernel), List.mem_of_getElem? (i := 653) (by decide +kernel)⟩
theorem lw_p7 : lw_okq (⟨"StageSieve$Reader", "readNumbers", "(LStageSieve$Text;I)I"⟩, 4) := ⟨⟨by decide +kernel, by decide +kernel⟩, List.mem_of_getElem? (i := 173) (by decide +kernel), List.mem_of_getElem? (i := 709) (by decide +kernel), List.mem_of_getElem? (i := 710) (by decide +kernel)⟩
theorem lw_p8 : lw_okq (⟨"StageSieve$Reader", "take", "(I)Z"⟩, 4) := ⟨⟨by decide +kernel, by decide +kernel⟩, List.mem_of_getElem? (i := 173) (by decide +kernel), List.mem_of_getElem? (i := 718) (by decide +kernel), List.mem_of_getElem? (i := 719) (by decide +kernel)⟩
def lw_privs_1 : List (MethodName × Nat) := [(⟨"StageSieve$Sieve", "partOne", "(JI)V"⟩, 3), (⟨"StageSieve$Chooser", "tryRow", "(I)Z"⟩, 8), (⟨"StageSieve$Chooser", "weigh", "()V"⟩, 8), (⟨"StageSieve$Told", "doesTenths", "(LStageSieve$House;I)I"⟩, 5), (⟨"StageSieve$Night", "ask", "(LStageSieve$Row;IJ)V"⟩, 5), (⟨"StageSieve$Night", "playedAt", "(I)Z"⟩, 5), (⟨"StageSieve$Night", "keepOrSend", "(IZZ)V"⟩, 5), (⟨"StageSieve$Reader", "readNumbers", "(LStageSieve$Text;I)I"⟩, 4), (⟨"StageSieve$Reader", "take", "(I)Z"⟩, 4)]
theorem lw_r1 : ∀ q ∈ lw_privs_1, lw_okq q := List.forall_mem_cons.mpr ⟨lw_p0, List.forall_mem_cons.mpr ⟨lw_p1, List.forall_mem_cons.mpr ⟨lw_p2, List.forall_mem_cons.mpr ⟨lw_p3, List.forall_mem_cons.mpr ⟨lw_p4, List.forall_mem_cons.mpr ⟨lw_p5, List.forall_mem_cons.mpr ⟨lw_p6, List.forall_mem_cons.mpr ⟨lw_p7, List.forall_mem_cons.mpr ⟨lw_p8, fun _ h => absurd h List.not_mem_nil⟩⟩⟩⟩⟩⟩⟩⟩⟩
def lw_privs : List (MethodName × Nat) := lw_privs_1
def lw_tbl : List Cond := k2_sels lw_privs ++ tables_1
theorem lw_privs_ok : ∀ q ∈ lw_privs, lw_okq q := lw_r1
-- ===== end of PART A; then your names; then what follows =====
def RX0 : String := "StageSieve$Chooser"
def TX0 : u_T := fun k => match k with
  | 0 => ("StageSieve$Chooser", "house", "LStageSieve$House;", true)
  | 1 => ("StageSieve$Chooser", "sieve", "LStageSieve$Sieve;", true)
  | 2 => ("StageSieve$Chooser", "tried", "LStageSieve$Row;", true)
  | 3 => ("StageSieve$Chooser", "found", "LStageSieve$Row;", true)
  | 4 => ("StageSieve$Chooser", "length", "I", false)
  | 5 => ("StageSieve$Chooser", "minutes", "I", false)
  | 6 => ("StageSieve$Chooser", "wanted", "I", false)
  | _ => ("StageSieve$Chooser", "chance", "I", false)
def tyX0 : Nat → FieldType := fun k => match k with
  | 0 => .object "StageSieve$House"
  | 1 => .object "StageSieve$Sieve"
  | 2 => .object "StageSieve$Row"
  | 3 => .object "StageSieve$Row"
  | 4 => .int
  | 5 => .int
  | 6 => .int
  | _ => .int
theorem nmX0 : ∀ a, a < 8 → ∀ b, b < 8 → a ≠ b → (TX0 a).2.1 ≠ (TX0 b).2.1 := by decide +kernel
theorem tyX0_ok : ∀ k, k < 8 → parseFieldDescriptor (TX0 k).2.2.1 = some (tyX0 k) := by decide +kernel
abbrev cX0_init : ByteArray := prog_2_method_1_code
def yX0_init : MethodName := ⟨RX0, "<init>", "(LStageSieve$House;)V"⟩
abbrev cX0_renew : ByteArray := prog_2_method_2_code
def yX0_renew : MethodName := ⟨RX0, "renew", "()V"⟩
abbrev cX0_number : ByteArray := prog_2_method_3_code
def yX0_number : MethodName := ⟨RX0, "number", "(I)I"⟩
abbrev cX0_choose : ByteArray := prog_2_method_4_code
def yX0_choose : MethodName := ⟨RX0, "choose", "(III)V"⟩
abbrev cX0_tryRow : ByteArray := prog_2_method_5_code
def yX0_tryRow : MethodName := ⟨RX0, "tryRow", "(I)Z"⟩
abbrev cX0_weigh : ByteArray := prog_2_method_6_code
def yX0_weigh : MethodName := ⟨RX0, "weigh", "()V"⟩
def RX1 : String := "StageSieve$Course"
def TX1 : u_T := fun k => match k with
  | 0 => ("StageSieve$Course", "row", "LStageSieve$Row;", true)
  | _ => ("StageSieve$Course", "told", "LStageSieve$Told;", true)
def tyX1 : Nat → FieldType := fun k => match k with
  | 0 => .object "StageSieve$Row"
  | _ => .object "StageSieve$Told"
theorem nmX1 : ∀ a, a < 2 → ∀ b, b < 2 → a ≠ b → (TX1 a).2.1 ≠ (TX1 b).2.1 := by decide +kernel
theorem tyX1_ok : ∀ k, k < 2 → parseFieldDescriptor (TX1 k).2.2.1 = some (tyX1 k) := by decide +kernel
abbrev cX1_init : ByteArray := prog_3_method_1_code
def yX1_init : MethodName := ⟨RX1, "<init>", "()V"⟩
def RX2 : String := "StageSieve$Feelings"
def TX2 : u_T := fun k => match k with
  | 0 => ("StageSieve$Feelings", "house", "LStageSieve$House;", true)
  | _ => ("StageSieve$Feelings", "fraction", "LStageSieve$Fraction;", true)
def tyX2 : Nat → FieldType := fun k => match k with
  | 0 => .object "StageSieve$House"
  | _ => .object "StageSieve$Fraction"
theorem nmX2 : ∀ a, a < 2 → ∀ b, b < 2 → a ≠ b → (TX2 a).2.1 ≠ (TX2 b).2.1 := by decide +kernel
theorem tyX2_ok : ∀ k, k < 2 → parseFieldDescriptor (TX2 k).2.2.1 = some (tyX2 k) := by decide +kernel
abbrev cX2_init : ByteArray := prog_4_method_1_code
def yX2_init : MethodName := ⟨RX2, "<init>", "(LStageSieve$House;LStageSieve$Fraction;)V"⟩
abbrev cX2_gain : ByteArray := prog_4_method_3_code
def yX2_gain : MethodName := ⟨RX2, "gain", "(II)I"⟩
abbrev cX2_added : ByteArray := prog_4_method_4_code
def yX2_added : MethodName := ⟨RX2, "added", "(I)I"⟩
abbrev cX2_mostHarmed : ByteArray := prog_4_method_5_code
def yX2_mostHarmed : MethodName := ⟨RX2, "mostHarmed", "(I)I"⟩
abbrev cX2_eased : ByteArray := prog_4_method_6_code
def yX2_eased : MethodName := ⟨RX2, "eased", "(II)I"⟩
abbrev cX2_weighPeople : ByteArray := prog_4_method_7_code
def yX2_weighPeople : MethodName := ⟨RX2, "weighPeople", "(I)V"⟩
abbrev cX2_mostTelling : ByteArray := prog_4_method_8_code
def yX2_mostTelling : MethodName := ⟨RX2, "mostTelling", "()I"⟩
def RX3 : String := "StageSieve$Fraction"
def TX3 : u_T := fun k => match k with
  | 0 => ("StageSieve$Fraction", "above", "J", false)
  | _ => ("StageSieve$Fraction", "below", "J", false)
def tyX3 : Nat → FieldType := fun k => match k with
  | 0 => .long
  | _ => .long
theorem nmX3 : ∀ a, a < 2 → ∀ b, b < 2 → a ≠ b → (TX3 a).2.1 ≠ (TX3 b).2.1 := by decide +kernel
theorem tyX3_ok : ∀ k, k < 2 → parseFieldDescriptor (TX3 k).2.2.1 = some (tyX3 k) := by decide +kernel
abbrev cX3_init : ByteArray := prog_5_method_1_code
def yX3_init : MethodName := ⟨RX3, "<init>", "()V"⟩
abbrev cX3_set : ByteArray := prog_5_method_2_code
def yX3_set : MethodName := ⟨RX3, "set", "(JJ)V"⟩
abbrev cX3_part : ByteArray := prog_5_method_3_code
def yX3_part : MethodName := ⟨RX3, "part", "(I)J"⟩
abbrev cX3_commonDivisor : ByteArray := prog_5_method_4_code
def yX3_commonDivisor : MethodName := ⟨RX3, "commonDivisor", "(JJ)J"⟩
def RX4 : String := "StageSieve$House"
def TX4 : u_T := fun k => match k with
  | 0 => ("StageSieve$House", "sizes", "[I", true)
  | 1 => ("StageSieve$House", "bents", "[I", true)
  | 2 => ("StageSieve$House", "wishes", "[I", true)
  | 3 => ("StageSieve$House", "fears", "[I", true)
  | 4 => ("StageSieve$House", "hards", "[I", true)
  | 5 => ("StageSieve$House", "helps", "[I", true)
  | 6 => ("StageSieve$House", "poses", "[I", true)
  | 7 => ("StageSieve$House", "minutes", "[I", true)
  | 8 => ("StageSieve$House", "sorts", "I", false)
  | 9 => ("StageSieve$House", "asks", "I", false)
  | 10 => ("StageSieve$House", "all", "I", false)
  | 11 => ("StageSieve$House", "man", "I", false)
  | 12 => ("StageSieve$House", "pain", "I", false)
  | _ => ("StageSieve$House", "sugar", "I", false)
def tyX4 : Nat → FieldType := fun k => match k with
  | 0 => .array .int
  | 1 => .array .int
  | 2 => .array .int
  | 3 => .array .int
  | 4 => .array .int
  | 5 => .array .int
  | 6 => .array .int
  | 7 => .array .int
  | 8 => .int
  | 9 => .int
  | 10 => .int
  | 11 => .int
  | 12 => .int
  | _ => .int
theorem nmX4 : ∀ a, a < 14 → ∀ b, b < 14 → a ≠ b → (TX4 a).2.1 ≠ (TX4 b).2.1 := by decide +kernel
theorem tyX4_ok : ∀ k, k < 14 → parseFieldDescriptor (TX4 k).2.2.1 = some (tyX4 k) := by decide +kernel
abbrev cX4_init : ByteArray := prog_6_method_1_code
def yX4_init : MethodName := ⟨RX4, "<init>", "()V"⟩
abbrev cX4_clear : ByteArray := prog_6_method_2_code
def yX4_clear : MethodName := ⟨RX4, "clear", "()V"⟩
abbrev cX4_copy : ByteArray := prog_6_method_3_code
def yX4_copy : MethodName := ⟨RX4, "copy", "(LStageSieve$House;)V"⟩
abbrev cX4_addSort : ByteArray := prog_6_method_4_code
def yX4_addSort : MethodName := ⟨RX4, "addSort", "(IIII)Z"⟩
abbrev cX4_addAsk : ByteArray := prog_6_method_5_code
def yX4_addAsk : MethodName := ⟨RX4, "addAsk", "(IIII)Z"⟩
abbrev cX4_setMan : ByteArray := prog_6_method_6_code
def yX4_setMan : MethodName := ⟨RX4, "setMan", "(I)Z"⟩
abbrev cX4_setPain : ByteArray := prog_6_method_7_code
def yX4_setPain : MethodName := ⟨RX4, "setPain", "(II)Z"⟩
abbrev cX4_hasSort : ByteArray := prog_6_method_8_code
def yX4_hasSort : MethodName := ⟨RX4, "hasSort", "(I)Z"⟩
abbrev cX4_hasAsk : ByteArray := prog_6_method_9_code
def yX4_hasAsk : MethodName := ⟨RX4, "hasAsk", "(I)Z"⟩
abbrev cX4_size : ByteArray := prog_6_method_10_code
def yX4_size : MethodName := ⟨RX4, "size", "(I)I"⟩
abbrev cX4_bentOf : ByteArray := prog_6_method_11_code
def yX4_bentOf : MethodName := ⟨RX4, "bentOf", "(I)I"⟩
abbrev cX4_length : ByteArray := prog_6_method_12_code
def yX4_length : MethodName := ⟨RX4, "length", "(I)I"⟩
abbrev cX4_meanBent : ByteArray := prog_6_method_13_code
def yX4_meanBent : MethodName := ⟨RX4, "meanBent", "()I"⟩
abbrev cX4_easedBySugar : ByteArray := prog_6_method_14_code
def yX4_easedBySugar : MethodName := ⟨RX4, "easedBySugar", "()I"⟩
abbrev cX4_feeling : ByteArray := prog_6_method_15_code
def yX4_feeling : MethodName := ⟨RX4, "feeling", "(III)I"⟩
abbrev cX4_playing : ByteArray := prog_6_method_16_code
def yX4_playing : MethodName := ⟨RX4, "playing", "(III)I"⟩
abbrev cX4_doing : ByteArray := prog_6_method_17_code
def yX4_doing : MethodName := ⟨RX4, "doing", "(III)I"⟩
abbrev cX4_doing_ : ByteArray := prog_6_method_18_code
def yX4_doing_ : MethodName := ⟨RX4, "doing", "(II)I"⟩
abbrev cX4_tenths : ByteArray := prog_6_method_19_code
def yX4_tenths : MethodName := ⟨RX4, "tenths", "(I)I"⟩
def RX5 : String := "StageSieve$Night"
def TX5 : u_T := fun k => match k with
  | 0 => ("StageSieve$Night", "house", "LStageSieve$House;", true)
  | 1 => ("StageSieve$Night", "there", "[Z", true)
  | 2 => ("StageSieve$Night", "played", "[Z", true)
  | 3 => ("StageSieve$Night", "present", "I", false)
  | _ => ("StageSieve$Night", "stepsToSix", "I", false)
def tyX5 : Nat → FieldType := fun k => match k with
  | 0 => .object "StageSieve$House"
  | 1 => .array .boolean
  | 2 => .array .boolean
  | 3 => .int
  | _ => .int
theorem nmX5 : ∀ a, a < 5 → ∀ b, b < 5 → a ≠ b → (TX5 a).2.1 ≠ (TX5 b).2.1 := by decide +kernel
theorem tyX5_ok : ∀ k, k < 5 → parseFieldDescriptor (TX5 k).2.2.1 = some (tyX5 k) := by decide +kernel
abbrev cX5_init : ByteArray := prog_7_method_1_code
def yX5_init : MethodName := ⟨RX5, "<init>", "(LStageSieve$House;)V"⟩
abbrev cX5_play : ByteArray := prog_7_method_2_code
def yX5_play : MethodName := ⟨RX5, "play", "(LStageSieve$Row;I)V"⟩
abbrev cX5_ask : ByteArray := prog_7_method_3_code
def yX5_ask : MethodName := ⟨RX5, "ask", "(LStageSieve$Row;IJ)V"⟩
abbrev cX5_draw : ByteArray := prog_7_method_4_code
def yX5_draw : MethodName := ⟨RX5, "draw", "(J)I"⟩
abbrev cX5_keepOrSend : ByteArray := prog_7_method_5_code
def yX5_keepOrSend : MethodName := ⟨RX5, "keepOrSend", "(IZZ)V"⟩
abbrev cX5_playedAt : ByteArray := prog_7_method_6_code
def yX5_playedAt : MethodName := ⟨RX5, "playedAt", "(I)Z"⟩
abbrev cX5_players : ByteArray := prog_7_method_7_code
def yX5_players : MethodName := ⟨RX5, "players", "()I"⟩
abbrev cX5_person : ByteArray := prog_7_method_8_code
def yX5_person : MethodName := ⟨RX5, "person", "(I)I"⟩
def RX6 : String := "StageSieve$Reader"
def TX6 : u_T := fun k => match k with
  | 0 => ("StageSieve$Reader", "draft", "LStageSieve$House;", true)
  | 1 => ("StageSieve$Reader", "row", "LStageSieve$Row;", true)
  | 2 => ("StageSieve$Reader", "numbers", "[I", true)
  | _ => ("StageSieve$Reader", "told", "I", false)
def tyX6 : Nat → FieldType := fun k => match k with
  | 0 => .object "StageSieve$House"
  | 1 => .object "StageSieve$Row"
  | 2 => .array .int
  | _ => .int
theorem nmX6 : ∀ a, a < 4 → ∀ b, b < 4 → a ≠ b → (TX6 a).2.1 ≠ (TX6 b).2.1 := by decide +kernel
theorem tyX6_ok : ∀ k, k < 4 → parseFieldDescriptor (TX6 k).2.2.1 = some (tyX6 k) := by decide +kernel
abbrev cX6_init : ByteArray := prog_8_method_1_code
def yX6_init : MethodName := ⟨RX6, "<init>", "(LStageSieve$House;LStageSieve$Row;)V"⟩
abbrev cX6_read : ByteArray := prog_8_method_2_code
def yX6_read : MethodName := ⟨RX6, "read", "(LStageSieve$Text;)I"⟩
abbrev cX6_readNumbers : ByteArray := prog_8_method_3_code
def yX6_readNumbers : MethodName := ⟨RX6, "readNumbers", "(LStageSieve$Text;I)I"⟩
abbrev cX6_take : ByteArray := prog_8_method_4_code
def yX6_take : MethodName := ⟨RX6, "take", "(I)Z"⟩
def RX7 : String := "StageSieve$Row"
def TX7 : u_T := fun k => match k with
  | 0 => ("StageSieve$Row", "asks", "[I", true)
  | 1 => ("StageSieve$Row", "keeps", "[I", true)
  | _ => ("StageSieve$Row", "size", "I", false)
def tyX7 : Nat → FieldType := fun k => match k with
  | 0 => .array .int
  | 1 => .array .int
  | _ => .int
theorem nmX7 : ∀ a, a < 3 → ∀ b, b < 3 → a ≠ b → (TX7 a).2.1 ≠ (TX7 b).2.1 := by decide +kernel
theorem tyX7_ok : ∀ k, k < 3 → parseFieldDescriptor (TX7 k).2.2.1 = some (tyX7 k) := by decide +kernel
abbrev cX7_init : ByteArray := prog_9_method_1_code
def yX7_init : MethodName := ⟨RX7, "<init>", "()V"⟩
abbrev cX7_add : ByteArray := prog_9_method_2_code
def yX7_add : MethodName := ⟨RX7, "add", "(II)Z"⟩
abbrev cX7_copy : ByteArray := prog_9_method_3_code
def yX7_copy : MethodName := ⟨RX7, "copy", "(LStageSieve$Row;)V"⟩
abbrev cX7_ask : ByteArray := prog_9_method_4_code
def yX7_ask : MethodName := ⟨RX7, "ask", "(I)I"⟩
abbrev cX7_keepsDoers : ByteArray := prog_9_method_5_code
def yX7_keepsDoers : MethodName := ⟨RX7, "keepsDoers", "(I)Z"⟩
def RX8 : String := "StageSieve$Sieve"
def TX8 : u_T := fun k => match k with
  | 0 => ("StageSieve$Sieve", "house", "LStageSieve$House;", true)
  | 1 => ("StageSieve$Sieve", "remains", "[J", true)
  | _ => ("StageSieve$Sieve", "ways", "[J", true)
def tyX8 : Nat → FieldType := fun k => match k with
  | 0 => .object "StageSieve$House"
  | 1 => .array .long
  | _ => .array .long
theorem nmX8 : ∀ a, a < 3 → ∀ b, b < 3 → a ≠ b → (TX8 a).2.1 ≠ (TX8 b).2.1 := by decide +kernel
theorem tyX8_ok : ∀ k, k < 3 → parseFieldDescriptor (TX8 k).2.2.1 = some (tyX8 k) := by decide +kernel
abbrev cX8_init : ByteArray := prog_10_method_1_code
def yX8_init : MethodName := ⟨RX8, "<init>", "(LStageSieve$House;)V"⟩
abbrev cX8_pass : ByteArray := prog_10_method_2_code
def yX8_pass : MethodName := ⟨RX8, "pass", "(LStageSieve$Row;)V"⟩
abbrev cX8_remaining : ByteArray := prog_10_method_3_code
def yX8_remaining : MethodName := ⟨RX8, "remaining", "(I)J"⟩
abbrev cX8_together : ByteArray := prog_10_method_4_code
def yX8_together : MethodName := ⟨RX8, "together", "()J"⟩
abbrev cX8_meanBent : ByteArray := prog_10_method_5_code
def yX8_meanBent : MethodName := ⟨RX8, "meanBent", "()I"⟩
abbrev cX8_chance : ByteArray := prog_10_method_6_code
def yX8_chance : MethodName := ⟨RX8, "chance", "(I)I"⟩
abbrev cX8_partOne : ByteArray := prog_10_method_7_code
def yX8_partOne : MethodName := ⟨RX8, "partOne", "(JI)V"⟩
def RX9 : String := "StageSieve$Text"
def TX9 : u_T := fun k => match k with
  | 0 => ("StageSieve$Text", "bytes", "[B", true)
  | _ => ("StageSieve$Text", "size", "I", false)
def tyX9 : Nat → FieldType := fun k => match k with
  | 0 => .array .byte
  | _ => .int
theorem nmX9 : ∀ a, a < 2 → ∀ b, b < 2 → a ≠ b → (TX9 a).2.1 ≠ (TX9 b).2.1 := by decide +kernel
theorem tyX9_ok : ∀ k, k < 2 → parseFieldDescriptor (TX9 k).2.2.1 = some (tyX9 k) := by decide +kernel
abbrev cX9_init : ByteArray := prog_11_method_1_code
def yX9_init : MethodName := ⟨RX9, "<init>", "()V"⟩
abbrev cX9_add : ByteArray := prog_11_method_2_code
def yX9_add : MethodName := ⟨RX9, "add", "(B)V"⟩
abbrev cX9_byteAt : ByteArray := prog_11_method_3_code
def yX9_byteAt : MethodName := ⟨RX9, "byteAt", "(I)I"⟩
def RX10 : String := "StageSieve$Told"
def TX10 : u_T := fun k => match k with
  | 0 => ("StageSieve$Told", "sorts", "[I", true)
  | 1 => ("StageSieve$Told", "asks", "[I", true)
  | 2 => ("StageSieve$Told", "sizes", "[I", true)
  | 3 => ("StageSieve$Told", "doers", "[I", true)
  | _ => ("StageSieve$Told", "size", "I", false)
def tyX10 : Nat → FieldType := fun k => match k with
  | 0 => .array .int
  | 1 => .array .int
  | 2 => .array .int
  | 3 => .array .int
  | _ => .int
theorem nmX10 : ∀ a, a < 5 → ∀ b, b < 5 → a ≠ b → (TX10 a).2.1 ≠ (TX10 b).2.1 := by decide +kernel
theorem tyX10_ok : ∀ k, k < 5 → parseFieldDescriptor (TX10 k).2.2.1 = some (tyX10 k) := by decide +kernel
abbrev cX10_init : ByteArray := prog_12_method_1_code
def yX10_init : MethodName := ⟨RX10, "<init>", "()V"⟩
abbrev cX10_add : ByteArray := prog_12_method_2_code
def yX10_add : MethodName := ⟨RX10, "add", "(IIII)Z"⟩
abbrev cX10_withoutHim : ByteArray := prog_12_method_4_code
def yX10_withoutHim : MethodName := ⟨RX10, "withoutHim", "(LStageSieve$House;)J"⟩
abbrev cX10_withHim : ByteArray := prog_12_method_5_code
def yX10_withHim : MethodName := ⟨RX10, "withHim", "(LStageSieve$House;)J"⟩
abbrev cX10_doesTenths : ByteArray := prog_12_method_6_code
def yX10_doesTenths : MethodName := ⟨RX10, "doesTenths", "(LStageSieve$House;I)I"⟩
abbrev cX10_likely : ByteArray := prog_12_method_7_code
def yX10_likely : MethodName := ⟨RX10, "likely", "(III)J"⟩
def RX11 : String := "StageSieve"
def TX11 : u_T := fun k => match k with
  | 0 => ("StageSieve", "text", "LStageSieve$Text;", true)
  | 1 => ("StageSieve", "house", "LStageSieve$House;", true)
  | 2 => ("StageSieve", "course", "LStageSieve$Course;", true)
  | 3 => ("StageSieve", "draft", "LStageSieve$House;", true)
  | 4 => ("StageSieve", "draftRow", "LStageSieve$Row;", true)
  | 5 => ("StageSieve", "reader", "LStageSieve$Reader;", true)
  | 6 => ("StageSieve", "firstKept", "LStageSieve$Course;", true)
  | 7 => ("StageSieve", "secondKept", "LStageSieve$Course;", true)
  | 8 => ("StageSieve", "sieve", "LStageSieve$Sieve;", true)
  | 9 => ("StageSieve", "chooser", "LStageSieve$Chooser;", true)
  | 10 => ("StageSieve", "fraction", "LStageSieve$Fraction;", true)
  | 11 => ("StageSieve", "feelings", "LStageSieve$Feelings;", true)
  | 12 => ("StageSieve", "evening", "LStageSieve$Night;", true)
  | _ => ("StageSieve", "kept", "I", false)
def tyX11 : Nat → FieldType := fun k => match k with
  | 0 => .object "StageSieve$Text"
  | 1 => .object "StageSieve$House"
  | 2 => .object "StageSieve$Course"
  | 3 => .object "StageSieve$House"
  | 4 => .object "StageSieve$Row"
  | 5 => .object "StageSieve$Reader"
  | 6 => .object "StageSieve$Course"
  | 7 => .object "StageSieve$Course"
  | 8 => .object "StageSieve$Sieve"
  | 9 => .object "StageSieve$Chooser"
  | 10 => .object "StageSieve$Fraction"
  | 11 => .object "StageSieve$Feelings"
  | 12 => .object "StageSieve$Night"
  | _ => .int
theorem nmX11 : ∀ a, a < 14 → ∀ b, b < 14 → a ≠ b → (TX11 a).2.1 ≠ (TX11 b).2.1 := by decide +kernel
theorem tyX11_ok : ∀ k, k < 14 → parseFieldDescriptor (TX11 k).2.2.1 = some (tyX11 k) := by decide +kernel
abbrev cX11_init : ByteArray := prog_1_method_1_code
def yX11_init : MethodName := ⟨RX11, "<init>", "()V"⟩
abbrev cX11_write : ByteArray := prog_1_method_2_code
def yX11_write : MethodName := ⟨RX11, "write", "(IJ)I"⟩
abbrev cX11_wipe : ByteArray := prog_1_method_3_code
def yX11_wipe : MethodName := ⟨RX11, "wipe", "()I"⟩
abbrev cX11_lay : ByteArray := prog_1_method_5_code
def yX11_lay : MethodName := ⟨RX11, "lay", "()I"⟩
abbrev cX11_does : ByteArray := prog_1_method_6_code
def yX11_does : MethodName := ⟨RX11, "does", "(IIII)I"⟩
abbrev cX11_step : ByteArray := prog_1_method_7_code
def yX11_step : MethodName := ⟨RX11, "step", "(II)I"⟩
abbrev cX11_noRow : ByteArray := prog_1_method_8_code
def yX11_noRow : MethodName := ⟨RX11, "noRow", "()I"⟩
abbrev cX11_left : ByteArray := prog_1_method_9_code
def yX11_left : MethodName := ⟨RX11, "left", "(I)I"⟩
abbrev cX11_share : ByteArray := prog_1_method_10_code
def yX11_share : MethodName := ⟨RX11, "share", "(I)I"⟩
abbrev cX11_bent : ByteArray := prog_1_method_11_code
def yX11_bent : MethodName := ⟨RX11, "bent", "(I)I"⟩
abbrev cX11_odds : ByteArray := prog_1_method_12_code
def yX11_odds : MethodName := ⟨RX11, "odds", "(I)I"⟩
abbrev cX11_best : ByteArray := prog_1_method_13_code
def yX11_best : MethodName := ⟨RX11, "best", "(IIII)I"⟩
abbrev cX11_words : ByteArray := prog_1_method_15_code
def yX11_words : MethodName := ⟨RX11, "words", "(I)I"⟩
abbrev cX11_harm : ByteArray := prog_1_method_16_code
def yX11_harm : MethodName := ⟨RX11, "harm", "(II)I"⟩
abbrev cX11_people : ByteArray := prog_1_method_17_code
def yX11_people : MethodName := ⟨RX11, "people", "(I)J"⟩
abbrev cX11_tells : ByteArray := prog_1_method_18_code
def yX11_tells : MethodName := ⟨RX11, "tells", "()I"⟩
abbrev cX11_relief : ByteArray := prog_1_method_19_code
def yX11_relief : MethodName := ⟨RX11, "relief", "(III)I"⟩
abbrev cX11_tell : ByteArray := prog_1_method_21_code
def yX11_tell : MethodName := ⟨RX11, "tell", "(IIII)I"⟩
abbrev cX11_forget : ByteArray := prog_1_method_22_code
def yX11_forget : MethodName := ⟨RX11, "forget", "()I"⟩
abbrev cX11_man : ByteArray := prog_1_method_23_code
def yX11_man : MethodName := ⟨RX11, "man", "(I)J"⟩
abbrev cX11_night : ByteArray := prog_1_method_24_code
def yX11_night : MethodName := ⟨RX11, "night", "(II)I"⟩
abbrev cX11_one : ByteArray := prog_1_method_25_code
def yX11_one : MethodName := ⟨RX11, "one", "(II)I"⟩
abbrev cX11_nights : ByteArray := prog_1_method_26_code
def yX11_nights : MethodName := ⟨RX11, "nights", "(II)I"⟩
abbrev cX11_within : ByteArray := prog_1_method_31_code
def yX11_within : MethodName := ⟨RX11, "within", "(III)Z"⟩
abbrev cX11_at : ByteArray := prog_1_method_32_code
def yX11_at : MethodName := ⟨RX11, "at", "([II)I"⟩
abbrev cX11_put : ByteArray := prog_1_method_33_code
def yX11_put : MethodName := ⟨RX11, "put", "([III)V"⟩
abbrev cX11_copyRow : ByteArray := prog_1_method_34_code
def yX11_copyRow : MethodName := ⟨RX11, "copyRow", "([I[I)V"⟩
def RX12 : String := "StageSieveModel"
def TX12 : u_T := fun k => match k with
  | _ => ("", "", "", false)
def tyX12 : Nat → FieldType := fun k => match k with
  | _ => .int
theorem nmX12 : ∀ a, a < 0 → ∀ b, b < 0 → a ≠ b → (TX12 a).2.1 ≠ (TX12 b).2.1 := by decide +kernel
theorem tyX12_ok : ∀ k, k < 0 → parseFieldDescriptor (TX12 k).2.2.1 = some (tyX12 k) := by decide +kernel
def RJ9 : String := "java/lang/Math"
def RL : String := "StageSieveLaw"
abbrev cL_cell : ByteArray := method_2_code
def yL_cell : MethodName := ⟨RL, "cell", "([II)I"⟩
abbrev cL_low : ByteArray := method_3_code
def yL_low : MethodName := ⟨RL, "low", "(II)I"⟩
abbrev cL_item : ByteArray := method_4_code
def yL_item : MethodName := ⟨RL, "item", "(LStageSieve;II[II)I"⟩
abbrev cL_draws : ByteArray := method_5_code
def yL_draws : MethodName := ⟨RL, "draws", "([I[I)V"⟩
abbrev cL_lays : ByteArray := method_6_code
def yL_lays : MethodName := ⟨RL, "lays", "(LStageSieve;[I)I"⟩
abbrev cL_people : ByteArray := method_7_code
def yL_people : MethodName := ⟨RL, "people", "([I)I"⟩
abbrev cL_law : ByteArray := code
def yL_law : MethodName := ⟨RL, "law", "([I)Z"⟩
theorem dX0_init_0 : decode cX0_init 0 = .ok (.aload_n 0, 1) := by decide +kernel
theorem dX0_init_1 : decode cX0_init 1 = .ok (.invokespecial 3, 3) := by decide +kernel
theorem dX0_init_4 : decode cX0_init 4 = .ok (.aload_n 0, 1) := by decide +kernel
theorem dX0_init_5 : decode cX0_init 5 = .ok (.new 9, 3) := by decide +kernel
theorem dX0_init_8 : decode cX0_init 8 = .ok (.dup, 1) := by decide +kernel
theorem dX0_init_9 : decode cX0_init 9 = .ok (.invokespecial 11, 3) := by decide +kernel
theorem dX0_init_12 : decode cX0_init 12 = .ok (.putfield 12, 3) := by decide +kernel
theorem dX0_init_15 : decode cX0_init 15 = .ok (.aload_n 0, 1) := by decide +kernel
theorem dX0_init_16 : decode cX0_init 16 = .ok (.new 9, 3) := by decide +kernel
theorem dX0_init_19 : decode cX0_init 19 = .ok (.dup, 1) := by decide +kernel
theorem dX0_init_20 : decode cX0_init 20 = .ok (.invokespecial 11, 3) := by decide +kernel
theorem dX0_init_23 : decode cX0_init 23 = .ok (.putfield 18, 3) := by decide +kernel
theorem dX0_init_26 : decode cX0_init 26 = .ok (.aload_n 0, 1) := by decide +kernel
theorem dX0_init_27 : decode cX0_init 27 = .ok (.aload_n 1, 1) := by decide +kernel
theorem dX0_init_28 : decode cX0_init 28 = .ok (.putfield 21, 3) := by decide +kernel
theorem dX0_init_31 : decode cX0_init 31 = .ok (.aload_n 0, 1) := by decide +kernel
theorem dX0_init_32 : decode cX0_init 32 = .ok (.new 25, 3) := by decide +kernel
theorem dX0_init_35 : decode cX0_init 35 = .ok (.dup, 1) := by decide +kernel
theorem dX0_init_36 : decode cX0_init 36 = .ok (.aload_n 1, 1) := by decide +kernel
theorem dX0_init_37 : decode cX0_init 37 = .ok (.invokespecial 27, 3) := by decide +kernel
theorem dX0_init_40 : decode cX0_init 40 = .ok (.putfield 30, 3) := by decide +kernel
theorem dX0_init_43 : decode cX0_init 43 = .ok (.return_, 1) := by decide +kernel
theorem dX0_renew_0 : decode cX0_renew 0 = .ok (.aload_n 0, 1) := by decide +kernel
theorem dX0_renew_1 : decode cX0_renew 1 = .ok (.iconst 0, 1) := by decide +kernel
theorem dX0_renew_2 : decode cX0_renew 2 = .ok (.putfield 34, 3) := by decide +kernel
theorem dX0_renew_5 : decode cX0_renew 5 = .ok (.return_, 1) := by decide +kernel
theorem dX0_number_0 : decode cX0_number 0 = .ok (.iconst 2, 1) := by decide +kernel
theorem dX0_number_1 : decode cX0_number 1 = .ok (.aload_n 0, 1) := by decide +kernel
theorem dX0_number_2 : decode cX0_number 2 = .ok (.getfield 18, 3) := by decide +kernel
theorem dX0_number_5 : decode cX0_number 5 = .ok (.iload_n 1, 1) := by decide +kernel
theorem dX0_number_6 : decode cX0_number 6 = .ok (.invokevirtual 38, 3) := by decide +kernel
theorem dX0_number_9 : decode cX0_number 9 = .ok (.imul, 1) := by decide +kernel
theorem dX0_number_10 : decode cX0_number 10 = .ok (.aload_n 0, 1) := by decide +kernel
theorem dX0_number_11 : decode cX0_number 11 = .ok (.getfield 18, 3) := by decide +kernel
theorem dX0_number_14 : decode cX0_number 14 = .ok (.iload_n 1, 1) := by decide +kernel
theorem dX0_number_15 : decode cX0_number 15 = .ok (.invokevirtual 42, 3) := by decide +kernel
theorem dX0_number_18 : decode cX0_number 18 = .ok (.ifCond .eq 7, 3) := by decide +kernel
theorem dX0_number_21 : decode cX0_number 21 = .ok (.iconst 0, 1) := by decide +kernel
theorem dX0_number_22 : decode cX0_number 22 = .ok (.goto 4, 3) := by decide +kernel
theorem dX0_number_25 : decode cX0_number 25 = .ok (.iconst 1, 1) := by decide +kernel
theorem dX0_number_26 : decode cX0_number 26 = .ok (.iadd, 1) := by decide +kernel
theorem dX0_number_27 : decode cX0_number 27 = .ok (.ireturn, 1) := by decide +kernel
theorem dX0_choose_0 : decode cX0_choose 0 = .ok (.aload_n 0, 1) := by decide +kernel
theorem dX0_choose_1 : decode cX0_choose 1 = .ok (.getfield 34, 3) := by decide +kernel
theorem dX0_choose_4 : decode cX0_choose 4 = .ok (.iload_n 1, 1) := by decide +kernel
theorem dX0_choose_5 : decode cX0_choose 5 = .ok (.if_icmp .ne 20, 3) := by decide +kernel
theorem dX0_choose_8 : decode cX0_choose 8 = .ok (.aload_n 0, 1) := by decide +kernel
theorem dX0_choose_9 : decode cX0_choose 9 = .ok (.getfield 46, 3) := by decide +kernel
theorem dX0_choose_12 : decode cX0_choose 12 = .ok (.iload_n 2, 1) := by decide +kernel
theorem dX0_choose_13 : decode cX0_choose 13 = .ok (.if_icmp .ne 12, 3) := by decide +kernel
theorem dX0_choose_16 : decode cX0_choose 16 = .ok (.aload_n 0, 1) := by decide +kernel
theorem dX0_choose_17 : decode cX0_choose 17 = .ok (.getfield 49, 3) := by decide +kernel
theorem dX0_choose_20 : decode cX0_choose 20 = .ok (.iload_n 3, 1) := by decide +kernel
theorem dX0_choose_21 : decode cX0_choose 21 = .ok (.if_icmp .ne 4, 3) := by decide +kernel
theorem dX0_choose_24 : decode cX0_choose 24 = .ok (.return_, 1) := by decide +kernel
theorem dX0_choose_25 : decode cX0_choose 25 = .ok (.aload_n 0, 1) := by decide +kernel
theorem dX0_choose_26 : decode cX0_choose 26 = .ok (.iload_n 1, 1) := by decide +kernel
theorem dX0_choose_27 : decode cX0_choose 27 = .ok (.putfield 34, 3) := by decide +kernel
theorem dX0_choose_30 : decode cX0_choose 30 = .ok (.aload_n 0, 1) := by decide +kernel
theorem dX0_choose_31 : decode cX0_choose 31 = .ok (.iload_n 2, 1) := by decide +kernel
theorem dX0_choose_32 : decode cX0_choose 32 = .ok (.putfield 46, 3) := by decide +kernel
theorem dX0_choose_35 : decode cX0_choose 35 = .ok (.aload_n 0, 1) := by decide +kernel
theorem dX0_choose_36 : decode cX0_choose 36 = .ok (.iload_n 3, 1) := by decide +kernel
theorem dX0_choose_37 : decode cX0_choose 37 = .ok (.putfield 49, 3) := by decide +kernel
theorem dX0_choose_40 : decode cX0_choose 40 = .ok (.aload_n 0, 1) := by decide +kernel
theorem dX0_choose_41 : decode cX0_choose 41 = .ok (.bipush (-4), 2) := by decide +kernel
theorem dX0_choose_43 : decode cX0_choose 43 = .ok (.putfield 52, 3) := by decide +kernel
theorem dX0_choose_46 : decode cX0_choose 46 = .ok (.iconst 1, 1) := by decide +kernel
theorem dX0_choose_47 : decode cX0_choose 47 = .ok (.istore 4, 2) := by decide +kernel
theorem dX0_choose_49 : decode cX0_choose 49 = .ok (.iconst 0, 1) := by decide +kernel
theorem dX0_choose_50 : decode cX0_choose 50 = .ok (.istore 5, 2) := by decide +kernel
theorem dX0_choose_52 : decode cX0_choose 52 = .ok (.iload 5, 2) := by decide +kernel
theorem dX0_choose_54 : decode cX0_choose 54 = .ok (.iload_n 1, 1) := by decide +kernel
theorem dX0_choose_55 : decode cX0_choose 55 = .ok (.if_icmp .ge 23, 3) := by decide +kernel
theorem dX0_choose_58 : decode cX0_choose 58 = .ok (.iload 4, 2) := by decide +kernel
theorem dX0_choose_60 : decode cX0_choose 60 = .ok (.iconst 2, 1) := by decide +kernel
theorem dX0_choose_61 : decode cX0_choose 61 = .ok (.aload_n 0, 1) := by decide +kernel
theorem dX0_choose_62 : decode cX0_choose 62 = .ok (.getfield 21, 3) := by decide +kernel
theorem dX0_choose_65 : decode cX0_choose 65 = .ok (.getfield 55, 3) := by decide +kernel
theorem dX0_choose_68 : decode cX0_choose 68 = .ok (.imul, 1) := by decide +kernel
theorem dX0_choose_69 : decode cX0_choose 69 = .ok (.imul, 1) := by decide +kernel
theorem dX0_choose_70 : decode cX0_choose 70 = .ok (.istore 4, 2) := by decide +kernel
theorem dX0_choose_72 : decode cX0_choose 72 = .ok (.iinc 5 1, 3) := by decide +kernel
theorem dX0_choose_75 : decode cX0_choose 75 = .ok (.goto (-23), 3) := by decide +kernel
theorem dX0_choose_78 : decode cX0_choose 78 = .ok (.iconst 0, 1) := by decide +kernel
theorem dX0_choose_79 : decode cX0_choose 79 = .ok (.istore 5, 2) := by decide +kernel
theorem dX0_choose_81 : decode cX0_choose 81 = .ok (.iload 5, 2) := by decide +kernel
theorem dX0_choose_83 : decode cX0_choose 83 = .ok (.iload 4, 2) := by decide +kernel
theorem dX0_choose_85 : decode cX0_choose 85 = .ok (.if_icmp .ge 22, 3) := by decide +kernel
theorem dX0_choose_88 : decode cX0_choose 88 = .ok (.aload_n 0, 1) := by decide +kernel
theorem dX0_choose_89 : decode cX0_choose 89 = .ok (.iload 5, 2) := by decide +kernel
theorem dX0_choose_91 : decode cX0_choose 91 = .ok (.invokevirtual 60, 3) := by decide +kernel
theorem dX0_choose_94 : decode cX0_choose 94 = .ok (.ifCond .eq 7, 3) := by decide +kernel
theorem dX0_choose_97 : decode cX0_choose 97 = .ok (.aload_n 0, 1) := by decide +kernel
theorem dX0_choose_98 : decode cX0_choose 98 = .ok (.invokevirtual 63, 3) := by decide +kernel
theorem dX0_choose_101 : decode cX0_choose 101 = .ok (.iinc 5 1, 3) := by decide +kernel
theorem dX0_choose_104 : decode cX0_choose 104 = .ok (.goto (-23), 3) := by decide +kernel
theorem dX0_choose_107 : decode cX0_choose 107 = .ok (.return_, 1) := by decide +kernel
theorem dX0_tryRow_0 : decode cX0_tryRow 0 = .ok (.iconst 2, 1) := by decide +kernel
theorem dX0_tryRow_1 : decode cX0_tryRow 1 = .ok (.aload_n 0, 1) := by decide +kernel
theorem dX0_tryRow_2 : decode cX0_tryRow 2 = .ok (.getfield 21, 3) := by decide +kernel
theorem dX0_tryRow_5 : decode cX0_tryRow 5 = .ok (.getfield 55, 3) := by decide +kernel
theorem dX0_tryRow_8 : decode cX0_tryRow 8 = .ok (.imul, 1) := by decide +kernel
theorem dX0_tryRow_9 : decode cX0_tryRow 9 = .ok (.istore_n 2, 1) := by decide +kernel
theorem dX0_tryRow_10 : decode cX0_tryRow 10 = .ok (.iconst 1, 1) := by decide +kernel
theorem dX0_tryRow_11 : decode cX0_tryRow 11 = .ok (.istore_n 3, 1) := by decide +kernel
theorem dX0_tryRow_12 : decode cX0_tryRow 12 = .ok (.iconst 1, 1) := by decide +kernel
theorem dX0_tryRow_13 : decode cX0_tryRow 13 = .ok (.istore 4, 2) := by decide +kernel
theorem dX0_tryRow_15 : decode cX0_tryRow 15 = .ok (.iload 4, 2) := by decide +kernel
theorem dX0_tryRow_17 : decode cX0_tryRow 17 = .ok (.aload_n 0, 1) := by decide +kernel
theorem dX0_tryRow_18 : decode cX0_tryRow 18 = .ok (.getfield 34, 3) := by decide +kernel
theorem dX0_tryRow_21 : decode cX0_tryRow 21 = .ok (.if_icmp .ge 13, 3) := by decide +kernel
theorem dX0_tryRow_24 : decode cX0_tryRow 24 = .ok (.iload_n 3, 1) := by decide +kernel
theorem dX0_tryRow_25 : decode cX0_tryRow 25 = .ok (.iload_n 2, 1) := by decide +kernel
theorem dX0_tryRow_26 : decode cX0_tryRow 26 = .ok (.imul, 1) := by decide +kernel
theorem dX0_tryRow_27 : decode cX0_tryRow 27 = .ok (.istore_n 3, 1) := by decide +kernel
theorem dX0_tryRow_28 : decode cX0_tryRow 28 = .ok (.iinc 4 1, 3) := by decide +kernel
theorem dX0_tryRow_31 : decode cX0_tryRow 31 = .ok (.goto (-16), 3) := by decide +kernel
theorem dX0_tryRow_34 : decode cX0_tryRow 34 = .ok (.aload_n 0, 1) := by decide +kernel
theorem dX0_tryRow_35 : decode cX0_tryRow 35 = .ok (.getfield 12, 3) := by decide +kernel
theorem dX0_tryRow_38 : decode cX0_tryRow 38 = .ok (.iconst 0, 1) := by decide +kernel
theorem dX0_tryRow_39 : decode cX0_tryRow 39 = .ok (.putfield 66, 3) := by decide +kernel
theorem dX0_tryRow_42 : decode cX0_tryRow 42 = .ok (.iconst 0, 1) := by decide +kernel
theorem dX0_tryRow_43 : decode cX0_tryRow 43 = .ok (.istore 4, 2) := by decide +kernel
theorem dX0_tryRow_45 : decode cX0_tryRow 45 = .ok (.iconst 0, 1) := by decide +kernel
theorem dX0_tryRow_46 : decode cX0_tryRow 46 = .ok (.istore 5, 2) := by decide +kernel
theorem dX0_tryRow_48 : decode cX0_tryRow 48 = .ok (.iconst 0, 1) := by decide +kernel
theorem dX0_tryRow_49 : decode cX0_tryRow 49 = .ok (.istore 6, 2) := by decide +kernel
theorem dX0_tryRow_51 : decode cX0_tryRow 51 = .ok (.iload 6, 2) := by decide +kernel
theorem dX0_tryRow_53 : decode cX0_tryRow 53 = .ok (.aload_n 0, 1) := by decide +kernel
theorem dX0_tryRow_54 : decode cX0_tryRow 54 = .ok (.getfield 34, 3) := by decide +kernel
theorem dX0_tryRow_57 : decode cX0_tryRow 57 = .ok (.if_icmp .ge 73, 3) := by decide +kernel
theorem dX0_tryRow_60 : decode cX0_tryRow 60 = .ok (.iload_n 2, 1) := by decide +kernel
theorem dX0_tryRow_61 : decode cX0_tryRow 61 = .ok (.ifCond .le 69, 3) := by decide +kernel
theorem dX0_tryRow_64 : decode cX0_tryRow 64 = .ok (.iload_n 3, 1) := by decide +kernel
theorem dX0_tryRow_65 : decode cX0_tryRow 65 = .ok (.ifCond .le 65, 3) := by decide +kernel
theorem dX0_tryRow_68 : decode cX0_tryRow 68 = .ok (.iload_n 1, 1) := by decide +kernel
theorem dX0_tryRow_69 : decode cX0_tryRow 69 = .ok (.iload_n 3, 1) := by decide +kernel
theorem dX0_tryRow_70 : decode cX0_tryRow 70 = .ok (.idiv, 1) := by decide +kernel
theorem dX0_tryRow_71 : decode cX0_tryRow 71 = .ok (.iload_n 2, 1) := by decide +kernel
theorem dX0_tryRow_72 : decode cX0_tryRow 72 = .ok (.irem, 1) := by decide +kernel
theorem dX0_tryRow_73 : decode cX0_tryRow 73 = .ok (.istore 7, 2) := by decide +kernel
theorem dX0_tryRow_75 : decode cX0_tryRow 75 = .ok (.iload 7, 2) := by decide +kernel
theorem dX0_tryRow_77 : decode cX0_tryRow 77 = .ok (.iload 4, 2) := by decide +kernel
theorem dX0_tryRow_79 : decode cX0_tryRow 79 = .ok (.if_icmp .ge 5, 3) := by decide +kernel
theorem dX0_tryRow_82 : decode cX0_tryRow 82 = .ok (.iconst 0, 1) := by decide +kernel
theorem dX0_tryRow_83 : decode cX0_tryRow 83 = .ok (.ireturn, 1) := by decide +kernel
theorem dX0_tryRow_84 : decode cX0_tryRow 84 = .ok (.aload_n 0, 1) := by decide +kernel
theorem dX0_tryRow_85 : decode cX0_tryRow 85 = .ok (.getfield 12, 3) := by decide +kernel
theorem dX0_tryRow_88 : decode cX0_tryRow 88 = .ok (.iload 7, 2) := by decide +kernel
theorem dX0_tryRow_90 : decode cX0_tryRow 90 = .ok (.iconst 2, 1) := by decide +kernel
theorem dX0_tryRow_91 : decode cX0_tryRow 91 = .ok (.idiv, 1) := by decide +kernel
theorem dX0_tryRow_92 : decode cX0_tryRow 92 = .ok (.iload 7, 2) := by decide +kernel
theorem dX0_tryRow_94 : decode cX0_tryRow 94 = .ok (.iconst 2, 1) := by decide +kernel
theorem dX0_tryRow_95 : decode cX0_tryRow 95 = .ok (.irem, 1) := by decide +kernel
theorem dX0_tryRow_96 : decode cX0_tryRow 96 = .ok (.invokevirtual 69, 3) := by decide +kernel
theorem dX0_tryRow_99 : decode cX0_tryRow 99 = .ok (.pop, 1) := by decide +kernel
theorem dX0_tryRow_100 : decode cX0_tryRow 100 = .ok (.iload 5, 2) := by decide +kernel
theorem dX0_tryRow_102 : decode cX0_tryRow 102 = .ok (.aload_n 0, 1) := by decide +kernel
theorem dX0_tryRow_103 : decode cX0_tryRow 103 = .ok (.getfield 21, 3) := by decide +kernel
theorem dX0_tryRow_106 : decode cX0_tryRow 106 = .ok (.iload 7, 2) := by decide +kernel
theorem dX0_tryRow_108 : decode cX0_tryRow 108 = .ok (.iconst 2, 1) := by decide +kernel
theorem dX0_tryRow_109 : decode cX0_tryRow 109 = .ok (.idiv, 1) := by decide +kernel
theorem dX0_tryRow_110 : decode cX0_tryRow 110 = .ok (.invokevirtual 73, 3) := by decide +kernel
theorem dX0_tryRow_113 : decode cX0_tryRow 113 = .ok (.iadd, 1) := by decide +kernel
theorem dX0_tryRow_114 : decode cX0_tryRow 114 = .ok (.istore 5, 2) := by decide +kernel
theorem dX0_tryRow_116 : decode cX0_tryRow 116 = .ok (.iload 7, 2) := by decide +kernel
theorem dX0_tryRow_118 : decode cX0_tryRow 118 = .ok (.istore 4, 2) := by decide +kernel
theorem dX0_tryRow_120 : decode cX0_tryRow 120 = .ok (.iload_n 3, 1) := by decide +kernel
theorem dX0_tryRow_121 : decode cX0_tryRow 121 = .ok (.iload_n 2, 1) := by decide +kernel
theorem dX0_tryRow_122 : decode cX0_tryRow 122 = .ok (.idiv, 1) := by decide +kernel
theorem dX0_tryRow_123 : decode cX0_tryRow 123 = .ok (.istore_n 3, 1) := by decide +kernel
theorem dX0_tryRow_124 : decode cX0_tryRow 124 = .ok (.iinc 6 1, 3) := by decide +kernel
theorem dX0_tryRow_127 : decode cX0_tryRow 127 = .ok (.goto (-76), 3) := by decide +kernel
theorem dX0_tryRow_130 : decode cX0_tryRow 130 = .ok (.iload 5, 2) := by decide +kernel
theorem dX0_tryRow_132 : decode cX0_tryRow 132 = .ok (.aload_n 0, 1) := by decide +kernel
theorem dX0_tryRow_133 : decode cX0_tryRow 133 = .ok (.getfield 46, 3) := by decide +kernel
theorem dX0_tryRow_136 : decode cX0_tryRow 136 = .ok (.if_icmp .gt 7, 3) := by decide +kernel
theorem dX0_tryRow_139 : decode cX0_tryRow 139 = .ok (.iconst 1, 1) := by decide +kernel
theorem dX0_tryRow_140 : decode cX0_tryRow 140 = .ok (.goto 4, 3) := by decide +kernel
theorem dX0_tryRow_143 : decode cX0_tryRow 143 = .ok (.iconst 0, 1) := by decide +kernel
theorem dX0_tryRow_144 : decode cX0_tryRow 144 = .ok (.ireturn, 1) := by decide +kernel
theorem dX0_weigh_0 : decode cX0_weigh 0 = .ok (.aload_n 0, 1) := by decide +kernel
theorem dX0_weigh_1 : decode cX0_weigh 1 = .ok (.getfield 30, 3) := by decide +kernel
theorem dX0_weigh_4 : decode cX0_weigh 4 = .ok (.aload_n 0, 1) := by decide +kernel
theorem dX0_weigh_5 : decode cX0_weigh 5 = .ok (.getfield 12, 3) := by decide +kernel
theorem dX0_weigh_8 : decode cX0_weigh 8 = .ok (.invokevirtual 75, 3) := by decide +kernel
theorem dX0_weigh_11 : decode cX0_weigh 11 = .ok (.aload_n 0, 1) := by decide +kernel
theorem dX0_weigh_12 : decode cX0_weigh 12 = .ok (.getfield 30, 3) := by decide +kernel
theorem dX0_weigh_15 : decode cX0_weigh 15 = .ok (.aload_n 0, 1) := by decide +kernel
theorem dX0_weigh_16 : decode cX0_weigh 16 = .ok (.getfield 49, 3) := by decide +kernel
theorem dX0_weigh_19 : decode cX0_weigh 19 = .ok (.invokevirtual 79, 3) := by decide +kernel
theorem dX0_weigh_22 : decode cX0_weigh 22 = .ok (.istore_n 1, 1) := by decide +kernel
theorem dX0_weigh_23 : decode cX0_weigh 23 = .ok (.iload_n 1, 1) := by decide +kernel
theorem dX0_weigh_24 : decode cX0_weigh 24 = .ok (.aload_n 0, 1) := by decide +kernel
theorem dX0_weigh_25 : decode cX0_weigh 25 = .ok (.getfield 52, 3) := by decide +kernel
theorem dX0_weigh_28 : decode cX0_weigh 28 = .ok (.if_icmp .le 19, 3) := by decide +kernel
theorem dX0_weigh_31 : decode cX0_weigh 31 = .ok (.aload_n 0, 1) := by decide +kernel
theorem dX0_weigh_32 : decode cX0_weigh 32 = .ok (.iload_n 1, 1) := by decide +kernel
theorem dX0_weigh_33 : decode cX0_weigh 33 = .ok (.putfield 52, 3) := by decide +kernel
theorem dX0_weigh_36 : decode cX0_weigh 36 = .ok (.aload_n 0, 1) := by decide +kernel
theorem dX0_weigh_37 : decode cX0_weigh 37 = .ok (.getfield 18, 3) := by decide +kernel
theorem dX0_weigh_40 : decode cX0_weigh 40 = .ok (.aload_n 0, 1) := by decide +kernel
theorem dX0_weigh_41 : decode cX0_weigh 41 = .ok (.getfield 12, 3) := by decide +kernel
theorem dX0_weigh_44 : decode cX0_weigh 44 = .ok (.invokevirtual 81, 3) := by decide +kernel
theorem dX0_weigh_47 : decode cX0_weigh 47 = .ok (.return_, 1) := by decide +kernel
theorem dX1_init_0 : decode cX1_init 0 = .ok (.aload_n 0, 1) := by decide +kernel
theorem dX1_init_1 : decode cX1_init 1 = .ok (.invokespecial 1, 3) := by decide +kernel
theorem dX1_init_4 : decode cX1_init 4 = .ok (.aload_n 0, 1) := by decide +kernel
theorem dX1_init_5 : decode cX1_init 5 = .ok (.new 7, 3) := by decide +kernel
theorem dX1_init_8 : decode cX1_init 8 = .ok (.dup, 1) := by decide +kernel
theorem dX1_init_9 : decode cX1_init 9 = .ok (.invokespecial 9, 3) := by decide +kernel
theorem dX1_init_12 : decode cX1_init 12 = .ok (.putfield 10, 3) := by decide +kernel
theorem dX1_init_15 : decode cX1_init 15 = .ok (.aload_n 0, 1) := by decide +kernel
theorem dX1_init_16 : decode cX1_init 16 = .ok (.new 16, 3) := by decide +kernel
theorem dX1_init_19 : decode cX1_init 19 = .ok (.dup, 1) := by decide +kernel
theorem dX1_init_20 : decode cX1_init 20 = .ok (.invokespecial 18, 3) := by decide +kernel
theorem dX1_init_23 : decode cX1_init 23 = .ok (.putfield 19, 3) := by decide +kernel
theorem dX1_init_26 : decode cX1_init 26 = .ok (.return_, 1) := by decide +kernel
theorem dX2_init_0 : decode cX2_init 0 = .ok (.aload_n 0, 1) := by decide +kernel
theorem dX2_init_1 : decode cX2_init 1 = .ok (.invokespecial 3, 3) := by decide +kernel
theorem dX2_init_4 : decode cX2_init 4 = .ok (.aload_n 0, 1) := by decide +kernel
theorem dX2_init_5 : decode cX2_init 5 = .ok (.aload_n 1, 1) := by decide +kernel
theorem dX2_init_6 : decode cX2_init 6 = .ok (.putfield 9, 3) := by decide +kernel
theorem dX2_init_9 : decode cX2_init 9 = .ok (.aload_n 0, 1) := by decide +kernel
theorem dX2_init_10 : decode cX2_init 10 = .ok (.aload_n 2, 1) := by decide +kernel
theorem dX2_init_11 : decode cX2_init 11 = .ok (.putfield 15, 3) := by decide +kernel
theorem dX2_init_14 : decode cX2_init 14 = .ok (.return_, 1) := by decide +kernel
theorem dX2_gain_0 : decode cX2_gain 0 = .ok (.aload_n 0, 1) := by decide +kernel
theorem dX2_gain_1 : decode cX2_gain 1 = .ok (.getfield 9, 3) := by decide +kernel
theorem dX2_gain_4 : decode cX2_gain 4 = .ok (.iload_n 1, 1) := by decide +kernel
theorem dX2_gain_5 : decode cX2_gain 5 = .ok (.iload_n 2, 1) := by decide +kernel
theorem dX2_gain_6 : decode cX2_gain 6 = .ok (.iconst 0, 1) := by decide +kernel
theorem dX2_gain_7 : decode cX2_gain 7 = .ok (.invokevirtual 33, 3) := by decide +kernel
theorem dX2_gain_10 : decode cX2_gain 10 = .ok (.aload_n 0, 1) := by decide +kernel
theorem dX2_gain_11 : decode cX2_gain 11 = .ok (.getfield 9, 3) := by decide +kernel
theorem dX2_gain_14 : decode cX2_gain 14 = .ok (.iload_n 1, 1) := by decide +kernel
theorem dX2_gain_15 : decode cX2_gain 15 = .ok (.iload_n 2, 1) := by decide +kernel
theorem dX2_gain_16 : decode cX2_gain 16 = .ok (.iconst 1, 1) := by decide +kernel
theorem dX2_gain_17 : decode cX2_gain 17 = .ok (.invokevirtual 33, 3) := by decide +kernel
theorem dX2_gain_20 : decode cX2_gain 20 = .ok (.isub, 1) := by decide +kernel
theorem dX2_gain_21 : decode cX2_gain 21 = .ok (.ireturn, 1) := by decide +kernel
theorem dX2_added_0 : decode cX2_added 0 = .ok (.iconst 0, 1) := by decide +kernel
theorem dX2_added_1 : decode cX2_added 1 = .ok (.istore_n 2, 1) := by decide +kernel
theorem dX2_added_2 : decode cX2_added 2 = .ok (.iconst 0, 1) := by decide +kernel
theorem dX2_added_3 : decode cX2_added 3 = .ok (.istore_n 3, 1) := by decide +kernel
theorem dX2_added_4 : decode cX2_added 4 = .ok (.iload_n 3, 1) := by decide +kernel
theorem dX2_added_5 : decode cX2_added 5 = .ok (.aload_n 0, 1) := by decide +kernel
theorem dX2_added_6 : decode cX2_added 6 = .ok (.getfield 9, 3) := by decide +kernel
theorem dX2_added_9 : decode cX2_added 9 = .ok (.getfield 19, 3) := by decide +kernel
theorem dX2_added_12 : decode cX2_added 12 = .ok (.if_icmp .ge 27, 3) := by decide +kernel
theorem dX2_added_15 : decode cX2_added 15 = .ok (.iload_n 2, 1) := by decide +kernel
theorem dX2_added_16 : decode cX2_added 16 = .ok (.aload_n 0, 1) := by decide +kernel
theorem dX2_added_17 : decode cX2_added 17 = .ok (.getfield 9, 3) := by decide +kernel
theorem dX2_added_20 : decode cX2_added 20 = .ok (.iload_n 3, 1) := by decide +kernel
theorem dX2_added_21 : decode cX2_added 21 = .ok (.invokevirtual 25, 3) := by decide +kernel
theorem dX2_added_24 : decode cX2_added 24 = .ok (.aload_n 0, 1) := by decide +kernel
theorem dX2_added_25 : decode cX2_added 25 = .ok (.iload_n 3, 1) := by decide +kernel
theorem dX2_added_26 : decode cX2_added 26 = .ok (.iload_n 1, 1) := by decide +kernel
theorem dX2_added_27 : decode cX2_added 27 = .ok (.invokevirtual 42, 3) := by decide +kernel
theorem dX2_added_30 : decode cX2_added 30 = .ok (.imul, 1) := by decide +kernel
theorem dX2_added_31 : decode cX2_added 31 = .ok (.iadd, 1) := by decide +kernel
theorem dX2_added_32 : decode cX2_added 32 = .ok (.istore_n 2, 1) := by decide +kernel
theorem dX2_added_33 : decode cX2_added 33 = .ok (.iinc 3 1, 3) := by decide +kernel
theorem dX2_added_36 : decode cX2_added 36 = .ok (.goto (-32), 3) := by decide +kernel
theorem dX2_added_39 : decode cX2_added 39 = .ok (.iload_n 2, 1) := by decide +kernel
theorem dX2_added_40 : decode cX2_added 40 = .ok (.bipush 100, 2) := by decide +kernel
theorem dX2_added_42 : decode cX2_added 42 = .ok (.idiv, 1) := by decide +kernel
theorem dX2_added_43 : decode cX2_added 43 = .ok (.ireturn, 1) := by decide +kernel
theorem dX2_mostHarmed_0 : decode cX2_mostHarmed 0 = .ok (.iconst 0, 1) := by decide +kernel
theorem dX2_mostHarmed_1 : decode cX2_mostHarmed 1 = .ok (.istore_n 2, 1) := by decide +kernel
theorem dX2_mostHarmed_2 : decode cX2_mostHarmed 2 = .ok (.iconst 1, 1) := by decide +kernel
theorem dX2_mostHarmed_3 : decode cX2_mostHarmed 3 = .ok (.istore_n 3, 1) := by decide +kernel
theorem dX2_mostHarmed_4 : decode cX2_mostHarmed 4 = .ok (.iload_n 3, 1) := by decide +kernel
theorem dX2_mostHarmed_5 : decode cX2_mostHarmed 5 = .ok (.aload_n 0, 1) := by decide +kernel
theorem dX2_mostHarmed_6 : decode cX2_mostHarmed 6 = .ok (.getfield 9, 3) := by decide +kernel
theorem dX2_mostHarmed_9 : decode cX2_mostHarmed 9 = .ok (.getfield 19, 3) := by decide +kernel
theorem dX2_mostHarmed_12 : decode cX2_mostHarmed 12 = .ok (.if_icmp .ge 26, 3) := by decide +kernel
theorem dX2_mostHarmed_15 : decode cX2_mostHarmed 15 = .ok (.aload_n 0, 1) := by decide +kernel
theorem dX2_mostHarmed_16 : decode cX2_mostHarmed 16 = .ok (.iload_n 3, 1) := by decide +kernel
theorem dX2_mostHarmed_17 : decode cX2_mostHarmed 17 = .ok (.iload_n 1, 1) := by decide +kernel
theorem dX2_mostHarmed_18 : decode cX2_mostHarmed 18 = .ok (.invokevirtual 42, 3) := by decide +kernel
theorem dX2_mostHarmed_21 : decode cX2_mostHarmed 21 = .ok (.aload_n 0, 1) := by decide +kernel
theorem dX2_mostHarmed_22 : decode cX2_mostHarmed 22 = .ok (.iload_n 2, 1) := by decide +kernel
theorem dX2_mostHarmed_23 : decode cX2_mostHarmed 23 = .ok (.iload_n 1, 1) := by decide +kernel
theorem dX2_mostHarmed_24 : decode cX2_mostHarmed 24 = .ok (.invokevirtual 42, 3) := by decide +kernel
theorem dX2_mostHarmed_27 : decode cX2_mostHarmed 27 = .ok (.if_icmp .le 5, 3) := by decide +kernel
theorem dX2_mostHarmed_30 : decode cX2_mostHarmed 30 = .ok (.iload_n 3, 1) := by decide +kernel
theorem dX2_mostHarmed_31 : decode cX2_mostHarmed 31 = .ok (.istore_n 2, 1) := by decide +kernel
theorem dX2_mostHarmed_32 : decode cX2_mostHarmed 32 = .ok (.iinc 3 1, 3) := by decide +kernel
theorem dX2_mostHarmed_35 : decode cX2_mostHarmed 35 = .ok (.goto (-31), 3) := by decide +kernel
theorem dX2_mostHarmed_38 : decode cX2_mostHarmed 38 = .ok (.iload_n 2, 1) := by decide +kernel
theorem dX2_mostHarmed_39 : decode cX2_mostHarmed 39 = .ok (.ireturn, 1) := by decide +kernel
theorem dX2_eased_0 : decode cX2_eased 0 = .ok (.aload_n 0, 1) := by decide +kernel
theorem dX2_eased_1 : decode cX2_eased 1 = .ok (.getfield 9, 3) := by decide +kernel
theorem dX2_eased_4 : decode cX2_eased 4 = .ok (.getfield 46, 3) := by decide +kernel
theorem dX2_eased_7 : decode cX2_eased 7 = .ok (.aload_n 0, 1) := by decide +kernel
theorem dX2_eased_8 : decode cX2_eased 8 = .ok (.getfield 9, 3) := by decide +kernel
theorem dX2_eased_11 : decode cX2_eased 11 = .ok (.iload_n 1, 1) := by decide +kernel
theorem dX2_eased_12 : decode cX2_eased 12 = .ok (.iload_n 2, 1) := by decide +kernel
theorem dX2_eased_13 : decode cX2_eased 13 = .ok (.iconst 0, 1) := by decide +kernel
theorem dX2_eased_14 : decode cX2_eased 14 = .ok (.invokevirtual 29, 3) := by decide +kernel
theorem dX2_eased_17 : decode cX2_eased 17 = .ok (.imul, 1) := by decide +kernel
theorem dX2_eased_18 : decode cX2_eased 18 = .ok (.bipush 20, 2) := by decide +kernel
theorem dX2_eased_20 : decode cX2_eased 20 = .ok (.idiv, 1) := by decide +kernel
theorem dX2_eased_21 : decode cX2_eased 21 = .ok (.ireturn, 1) := by decide +kernel
theorem dX2_weighPeople_0 : decode cX2_weighPeople 0 = .ok (.lconst 0, 1) := by decide +kernel
theorem dX2_weighPeople_1 : decode cX2_weighPeople 1 = .ok (.lstore_n 2, 1) := by decide +kernel
theorem dX2_weighPeople_2 : decode cX2_weighPeople 2 = .ok (.lconst 0, 1) := by decide +kernel
theorem dX2_weighPeople_3 : decode cX2_weighPeople 3 = .ok (.lstore 4, 2) := by decide +kernel
theorem dX2_weighPeople_5 : decode cX2_weighPeople 5 = .ok (.lconst 0, 1) := by decide +kernel
theorem dX2_weighPeople_6 : decode cX2_weighPeople 6 = .ok (.lstore 6, 2) := by decide +kernel
theorem dX2_weighPeople_8 : decode cX2_weighPeople 8 = .ok (.iconst 0, 1) := by decide +kernel
theorem dX2_weighPeople_9 : decode cX2_weighPeople 9 = .ok (.istore 8, 2) := by decide +kernel
theorem dX2_weighPeople_11 : decode cX2_weighPeople 11 = .ok (.iload 8, 2) := by decide +kernel
theorem dX2_weighPeople_13 : decode cX2_weighPeople 13 = .ok (.aload_n 0, 1) := by decide +kernel
theorem dX2_weighPeople_14 : decode cX2_weighPeople 14 = .ok (.getfield 9, 3) := by decide +kernel
theorem dX2_weighPeople_17 : decode cX2_weighPeople 17 = .ok (.getfield 19, 3) := by decide +kernel
theorem dX2_weighPeople_20 : decode cX2_weighPeople 20 = .ok (.if_icmp .ge 115, 3) := by decide +kernel
theorem dX2_weighPeople_23 : decode cX2_weighPeople 23 = .ok (.lconst 0, 1) := by decide +kernel
theorem dX2_weighPeople_24 : decode cX2_weighPeople 24 = .ok (.lstore 9, 2) := by decide +kernel
theorem dX2_weighPeople_26 : decode cX2_weighPeople 26 = .ok (.aload_n 0, 1) := by decide +kernel
theorem dX2_weighPeople_27 : decode cX2_weighPeople 27 = .ok (.getfield 9, 3) := by decide +kernel
theorem dX2_weighPeople_30 : decode cX2_weighPeople 30 = .ok (.iload 8, 2) := by decide +kernel
theorem dX2_weighPeople_32 : decode cX2_weighPeople 32 = .ok (.invokevirtual 25, 3) := by decide +kernel
theorem dX2_weighPeople_35 : decode cX2_weighPeople 35 = .ok (.i2l, 1) := by decide +kernel
theorem dX2_weighPeople_36 : decode cX2_weighPeople 36 = .ok (.lstore 11, 2) := by decide +kernel
theorem dX2_weighPeople_38 : decode cX2_weighPeople 38 = .ok (.iconst 0, 1) := by decide +kernel
theorem dX2_weighPeople_39 : decode cX2_weighPeople 39 = .ok (.istore 13, 2) := by decide +kernel
theorem dX2_weighPeople_41 : decode cX2_weighPeople 41 = .ok (.iload 13, 2) := by decide +kernel
theorem dX2_weighPeople_43 : decode cX2_weighPeople 43 = .ok (.aload_n 0, 1) := by decide +kernel
theorem dX2_weighPeople_44 : decode cX2_weighPeople 44 = .ok (.getfield 9, 3) := by decide +kernel
theorem dX2_weighPeople_47 : decode cX2_weighPeople 47 = .ok (.getfield 49, 3) := by decide +kernel
theorem dX2_weighPeople_50 : decode cX2_weighPeople 50 = .ok (.if_icmp .ge 58, 3) := by decide +kernel
theorem dX2_weighPeople_53 : decode cX2_weighPeople 53 = .ok (.iload 13, 2) := by decide +kernel
theorem dX2_weighPeople_55 : decode cX2_weighPeople 55 = .ok (.iload_n 1, 1) := by decide +kernel
theorem dX2_weighPeople_56 : decode cX2_weighPeople 56 = .ok (.if_icmp .ne 7, 3) := by decide +kernel
theorem dX2_weighPeople_59 : decode cX2_weighPeople 59 = .ok (.lconst 0, 1) := by decide +kernel
theorem dX2_weighPeople_60 : decode cX2_weighPeople 60 = .ok (.goto 16, 3) := by decide +kernel
theorem dX2_weighPeople_63 : decode cX2_weighPeople 63 = .ok (.aload_n 0, 1) := by decide +kernel
theorem dX2_weighPeople_64 : decode cX2_weighPeople 64 = .ok (.getfield 9, 3) := by decide +kernel
theorem dX2_weighPeople_67 : decode cX2_weighPeople 67 = .ok (.iload 8, 2) := by decide +kernel
theorem dX2_weighPeople_69 : decode cX2_weighPeople 69 = .ok (.iload 13, 2) := by decide +kernel
theorem dX2_weighPeople_71 : decode cX2_weighPeople 71 = .ok (.iconst 0, 1) := by decide +kernel
theorem dX2_weighPeople_72 : decode cX2_weighPeople 72 = .ok (.invokevirtual 33, 3) := by decide +kernel
theorem dX2_weighPeople_75 : decode cX2_weighPeople 75 = .ok (.i2l, 1) := by decide +kernel
theorem dX2_weighPeople_76 : decode cX2_weighPeople 76 = .ok (.lstore 14, 2) := by decide +kernel
theorem dX2_weighPeople_78 : decode cX2_weighPeople 78 = .ok (.lload 9, 2) := by decide +kernel
theorem dX2_weighPeople_80 : decode cX2_weighPeople 80 = .ok (.lload 14, 2) := by decide +kernel
theorem dX2_weighPeople_82 : decode cX2_weighPeople 82 = .ok (.ladd, 1) := by decide +kernel
theorem dX2_weighPeople_83 : decode cX2_weighPeople 83 = .ok (.lstore 9, 2) := by decide +kernel
theorem dX2_weighPeople_85 : decode cX2_weighPeople 85 = .ok (.lload 6, 2) := by decide +kernel
theorem dX2_weighPeople_87 : decode cX2_weighPeople 87 = .ok (.lload 11, 2) := by decide +kernel
theorem dX2_weighPeople_89 : decode cX2_weighPeople 89 = .ok (.lload 14, 2) := by decide +kernel
theorem dX2_weighPeople_91 : decode cX2_weighPeople 91 = .ok (.lmul, 1) := by decide +kernel
theorem dX2_weighPeople_92 : decode cX2_weighPeople 92 = .ok (.ldc2_w 52, 3) := by decide +kernel
theorem dX2_weighPeople_95 : decode cX2_weighPeople 95 = .ok (.lload 14, 2) := by decide +kernel
theorem dX2_weighPeople_97 : decode cX2_weighPeople 97 = .ok (.lsub, 1) := by decide +kernel
theorem dX2_weighPeople_98 : decode cX2_weighPeople 98 = .ok (.lmul, 1) := by decide +kernel
theorem dX2_weighPeople_99 : decode cX2_weighPeople 99 = .ok (.ladd, 1) := by decide +kernel
theorem dX2_weighPeople_100 : decode cX2_weighPeople 100 = .ok (.lstore 6, 2) := by decide +kernel
theorem dX2_weighPeople_102 : decode cX2_weighPeople 102 = .ok (.iinc 13 1, 3) := by decide +kernel
theorem dX2_weighPeople_105 : decode cX2_weighPeople 105 = .ok (.goto (-64), 3) := by decide +kernel
theorem dX2_weighPeople_108 : decode cX2_weighPeople 108 = .ok (.lload_n 2, 1) := by decide +kernel
theorem dX2_weighPeople_109 : decode cX2_weighPeople 109 = .ok (.lload 11, 2) := by decide +kernel
theorem dX2_weighPeople_111 : decode cX2_weighPeople 111 = .ok (.lload 9, 2) := by decide +kernel
theorem dX2_weighPeople_113 : decode cX2_weighPeople 113 = .ok (.lmul, 1) := by decide +kernel
theorem dX2_weighPeople_114 : decode cX2_weighPeople 114 = .ok (.ladd, 1) := by decide +kernel
theorem dX2_weighPeople_115 : decode cX2_weighPeople 115 = .ok (.lstore_n 2, 1) := by decide +kernel
theorem dX2_weighPeople_116 : decode cX2_weighPeople 116 = .ok (.lload 4, 2) := by decide +kernel
theorem dX2_weighPeople_118 : decode cX2_weighPeople 118 = .ok (.lload 11, 2) := by decide +kernel
theorem dX2_weighPeople_120 : decode cX2_weighPeople 120 = .ok (.lload 9, 2) := by decide +kernel
theorem dX2_weighPeople_122 : decode cX2_weighPeople 122 = .ok (.lmul, 1) := by decide +kernel
theorem dX2_weighPeople_123 : decode cX2_weighPeople 123 = .ok (.lload 9, 2) := by decide +kernel
theorem dX2_weighPeople_125 : decode cX2_weighPeople 125 = .ok (.lmul, 1) := by decide +kernel
theorem dX2_weighPeople_126 : decode cX2_weighPeople 126 = .ok (.ladd, 1) := by decide +kernel
theorem dX2_weighPeople_127 : decode cX2_weighPeople 127 = .ok (.lstore 4, 2) := by decide +kernel
theorem dX2_weighPeople_129 : decode cX2_weighPeople 129 = .ok (.iinc 8 1, 3) := by decide +kernel
theorem dX2_weighPeople_132 : decode cX2_weighPeople 132 = .ok (.goto (-121), 3) := by decide +kernel
theorem dX2_weighPeople_135 : decode cX2_weighPeople 135 = .ok (.aload_n 0, 1) := by decide +kernel
theorem dX2_weighPeople_136 : decode cX2_weighPeople 136 = .ok (.getfield 9, 3) := by decide +kernel
theorem dX2_weighPeople_139 : decode cX2_weighPeople 139 = .ok (.getfield 54, 3) := by decide +kernel
theorem dX2_weighPeople_142 : decode cX2_weighPeople 142 = .ok (.i2l, 1) := by decide +kernel
theorem dX2_weighPeople_143 : decode cX2_weighPeople 143 = .ok (.lload 4, 2) := by decide +kernel
theorem dX2_weighPeople_145 : decode cX2_weighPeople 145 = .ok (.lmul, 1) := by decide +kernel
theorem dX2_weighPeople_146 : decode cX2_weighPeople 146 = .ok (.lload_n 2, 1) := by decide +kernel
theorem dX2_weighPeople_147 : decode cX2_weighPeople 147 = .ok (.lload_n 2, 1) := by decide +kernel
theorem dX2_weighPeople_148 : decode cX2_weighPeople 148 = .ok (.lmul, 1) := by decide +kernel
theorem dX2_weighPeople_149 : decode cX2_weighPeople 149 = .ok (.lsub, 1) := by decide +kernel
theorem dX2_weighPeople_150 : decode cX2_weighPeople 150 = .ok (.lstore 8, 2) := by decide +kernel
theorem dX2_weighPeople_152 : decode cX2_weighPeople 152 = .ok (.aload_n 0, 1) := by decide +kernel
theorem dX2_weighPeople_153 : decode cX2_weighPeople 153 = .ok (.getfield 15, 3) := by decide +kernel
theorem dX2_weighPeople_156 : decode cX2_weighPeople 156 = .ok (.lload 8, 2) := by decide +kernel
theorem dX2_weighPeople_158 : decode cX2_weighPeople 158 = .ok (.lload 8, 2) := by decide +kernel
theorem dX2_weighPeople_160 : decode cX2_weighPeople 160 = .ok (.aload_n 0, 1) := by decide +kernel
theorem dX2_weighPeople_161 : decode cX2_weighPeople 161 = .ok (.getfield 9, 3) := by decide +kernel
theorem dX2_weighPeople_164 : decode cX2_weighPeople 164 = .ok (.getfield 54, 3) := by decide +kernel
theorem dX2_weighPeople_167 : decode cX2_weighPeople 167 = .ok (.i2l, 1) := by decide +kernel
theorem dX2_weighPeople_168 : decode cX2_weighPeople 168 = .ok (.lload 6, 2) := by decide +kernel
theorem dX2_weighPeople_170 : decode cX2_weighPeople 170 = .ok (.lmul, 1) := by decide +kernel
theorem dX2_weighPeople_171 : decode cX2_weighPeople 171 = .ok (.ladd, 1) := by decide +kernel
theorem dX2_weighPeople_172 : decode cX2_weighPeople 172 = .ok (.invokevirtual 36, 3) := by decide +kernel
theorem dX2_weighPeople_175 : decode cX2_weighPeople 175 = .ok (.return_, 1) := by decide +kernel
theorem dX2_mostTelling_0 : decode cX2_mostTelling 0 = .ok (.bipush (-4), 2) := by decide +kernel
theorem dX2_mostTelling_2 : decode cX2_mostTelling 2 = .ok (.istore_n 1, 1) := by decide +kernel
theorem dX2_mostTelling_3 : decode cX2_mostTelling 3 = .ok (.lconst 0, 1) := by decide +kernel
theorem dX2_mostTelling_4 : decode cX2_mostTelling 4 = .ok (.lstore_n 2, 1) := by decide +kernel
theorem dX2_mostTelling_5 : decode cX2_mostTelling 5 = .ok (.lconst 1, 1) := by decide +kernel
theorem dX2_mostTelling_6 : decode cX2_mostTelling 6 = .ok (.lstore 4, 2) := by decide +kernel
theorem dX2_mostTelling_8 : decode cX2_mostTelling 8 = .ok (.iconst 0, 1) := by decide +kernel
theorem dX2_mostTelling_9 : decode cX2_mostTelling 9 = .ok (.istore 6, 2) := by decide +kernel
theorem dX2_mostTelling_11 : decode cX2_mostTelling 11 = .ok (.iload 6, 2) := by decide +kernel
theorem dX2_mostTelling_13 : decode cX2_mostTelling 13 = .ok (.aload_n 0, 1) := by decide +kernel
theorem dX2_mostTelling_14 : decode cX2_mostTelling 14 = .ok (.getfield 9, 3) := by decide +kernel
theorem dX2_mostTelling_17 : decode cX2_mostTelling 17 = .ok (.getfield 49, 3) := by decide +kernel
theorem dX2_mostTelling_20 : decode cX2_mostTelling 20 = .ok (.if_icmp .ge 66, 3) := by decide +kernel
theorem dX2_mostTelling_23 : decode cX2_mostTelling 23 = .ok (.aload_n 0, 1) := by decide +kernel
theorem dX2_mostTelling_24 : decode cX2_mostTelling 24 = .ok (.iload 6, 2) := by decide +kernel
theorem dX2_mostTelling_26 : decode cX2_mostTelling 26 = .ok (.invokevirtual 57, 3) := by decide +kernel
theorem dX2_mostTelling_29 : decode cX2_mostTelling 29 = .ok (.aload_n 0, 1) := by decide +kernel
theorem dX2_mostTelling_30 : decode cX2_mostTelling 30 = .ok (.getfield 15, 3) := by decide +kernel
theorem dX2_mostTelling_33 : decode cX2_mostTelling 33 = .ok (.getfield 61, 3) := by decide +kernel
theorem dX2_mostTelling_36 : decode cX2_mostTelling 36 = .ok (.lstore 7, 2) := by decide +kernel
theorem dX2_mostTelling_38 : decode cX2_mostTelling 38 = .ok (.lconst 1, 1) := by decide +kernel
theorem dX2_mostTelling_39 : decode cX2_mostTelling 39 = .ok (.aload_n 0, 1) := by decide +kernel
theorem dX2_mostTelling_40 : decode cX2_mostTelling 40 = .ok (.getfield 15, 3) := by decide +kernel
theorem dX2_mostTelling_43 : decode cX2_mostTelling 43 = .ok (.getfield 65, 3) := by decide +kernel
theorem dX2_mostTelling_46 : decode cX2_mostTelling 46 = .ok (.invokestatic 68, 3) := by decide +kernel
theorem dX2_mostTelling_49 : decode cX2_mostTelling 49 = .ok (.lstore 9, 2) := by decide +kernel
theorem dX2_mostTelling_51 : decode cX2_mostTelling 51 = .ok (.iload_n 1, 1) := by decide +kernel
theorem dX2_mostTelling_52 : decode cX2_mostTelling 52 = .ok (.bipush (-4), 2) := by decide +kernel
theorem dX2_mostTelling_54 : decode cX2_mostTelling 54 = .ok (.if_icmp .eq 16, 3) := by decide +kernel
theorem dX2_mostTelling_57 : decode cX2_mostTelling 57 = .ok (.lload 7, 2) := by decide +kernel
theorem dX2_mostTelling_59 : decode cX2_mostTelling 59 = .ok (.lload 4, 2) := by decide +kernel
theorem dX2_mostTelling_61 : decode cX2_mostTelling 61 = .ok (.lmul, 1) := by decide +kernel
theorem dX2_mostTelling_62 : decode cX2_mostTelling 62 = .ok (.lload_n 2, 1) := by decide +kernel
theorem dX2_mostTelling_63 : decode cX2_mostTelling 63 = .ok (.lload 9, 2) := by decide +kernel
theorem dX2_mostTelling_65 : decode cX2_mostTelling 65 = .ok (.lmul, 1) := by decide +kernel
theorem dX2_mostTelling_66 : decode cX2_mostTelling 66 = .ok (.lcmp, 1) := by decide +kernel
theorem dX2_mostTelling_67 : decode cX2_mostTelling 67 = .ok (.ifCond .ge 13, 3) := by decide +kernel
theorem dX2_mostTelling_70 : decode cX2_mostTelling 70 = .ok (.iload 6, 2) := by decide +kernel
theorem dX2_mostTelling_72 : decode cX2_mostTelling 72 = .ok (.istore_n 1, 1) := by decide +kernel
theorem dX2_mostTelling_73 : decode cX2_mostTelling 73 = .ok (.lload 7, 2) := by decide +kernel
theorem dX2_mostTelling_75 : decode cX2_mostTelling 75 = .ok (.lstore_n 2, 1) := by decide +kernel
theorem dX2_mostTelling_76 : decode cX2_mostTelling 76 = .ok (.lload 9, 2) := by decide +kernel
theorem dX2_mostTelling_78 : decode cX2_mostTelling 78 = .ok (.lstore 4, 2) := by decide +kernel
theorem dX2_mostTelling_80 : decode cX2_mostTelling 80 = .ok (.iinc 6 1, 3) := by decide +kernel
theorem dX2_mostTelling_83 : decode cX2_mostTelling 83 = .ok (.goto (-72), 3) := by decide +kernel
theorem dX2_mostTelling_86 : decode cX2_mostTelling 86 = .ok (.iload_n 1, 1) := by decide +kernel
theorem dX2_mostTelling_87 : decode cX2_mostTelling 87 = .ok (.ireturn, 1) := by decide +kernel
theorem dX3_init_0 : decode cX3_init 0 = .ok (.aload_n 0, 1) := by decide +kernel
theorem dX3_init_1 : decode cX3_init 1 = .ok (.invokespecial 3, 3) := by decide +kernel
theorem dX3_init_4 : decode cX3_init 4 = .ok (.return_, 1) := by decide +kernel
theorem dX3_set_0 : decode cX3_set 0 = .ok (.lload_n 1, 1) := by decide +kernel
theorem dX3_set_1 : decode cX3_set 1 = .ok (.lload_n 3, 1) := by decide +kernel
theorem dX3_set_2 : decode cX3_set 2 = .ok (.invokestatic 9, 3) := by decide +kernel
theorem dX3_set_5 : decode cX3_set 5 = .ok (.lstore 5, 2) := by decide +kernel
theorem dX3_set_7 : decode cX3_set 7 = .ok (.aload_n 0, 1) := by decide +kernel
theorem dX3_set_8 : decode cX3_set 8 = .ok (.lload 5, 2) := by decide +kernel
theorem dX3_set_10 : decode cX3_set 10 = .ok (.lconst 0, 1) := by decide +kernel
theorem dX3_set_11 : decode cX3_set 11 = .ok (.lcmp, 1) := by decide +kernel
theorem dX3_set_12 : decode cX3_set 12 = .ok (.ifCond .ne 7, 3) := by decide +kernel
theorem dX3_set_15 : decode cX3_set 15 = .ok (.lconst 0, 1) := by decide +kernel
theorem dX3_set_16 : decode cX3_set 16 = .ok (.goto 7, 3) := by decide +kernel
theorem dX3_set_19 : decode cX3_set 19 = .ok (.lload_n 1, 1) := by decide +kernel
theorem dX3_set_20 : decode cX3_set 20 = .ok (.lload 5, 2) := by decide +kernel
theorem dX3_set_22 : decode cX3_set 22 = .ok (.ldiv, 1) := by decide +kernel
theorem dX3_set_23 : decode cX3_set 23 = .ok (.putfield 15, 3) := by decide +kernel
theorem dX3_set_26 : decode cX3_set 26 = .ok (.aload_n 0, 1) := by decide +kernel
theorem dX3_set_27 : decode cX3_set 27 = .ok (.lload 5, 2) := by decide +kernel
theorem dX3_set_29 : decode cX3_set 29 = .ok (.lconst 0, 1) := by decide +kernel
theorem dX3_set_30 : decode cX3_set 30 = .ok (.lcmp, 1) := by decide +kernel
theorem dX3_set_31 : decode cX3_set 31 = .ok (.ifCond .ne 7, 3) := by decide +kernel
theorem dX3_set_34 : decode cX3_set 34 = .ok (.lconst 0, 1) := by decide +kernel
theorem dX3_set_35 : decode cX3_set 35 = .ok (.goto 7, 3) := by decide +kernel
theorem dX3_set_38 : decode cX3_set 38 = .ok (.lload_n 3, 1) := by decide +kernel
theorem dX3_set_39 : decode cX3_set 39 = .ok (.lload 5, 2) := by decide +kernel
theorem dX3_set_41 : decode cX3_set 41 = .ok (.ldiv, 1) := by decide +kernel
theorem dX3_set_42 : decode cX3_set 42 = .ok (.putfield 19, 3) := by decide +kernel
theorem dX3_set_45 : decode cX3_set 45 = .ok (.return_, 1) := by decide +kernel
theorem dX3_part_0 : decode cX3_part 0 = .ok (.aload_n 0, 1) := by decide +kernel
theorem dX3_part_1 : decode cX3_part 1 = .ok (.getfield 19, 3) := by decide +kernel
theorem dX3_part_4 : decode cX3_part 4 = .ok (.lconst 0, 1) := by decide +kernel
theorem dX3_part_5 : decode cX3_part 5 = .ok (.lcmp, 1) := by decide +kernel
theorem dX3_part_6 : decode cX3_part 6 = .ok (.ifCond .ne 7, 3) := by decide +kernel
theorem dX3_part_9 : decode cX3_part 9 = .ok (.ldc2_w 22, 3) := by decide +kernel
theorem dX3_part_12 : decode cX3_part 12 = .ok (.lreturn, 1) := by decide +kernel
theorem dX3_part_13 : decode cX3_part 13 = .ok (.iload_n 1, 1) := by decide +kernel
theorem dX3_part_14 : decode cX3_part 14 = .ok (.ifCond .ne 10, 3) := by decide +kernel
theorem dX3_part_17 : decode cX3_part 17 = .ok (.aload_n 0, 1) := by decide +kernel
theorem dX3_part_18 : decode cX3_part 18 = .ok (.getfield 15, 3) := by decide +kernel
theorem dX3_part_21 : decode cX3_part 21 = .ok (.goto 7, 3) := by decide +kernel
theorem dX3_part_24 : decode cX3_part 24 = .ok (.aload_n 0, 1) := by decide +kernel
theorem dX3_part_25 : decode cX3_part 25 = .ok (.getfield 19, 3) := by decide +kernel
theorem dX3_part_28 : decode cX3_part 28 = .ok (.lreturn, 1) := by decide +kernel
theorem dX3_commonDivisor_0 : decode cX3_commonDivisor 0 = .ok (.lload_n 0, 1) := by decide +kernel
theorem dX3_commonDivisor_1 : decode cX3_commonDivisor 1 = .ok (.lstore 4, 2) := by decide +kernel
theorem dX3_commonDivisor_3 : decode cX3_commonDivisor 3 = .ok (.lload_n 2, 1) := by decide +kernel
theorem dX3_commonDivisor_4 : decode cX3_commonDivisor 4 = .ok (.lstore 6, 2) := by decide +kernel
theorem dX3_commonDivisor_6 : decode cX3_commonDivisor 6 = .ok (.iconst 0, 1) := by decide +kernel
theorem dX3_commonDivisor_7 : decode cX3_commonDivisor 7 = .ok (.istore 8, 2) := by decide +kernel
theorem dX3_commonDivisor_9 : decode cX3_commonDivisor 9 = .ok (.iload 8, 2) := by decide +kernel
theorem dX3_commonDivisor_11 : decode cX3_commonDivisor 11 = .ok (.sipush 1000, 3) := by decide +kernel
theorem dX3_commonDivisor_14 : decode cX3_commonDivisor 14 = .ok (.if_icmp .ge 31, 3) := by decide +kernel
theorem dX3_commonDivisor_17 : decode cX3_commonDivisor 17 = .ok (.lload 6, 2) := by decide +kernel
theorem dX3_commonDivisor_19 : decode cX3_commonDivisor 19 = .ok (.lconst 0, 1) := by decide +kernel
theorem dX3_commonDivisor_20 : decode cX3_commonDivisor 20 = .ok (.lcmp, 1) := by decide +kernel
theorem dX3_commonDivisor_21 : decode cX3_commonDivisor 21 = .ok (.ifCond .eq 24, 3) := by decide +kernel
theorem dX3_commonDivisor_24 : decode cX3_commonDivisor 24 = .ok (.lload 4, 2) := by decide +kernel
theorem dX3_commonDivisor_26 : decode cX3_commonDivisor 26 = .ok (.lload 6, 2) := by decide +kernel
theorem dX3_commonDivisor_28 : decode cX3_commonDivisor 28 = .ok (.lrem, 1) := by decide +kernel
theorem dX3_commonDivisor_29 : decode cX3_commonDivisor 29 = .ok (.lstore 9, 2) := by decide +kernel
theorem dX3_commonDivisor_31 : decode cX3_commonDivisor 31 = .ok (.lload 6, 2) := by decide +kernel
theorem dX3_commonDivisor_33 : decode cX3_commonDivisor 33 = .ok (.lstore 4, 2) := by decide +kernel
theorem dX3_commonDivisor_35 : decode cX3_commonDivisor 35 = .ok (.lload 9, 2) := by decide +kernel
theorem dX3_commonDivisor_37 : decode cX3_commonDivisor 37 = .ok (.lstore 6, 2) := by decide +kernel
theorem dX3_commonDivisor_39 : decode cX3_commonDivisor 39 = .ok (.iinc 8 1, 3) := by decide +kernel
theorem dX3_commonDivisor_42 : decode cX3_commonDivisor 42 = .ok (.goto (-33), 3) := by decide +kernel
theorem dX3_commonDivisor_45 : decode cX3_commonDivisor 45 = .ok (.lload 4, 2) := by decide +kernel
theorem dX3_commonDivisor_47 : decode cX3_commonDivisor 47 = .ok (.lreturn, 1) := by decide +kernel
theorem dX4_init_0 : decode cX4_init 0 = .ok (.aload_n 0, 1) := by decide +kernel
theorem dX4_init_1 : decode cX4_init 1 = .ok (.invokespecial 3, 3) := by decide +kernel
theorem dX4_init_4 : decode cX4_init 4 = .ok (.aload_n 0, 1) := by decide +kernel
theorem dX4_init_5 : decode cX4_init 5 = .ok (.bipush 6, 2) := by decide +kernel
theorem dX4_init_7 : decode cX4_init 7 = .ok (.newarray .int, 2) := by decide +kernel
theorem dX4_init_9 : decode cX4_init 9 = .ok (.putfield 9, 3) := by decide +kernel
theorem dX4_init_12 : decode cX4_init 12 = .ok (.aload_n 0, 1) := by decide +kernel
theorem dX4_init_13 : decode cX4_init 13 = .ok (.bipush 6, 2) := by decide +kernel
theorem dX4_init_15 : decode cX4_init 15 = .ok (.newarray .int, 2) := by decide +kernel
theorem dX4_init_17 : decode cX4_init 17 = .ok (.putfield 15, 3) := by decide +kernel
theorem dX4_init_20 : decode cX4_init 20 = .ok (.aload_n 0, 1) := by decide +kernel
theorem dX4_init_21 : decode cX4_init 21 = .ok (.bipush 6, 2) := by decide +kernel
theorem dX4_init_23 : decode cX4_init 23 = .ok (.newarray .int, 2) := by decide +kernel
theorem dX4_init_25 : decode cX4_init 25 = .ok (.putfield 18, 3) := by decide +kernel
theorem dX4_init_28 : decode cX4_init 28 = .ok (.aload_n 0, 1) := by decide +kernel
theorem dX4_init_29 : decode cX4_init 29 = .ok (.bipush 6, 2) := by decide +kernel
theorem dX4_init_31 : decode cX4_init 31 = .ok (.newarray .int, 2) := by decide +kernel
theorem dX4_init_33 : decode cX4_init 33 = .ok (.putfield 21, 3) := by decide +kernel
theorem dX4_init_36 : decode cX4_init 36 = .ok (.aload_n 0, 1) := by decide +kernel
theorem dX4_init_37 : decode cX4_init 37 = .ok (.bipush 6, 2) := by decide +kernel
theorem dX4_init_39 : decode cX4_init 39 = .ok (.newarray .int, 2) := by decide +kernel
theorem dX4_init_41 : decode cX4_init 41 = .ok (.putfield 24, 3) := by decide +kernel
theorem dX4_init_44 : decode cX4_init 44 = .ok (.aload_n 0, 1) := by decide +kernel
theorem dX4_init_45 : decode cX4_init 45 = .ok (.bipush 6, 2) := by decide +kernel
theorem dX4_init_47 : decode cX4_init 47 = .ok (.newarray .int, 2) := by decide +kernel
theorem dX4_init_49 : decode cX4_init 49 = .ok (.putfield 27, 3) := by decide +kernel
theorem dX4_init_52 : decode cX4_init 52 = .ok (.aload_n 0, 1) := by decide +kernel
theorem dX4_init_53 : decode cX4_init 53 = .ok (.bipush 6, 2) := by decide +kernel
theorem dX4_init_55 : decode cX4_init 55 = .ok (.newarray .int, 2) := by decide +kernel
theorem dX4_init_57 : decode cX4_init 57 = .ok (.putfield 30, 3) := by decide +kernel
theorem dX4_init_60 : decode cX4_init 60 = .ok (.aload_n 0, 1) := by decide +kernel
theorem dX4_init_61 : decode cX4_init 61 = .ok (.bipush 6, 2) := by decide +kernel
theorem dX4_init_63 : decode cX4_init 63 = .ok (.newarray .int, 2) := by decide +kernel
theorem dX4_init_65 : decode cX4_init 65 = .ok (.putfield 33, 3) := by decide +kernel
theorem dX4_init_68 : decode cX4_init 68 = .ok (.aload_n 0, 1) := by decide +kernel
theorem dX4_init_69 : decode cX4_init 69 = .ok (.invokevirtual 36, 3) := by decide +kernel
theorem dX4_init_72 : decode cX4_init 72 = .ok (.return_, 1) := by decide +kernel
theorem dX4_clear_0 : decode cX4_clear 0 = .ok (.aload_n 0, 1) := by decide +kernel
theorem dX4_clear_1 : decode cX4_clear 1 = .ok (.iconst 0, 1) := by decide +kernel
theorem dX4_clear_2 : decode cX4_clear 2 = .ok (.putfield 39, 3) := by decide +kernel
theorem dX4_clear_5 : decode cX4_clear 5 = .ok (.aload_n 0, 1) := by decide +kernel
theorem dX4_clear_6 : decode cX4_clear 6 = .ok (.iconst 0, 1) := by decide +kernel
theorem dX4_clear_7 : decode cX4_clear 7 = .ok (.putfield 43, 3) := by decide +kernel
theorem dX4_clear_10 : decode cX4_clear 10 = .ok (.aload_n 0, 1) := by decide +kernel
theorem dX4_clear_11 : decode cX4_clear 11 = .ok (.iconst 0, 1) := by decide +kernel
theorem dX4_clear_12 : decode cX4_clear 12 = .ok (.putfield 46, 3) := by decide +kernel
theorem dX4_clear_15 : decode cX4_clear 15 = .ok (.aload_n 0, 1) := by decide +kernel
theorem dX4_clear_16 : decode cX4_clear 16 = .ok (.iconst 1, 1) := by decide +kernel
theorem dX4_clear_17 : decode cX4_clear 17 = .ok (.putfield 49, 3) := by decide +kernel
theorem dX4_clear_20 : decode cX4_clear 20 = .ok (.aload_n 0, 1) := by decide +kernel
theorem dX4_clear_21 : decode cX4_clear 21 = .ok (.bipush 50, 2) := by decide +kernel
theorem dX4_clear_23 : decode cX4_clear 23 = .ok (.iconst 2, 1) := by decide +kernel
theorem dX4_clear_24 : decode cX4_clear 24 = .ok (.invokevirtual 52, 3) := by decide +kernel
theorem dX4_clear_27 : decode cX4_clear 27 = .ok (.pop, 1) := by decide +kernel
theorem dX4_clear_28 : decode cX4_clear 28 = .ok (.return_, 1) := by decide +kernel
theorem dX4_copy_0 : decode cX4_copy 0 = .ok (.aload_n 0, 1) := by decide +kernel
theorem dX4_copy_1 : decode cX4_copy 1 = .ok (.getfield 9, 3) := by decide +kernel
theorem dX4_copy_4 : decode cX4_copy 4 = .ok (.aload_n 1, 1) := by decide +kernel
theorem dX4_copy_5 : decode cX4_copy 5 = .ok (.getfield 9, 3) := by decide +kernel
theorem dX4_copy_8 : decode cX4_copy 8 = .ok (.invokestatic 56, 3) := by decide +kernel
theorem dX4_copy_11 : decode cX4_copy 11 = .ok (.aload_n 0, 1) := by decide +kernel
theorem dX4_copy_12 : decode cX4_copy 12 = .ok (.getfield 15, 3) := by decide +kernel
theorem dX4_copy_15 : decode cX4_copy 15 = .ok (.aload_n 1, 1) := by decide +kernel
theorem dX4_copy_16 : decode cX4_copy 16 = .ok (.getfield 15, 3) := by decide +kernel
theorem dX4_copy_19 : decode cX4_copy 19 = .ok (.invokestatic 56, 3) := by decide +kernel
theorem dX4_copy_22 : decode cX4_copy 22 = .ok (.aload_n 0, 1) := by decide +kernel
theorem dX4_copy_23 : decode cX4_copy 23 = .ok (.getfield 18, 3) := by decide +kernel
theorem dX4_copy_26 : decode cX4_copy 26 = .ok (.aload_n 1, 1) := by decide +kernel
theorem dX4_copy_27 : decode cX4_copy 27 = .ok (.getfield 18, 3) := by decide +kernel
theorem dX4_copy_30 : decode cX4_copy 30 = .ok (.invokestatic 56, 3) := by decide +kernel
theorem dX4_copy_33 : decode cX4_copy 33 = .ok (.aload_n 0, 1) := by decide +kernel
theorem dX4_copy_34 : decode cX4_copy 34 = .ok (.getfield 21, 3) := by decide +kernel
theorem dX4_copy_37 : decode cX4_copy 37 = .ok (.aload_n 1, 1) := by decide +kernel
theorem dX4_copy_38 : decode cX4_copy 38 = .ok (.getfield 21, 3) := by decide +kernel
theorem dX4_copy_41 : decode cX4_copy 41 = .ok (.invokestatic 56, 3) := by decide +kernel
theorem dX4_copy_44 : decode cX4_copy 44 = .ok (.aload_n 0, 1) := by decide +kernel
theorem dX4_copy_45 : decode cX4_copy 45 = .ok (.getfield 24, 3) := by decide +kernel
theorem dX4_copy_48 : decode cX4_copy 48 = .ok (.aload_n 1, 1) := by decide +kernel
theorem dX4_copy_49 : decode cX4_copy 49 = .ok (.getfield 24, 3) := by decide +kernel
theorem dX4_copy_52 : decode cX4_copy 52 = .ok (.invokestatic 56, 3) := by decide +kernel
theorem dX4_copy_55 : decode cX4_copy 55 = .ok (.aload_n 0, 1) := by decide +kernel
theorem dX4_copy_56 : decode cX4_copy 56 = .ok (.getfield 27, 3) := by decide +kernel
theorem dX4_copy_59 : decode cX4_copy 59 = .ok (.aload_n 1, 1) := by decide +kernel
theorem dX4_copy_60 : decode cX4_copy 60 = .ok (.getfield 27, 3) := by decide +kernel
theorem dX4_copy_63 : decode cX4_copy 63 = .ok (.invokestatic 56, 3) := by decide +kernel
theorem dX4_copy_66 : decode cX4_copy 66 = .ok (.aload_n 0, 1) := by decide +kernel
theorem dX4_copy_67 : decode cX4_copy 67 = .ok (.getfield 30, 3) := by decide +kernel
theorem dX4_copy_70 : decode cX4_copy 70 = .ok (.aload_n 1, 1) := by decide +kernel
theorem dX4_copy_71 : decode cX4_copy 71 = .ok (.getfield 30, 3) := by decide +kernel
theorem dX4_copy_74 : decode cX4_copy 74 = .ok (.invokestatic 56, 3) := by decide +kernel
theorem dX4_copy_77 : decode cX4_copy 77 = .ok (.aload_n 0, 1) := by decide +kernel
theorem dX4_copy_78 : decode cX4_copy 78 = .ok (.getfield 33, 3) := by decide +kernel
theorem dX4_copy_81 : decode cX4_copy 81 = .ok (.aload_n 1, 1) := by decide +kernel
theorem dX4_copy_82 : decode cX4_copy 82 = .ok (.getfield 33, 3) := by decide +kernel
theorem dX4_copy_85 : decode cX4_copy 85 = .ok (.invokestatic 56, 3) := by decide +kernel
theorem dX4_copy_88 : decode cX4_copy 88 = .ok (.aload_n 0, 1) := by decide +kernel
theorem dX4_copy_89 : decode cX4_copy 89 = .ok (.aload_n 1, 1) := by decide +kernel
theorem dX4_copy_90 : decode cX4_copy 90 = .ok (.getfield 39, 3) := by decide +kernel
theorem dX4_copy_93 : decode cX4_copy 93 = .ok (.putfield 39, 3) := by decide +kernel
theorem dX4_copy_96 : decode cX4_copy 96 = .ok (.aload_n 0, 1) := by decide +kernel
theorem dX4_copy_97 : decode cX4_copy 97 = .ok (.aload_n 1, 1) := by decide +kernel
theorem dX4_copy_98 : decode cX4_copy 98 = .ok (.getfield 43, 3) := by decide +kernel
theorem dX4_copy_101 : decode cX4_copy 101 = .ok (.putfield 43, 3) := by decide +kernel
theorem dX4_copy_104 : decode cX4_copy 104 = .ok (.aload_n 0, 1) := by decide +kernel
theorem dX4_copy_105 : decode cX4_copy 105 = .ok (.aload_n 1, 1) := by decide +kernel
theorem dX4_copy_106 : decode cX4_copy 106 = .ok (.getfield 46, 3) := by decide +kernel
theorem dX4_copy_109 : decode cX4_copy 109 = .ok (.putfield 46, 3) := by decide +kernel
theorem dX4_copy_112 : decode cX4_copy 112 = .ok (.aload_n 0, 1) := by decide +kernel
theorem dX4_copy_113 : decode cX4_copy 113 = .ok (.aload_n 1, 1) := by decide +kernel
theorem dX4_copy_114 : decode cX4_copy 114 = .ok (.getfield 49, 3) := by decide +kernel
theorem dX4_copy_117 : decode cX4_copy 117 = .ok (.putfield 49, 3) := by decide +kernel
theorem dX4_copy_120 : decode cX4_copy 120 = .ok (.aload_n 0, 1) := by decide +kernel
theorem dX4_copy_121 : decode cX4_copy 121 = .ok (.aload_n 1, 1) := by decide +kernel
theorem dX4_copy_122 : decode cX4_copy 122 = .ok (.getfield 60, 3) := by decide +kernel
theorem dX4_copy_125 : decode cX4_copy 125 = .ok (.aload_n 1, 1) := by decide +kernel
theorem dX4_copy_126 : decode cX4_copy 126 = .ok (.getfield 63, 3) := by decide +kernel
theorem dX4_copy_129 : decode cX4_copy 129 = .ok (.invokevirtual 52, 3) := by decide +kernel
theorem dX4_copy_132 : decode cX4_copy 132 = .ok (.pop, 1) := by decide +kernel
theorem dX4_copy_133 : decode cX4_copy 133 = .ok (.return_, 1) := by decide +kernel
theorem dX4_addSort_0 : decode cX4_addSort 0 = .ok (.aload_n 0, 1) := by decide +kernel
theorem dX4_addSort_1 : decode cX4_addSort 1 = .ok (.getfield 39, 3) := by decide +kernel
theorem dX4_addSort_4 : decode cX4_addSort 4 = .ok (.bipush 6, 2) := by decide +kernel
theorem dX4_addSort_6 : decode cX4_addSort 6 = .ok (.if_icmp .eq 55, 3) := by decide +kernel
theorem dX4_addSort_9 : decode cX4_addSort 9 = .ok (.iload_n 1, 1) := by decide +kernel
theorem dX4_addSort_10 : decode cX4_addSort 10 = .ok (.iconst 1, 1) := by decide +kernel
theorem dX4_addSort_11 : decode cX4_addSort 11 = .ok (.bipush 60, 2) := by decide +kernel
theorem dX4_addSort_13 : decode cX4_addSort 13 = .ok (.invokestatic 66, 3) := by decide +kernel
theorem dX4_addSort_16 : decode cX4_addSort 16 = .ok (.ifCond .eq 45, 3) := by decide +kernel
theorem dX4_addSort_19 : decode cX4_addSort 19 = .ok (.aload_n 0, 1) := by decide +kernel
theorem dX4_addSort_20 : decode cX4_addSort 20 = .ok (.getfield 46, 3) := by decide +kernel
theorem dX4_addSort_23 : decode cX4_addSort 23 = .ok (.iload_n 1, 1) := by decide +kernel
theorem dX4_addSort_24 : decode cX4_addSort 24 = .ok (.iadd, 1) := by decide +kernel
theorem dX4_addSort_25 : decode cX4_addSort 25 = .ok (.bipush 120, 2) := by decide +kernel
theorem dX4_addSort_27 : decode cX4_addSort 27 = .ok (.if_icmp .gt 34, 3) := by decide +kernel
theorem dX4_addSort_30 : decode cX4_addSort 30 = .ok (.iload_n 2, 1) := by decide +kernel
theorem dX4_addSort_31 : decode cX4_addSort 31 = .ok (.iconst 0, 1) := by decide +kernel
theorem dX4_addSort_32 : decode cX4_addSort 32 = .ok (.bipush 10, 2) := by decide +kernel
theorem dX4_addSort_34 : decode cX4_addSort 34 = .ok (.invokestatic 66, 3) := by decide +kernel
theorem dX4_addSort_37 : decode cX4_addSort 37 = .ok (.ifCond .eq 24, 3) := by decide +kernel
theorem dX4_addSort_40 : decode cX4_addSort 40 = .ok (.iload_n 3, 1) := by decide +kernel
theorem dX4_addSort_41 : decode cX4_addSort 41 = .ok (.iconst 0, 1) := by decide +kernel
theorem dX4_addSort_42 : decode cX4_addSort 42 = .ok (.bipush 10, 2) := by decide +kernel
theorem dX4_addSort_44 : decode cX4_addSort 44 = .ok (.invokestatic 66, 3) := by decide +kernel
theorem dX4_addSort_47 : decode cX4_addSort 47 = .ok (.ifCond .eq 14, 3) := by decide +kernel
theorem dX4_addSort_50 : decode cX4_addSort 50 = .ok (.iload 4, 2) := by decide +kernel
theorem dX4_addSort_52 : decode cX4_addSort 52 = .ok (.iconst 0, 1) := by decide +kernel
theorem dX4_addSort_53 : decode cX4_addSort 53 = .ok (.bipush 10, 2) := by decide +kernel
theorem dX4_addSort_55 : decode cX4_addSort 55 = .ok (.invokestatic 66, 3) := by decide +kernel
theorem dX4_addSort_58 : decode cX4_addSort 58 = .ok (.ifCond .ne 5, 3) := by decide +kernel
theorem dX4_addSort_61 : decode cX4_addSort 61 = .ok (.iconst 0, 1) := by decide +kernel
theorem dX4_addSort_62 : decode cX4_addSort 62 = .ok (.ireturn, 1) := by decide +kernel
theorem dX4_addSort_63 : decode cX4_addSort 63 = .ok (.aload_n 0, 1) := by decide +kernel
theorem dX4_addSort_64 : decode cX4_addSort 64 = .ok (.getfield 9, 3) := by decide +kernel
theorem dX4_addSort_67 : decode cX4_addSort 67 = .ok (.aload_n 0, 1) := by decide +kernel
theorem dX4_addSort_68 : decode cX4_addSort 68 = .ok (.getfield 39, 3) := by decide +kernel
theorem dX4_addSort_71 : decode cX4_addSort 71 = .ok (.iload_n 1, 1) := by decide +kernel
theorem dX4_addSort_72 : decode cX4_addSort 72 = .ok (.invokestatic 70, 3) := by decide +kernel
theorem dX4_addSort_75 : decode cX4_addSort 75 = .ok (.aload_n 0, 1) := by decide +kernel
theorem dX4_addSort_76 : decode cX4_addSort 76 = .ok (.getfield 15, 3) := by decide +kernel
theorem dX4_addSort_79 : decode cX4_addSort 79 = .ok (.aload_n 0, 1) := by decide +kernel
theorem dX4_addSort_80 : decode cX4_addSort 80 = .ok (.getfield 39, 3) := by decide +kernel
theorem dX4_addSort_83 : decode cX4_addSort 83 = .ok (.iload_n 2, 1) := by decide +kernel
theorem dX4_addSort_84 : decode cX4_addSort 84 = .ok (.invokestatic 70, 3) := by decide +kernel
theorem dX4_addSort_87 : decode cX4_addSort 87 = .ok (.aload_n 0, 1) := by decide +kernel
theorem dX4_addSort_88 : decode cX4_addSort 88 = .ok (.getfield 18, 3) := by decide +kernel
theorem dX4_addSort_91 : decode cX4_addSort 91 = .ok (.aload_n 0, 1) := by decide +kernel
theorem dX4_addSort_92 : decode cX4_addSort 92 = .ok (.getfield 39, 3) := by decide +kernel
theorem dX4_addSort_95 : decode cX4_addSort 95 = .ok (.iload_n 3, 1) := by decide +kernel
theorem dX4_addSort_96 : decode cX4_addSort 96 = .ok (.invokestatic 70, 3) := by decide +kernel
theorem dX4_addSort_99 : decode cX4_addSort 99 = .ok (.aload_n 0, 1) := by decide +kernel
theorem dX4_addSort_100 : decode cX4_addSort 100 = .ok (.getfield 21, 3) := by decide +kernel
theorem dX4_addSort_103 : decode cX4_addSort 103 = .ok (.aload_n 0, 1) := by decide +kernel
theorem dX4_addSort_104 : decode cX4_addSort 104 = .ok (.getfield 39, 3) := by decide +kernel
theorem dX4_addSort_107 : decode cX4_addSort 107 = .ok (.iload 4, 2) := by decide +kernel
theorem dX4_addSort_109 : decode cX4_addSort 109 = .ok (.invokestatic 70, 3) := by decide +kernel
theorem dX4_addSort_112 : decode cX4_addSort 112 = .ok (.aload_n 0, 1) := by decide +kernel
theorem dX4_addSort_113 : decode cX4_addSort 113 = .ok (.dup, 1) := by decide +kernel
theorem dX4_addSort_114 : decode cX4_addSort 114 = .ok (.getfield 39, 3) := by decide +kernel
theorem dX4_addSort_117 : decode cX4_addSort 117 = .ok (.iconst 1, 1) := by decide +kernel
theorem dX4_addSort_118 : decode cX4_addSort 118 = .ok (.iadd, 1) := by decide +kernel
theorem dX4_addSort_119 : decode cX4_addSort 119 = .ok (.putfield 39, 3) := by decide +kernel
theorem dX4_addSort_122 : decode cX4_addSort 122 = .ok (.aload_n 0, 1) := by decide +kernel
theorem dX4_addSort_123 : decode cX4_addSort 123 = .ok (.dup, 1) := by decide +kernel
theorem dX4_addSort_124 : decode cX4_addSort 124 = .ok (.getfield 46, 3) := by decide +kernel
theorem dX4_addSort_127 : decode cX4_addSort 127 = .ok (.iload_n 1, 1) := by decide +kernel
theorem dX4_addSort_128 : decode cX4_addSort 128 = .ok (.iadd, 1) := by decide +kernel
theorem dX4_addSort_129 : decode cX4_addSort 129 = .ok (.putfield 46, 3) := by decide +kernel
theorem dX4_addSort_132 : decode cX4_addSort 132 = .ok (.iconst 1, 1) := by decide +kernel
theorem dX4_addSort_133 : decode cX4_addSort 133 = .ok (.ireturn, 1) := by decide +kernel
theorem dX4_addAsk_0 : decode cX4_addAsk 0 = .ok (.aload_n 0, 1) := by decide +kernel
theorem dX4_addAsk_1 : decode cX4_addAsk 1 = .ok (.getfield 43, 3) := by decide +kernel
theorem dX4_addAsk_4 : decode cX4_addAsk 4 = .ok (.bipush 6, 2) := by decide +kernel
theorem dX4_addAsk_6 : decode cX4_addAsk 6 = .ok (.if_icmp .eq 44, 3) := by decide +kernel
theorem dX4_addAsk_9 : decode cX4_addAsk 9 = .ok (.iload 4, 2) := by decide +kernel
theorem dX4_addAsk_11 : decode cX4_addAsk 11 = .ok (.iconst 1, 1) := by decide +kernel
theorem dX4_addAsk_12 : decode cX4_addAsk 12 = .ok (.bipush 30, 2) := by decide +kernel
theorem dX4_addAsk_14 : decode cX4_addAsk 14 = .ok (.invokestatic 66, 3) := by decide +kernel
theorem dX4_addAsk_17 : decode cX4_addAsk 17 = .ok (.ifCond .eq 33, 3) := by decide +kernel
theorem dX4_addAsk_20 : decode cX4_addAsk 20 = .ok (.iload_n 1, 1) := by decide +kernel
theorem dX4_addAsk_21 : decode cX4_addAsk 21 = .ok (.iconst 0, 1) := by decide +kernel
theorem dX4_addAsk_22 : decode cX4_addAsk 22 = .ok (.bipush 10, 2) := by decide +kernel
theorem dX4_addAsk_24 : decode cX4_addAsk 24 = .ok (.invokestatic 66, 3) := by decide +kernel
theorem dX4_addAsk_27 : decode cX4_addAsk 27 = .ok (.ifCond .eq 23, 3) := by decide +kernel
theorem dX4_addAsk_30 : decode cX4_addAsk 30 = .ok (.iload_n 2, 1) := by decide +kernel
theorem dX4_addAsk_31 : decode cX4_addAsk 31 = .ok (.iconst 0, 1) := by decide +kernel
theorem dX4_addAsk_32 : decode cX4_addAsk 32 = .ok (.bipush 10, 2) := by decide +kernel
theorem dX4_addAsk_34 : decode cX4_addAsk 34 = .ok (.invokestatic 66, 3) := by decide +kernel
theorem dX4_addAsk_37 : decode cX4_addAsk 37 = .ok (.ifCond .eq 13, 3) := by decide +kernel
theorem dX4_addAsk_40 : decode cX4_addAsk 40 = .ok (.iload_n 3, 1) := by decide +kernel
theorem dX4_addAsk_41 : decode cX4_addAsk 41 = .ok (.iconst 0, 1) := by decide +kernel
theorem dX4_addAsk_42 : decode cX4_addAsk 42 = .ok (.bipush 10, 2) := by decide +kernel
theorem dX4_addAsk_44 : decode cX4_addAsk 44 = .ok (.invokestatic 66, 3) := by decide +kernel
theorem dX4_addAsk_47 : decode cX4_addAsk 47 = .ok (.ifCond .ne 5, 3) := by decide +kernel
theorem dX4_addAsk_50 : decode cX4_addAsk 50 = .ok (.iconst 0, 1) := by decide +kernel
theorem dX4_addAsk_51 : decode cX4_addAsk 51 = .ok (.ireturn, 1) := by decide +kernel
theorem dX4_addAsk_52 : decode cX4_addAsk 52 = .ok (.aload_n 0, 1) := by decide +kernel
theorem dX4_addAsk_53 : decode cX4_addAsk 53 = .ok (.getfield 24, 3) := by decide +kernel
theorem dX4_addAsk_56 : decode cX4_addAsk 56 = .ok (.aload_n 0, 1) := by decide +kernel
theorem dX4_addAsk_57 : decode cX4_addAsk 57 = .ok (.getfield 43, 3) := by decide +kernel
theorem dX4_addAsk_60 : decode cX4_addAsk 60 = .ok (.iload_n 1, 1) := by decide +kernel
theorem dX4_addAsk_61 : decode cX4_addAsk 61 = .ok (.invokestatic 70, 3) := by decide +kernel
theorem dX4_addAsk_64 : decode cX4_addAsk 64 = .ok (.aload_n 0, 1) := by decide +kernel
theorem dX4_addAsk_65 : decode cX4_addAsk 65 = .ok (.getfield 27, 3) := by decide +kernel
theorem dX4_addAsk_68 : decode cX4_addAsk 68 = .ok (.aload_n 0, 1) := by decide +kernel
theorem dX4_addAsk_69 : decode cX4_addAsk 69 = .ok (.getfield 43, 3) := by decide +kernel
theorem dX4_addAsk_72 : decode cX4_addAsk 72 = .ok (.iload_n 2, 1) := by decide +kernel
theorem dX4_addAsk_73 : decode cX4_addAsk 73 = .ok (.invokestatic 70, 3) := by decide +kernel
theorem dX4_addAsk_76 : decode cX4_addAsk 76 = .ok (.aload_n 0, 1) := by decide +kernel
theorem dX4_addAsk_77 : decode cX4_addAsk 77 = .ok (.getfield 30, 3) := by decide +kernel
theorem dX4_addAsk_80 : decode cX4_addAsk 80 = .ok (.aload_n 0, 1) := by decide +kernel
theorem dX4_addAsk_81 : decode cX4_addAsk 81 = .ok (.getfield 43, 3) := by decide +kernel
theorem dX4_addAsk_84 : decode cX4_addAsk 84 = .ok (.iload_n 3, 1) := by decide +kernel
theorem dX4_addAsk_85 : decode cX4_addAsk 85 = .ok (.invokestatic 70, 3) := by decide +kernel
theorem dX4_addAsk_88 : decode cX4_addAsk 88 = .ok (.aload_n 0, 1) := by decide +kernel
theorem dX4_addAsk_89 : decode cX4_addAsk 89 = .ok (.getfield 33, 3) := by decide +kernel
theorem dX4_addAsk_92 : decode cX4_addAsk 92 = .ok (.aload_n 0, 1) := by decide +kernel
theorem dX4_addAsk_93 : decode cX4_addAsk 93 = .ok (.getfield 43, 3) := by decide +kernel
theorem dX4_addAsk_96 : decode cX4_addAsk 96 = .ok (.iload 4, 2) := by decide +kernel
theorem dX4_addAsk_98 : decode cX4_addAsk 98 = .ok (.invokestatic 70, 3) := by decide +kernel
theorem dX4_addAsk_101 : decode cX4_addAsk 101 = .ok (.aload_n 0, 1) := by decide +kernel
theorem dX4_addAsk_102 : decode cX4_addAsk 102 = .ok (.dup, 1) := by decide +kernel
theorem dX4_addAsk_103 : decode cX4_addAsk 103 = .ok (.getfield 43, 3) := by decide +kernel
theorem dX4_addAsk_106 : decode cX4_addAsk 106 = .ok (.iconst 1, 1) := by decide +kernel
theorem dX4_addAsk_107 : decode cX4_addAsk 107 = .ok (.iadd, 1) := by decide +kernel
theorem dX4_addAsk_108 : decode cX4_addAsk 108 = .ok (.putfield 43, 3) := by decide +kernel
theorem dX4_addAsk_111 : decode cX4_addAsk 111 = .ok (.iconst 1, 1) := by decide +kernel
theorem dX4_addAsk_112 : decode cX4_addAsk 112 = .ok (.ireturn, 1) := by decide +kernel
theorem dX4_setMan_0 : decode cX4_setMan 0 = .ok (.iload_n 1, 1) := by decide +kernel
theorem dX4_setMan_1 : decode cX4_setMan 1 = .ok (.iconst 0, 1) := by decide +kernel
theorem dX4_setMan_2 : decode cX4_setMan 2 = .ok (.bipush 10, 2) := by decide +kernel
theorem dX4_setMan_4 : decode cX4_setMan 4 = .ok (.invokestatic 66, 3) := by decide +kernel
theorem dX4_setMan_7 : decode cX4_setMan 7 = .ok (.ifCond .ne 5, 3) := by decide +kernel
theorem dX4_setMan_10 : decode cX4_setMan 10 = .ok (.iconst 0, 1) := by decide +kernel
theorem dX4_setMan_11 : decode cX4_setMan 11 = .ok (.ireturn, 1) := by decide +kernel
theorem dX4_setMan_12 : decode cX4_setMan 12 = .ok (.aload_n 0, 1) := by decide +kernel
theorem dX4_setMan_13 : decode cX4_setMan 13 = .ok (.iload_n 1, 1) := by decide +kernel
theorem dX4_setMan_14 : decode cX4_setMan 14 = .ok (.putfield 49, 3) := by decide +kernel
theorem dX4_setMan_17 : decode cX4_setMan 17 = .ok (.iconst 1, 1) := by decide +kernel
theorem dX4_setMan_18 : decode cX4_setMan 18 = .ok (.ireturn, 1) := by decide +kernel
theorem dX4_setPain_0 : decode cX4_setPain 0 = .ok (.iload_n 1, 1) := by decide +kernel
theorem dX4_setPain_1 : decode cX4_setPain 1 = .ok (.iconst 0, 1) := by decide +kernel
theorem dX4_setPain_2 : decode cX4_setPain 2 = .ok (.bipush 99, 2) := by decide +kernel
theorem dX4_setPain_4 : decode cX4_setPain 4 = .ok (.invokestatic 66, 3) := by decide +kernel
theorem dX4_setPain_7 : decode cX4_setPain 7 = .ok (.ifCond .eq 13, 3) := by decide +kernel
theorem dX4_setPain_10 : decode cX4_setPain 10 = .ok (.iload_n 2, 1) := by decide +kernel
theorem dX4_setPain_11 : decode cX4_setPain 11 = .ok (.iconst 0, 1) := by decide +kernel
theorem dX4_setPain_12 : decode cX4_setPain 12 = .ok (.bipush 10, 2) := by decide +kernel
theorem dX4_setPain_14 : decode cX4_setPain 14 = .ok (.invokestatic 66, 3) := by decide +kernel
theorem dX4_setPain_17 : decode cX4_setPain 17 = .ok (.ifCond .ne 5, 3) := by decide +kernel
theorem dX4_setPain_20 : decode cX4_setPain 20 = .ok (.iconst 0, 1) := by decide +kernel
theorem dX4_setPain_21 : decode cX4_setPain 21 = .ok (.ireturn, 1) := by decide +kernel
theorem dX4_setPain_22 : decode cX4_setPain 22 = .ok (.aload_n 0, 1) := by decide +kernel
theorem dX4_setPain_23 : decode cX4_setPain 23 = .ok (.iload_n 1, 1) := by decide +kernel
theorem dX4_setPain_24 : decode cX4_setPain 24 = .ok (.putfield 60, 3) := by decide +kernel
theorem dX4_setPain_27 : decode cX4_setPain 27 = .ok (.aload_n 0, 1) := by decide +kernel
theorem dX4_setPain_28 : decode cX4_setPain 28 = .ok (.iload_n 2, 1) := by decide +kernel
theorem dX4_setPain_29 : decode cX4_setPain 29 = .ok (.putfield 63, 3) := by decide +kernel
theorem dX4_setPain_32 : decode cX4_setPain 32 = .ok (.iconst 1, 1) := by decide +kernel
theorem dX4_setPain_33 : decode cX4_setPain 33 = .ok (.ireturn, 1) := by decide +kernel
theorem dX4_hasSort_0 : decode cX4_hasSort 0 = .ok (.iload_n 1, 1) := by decide +kernel
theorem dX4_hasSort_1 : decode cX4_hasSort 1 = .ok (.ifCond .lt 15, 3) := by decide +kernel
theorem dX4_hasSort_4 : decode cX4_hasSort 4 = .ok (.iload_n 1, 1) := by decide +kernel
theorem dX4_hasSort_5 : decode cX4_hasSort 5 = .ok (.aload_n 0, 1) := by decide +kernel
theorem dX4_hasSort_6 : decode cX4_hasSort 6 = .ok (.getfield 39, 3) := by decide +kernel
theorem dX4_hasSort_9 : decode cX4_hasSort 9 = .ok (.if_icmp .ge 7, 3) := by decide +kernel
theorem dX4_hasSort_12 : decode cX4_hasSort 12 = .ok (.iconst 1, 1) := by decide +kernel
theorem dX4_hasSort_13 : decode cX4_hasSort 13 = .ok (.goto 4, 3) := by decide +kernel
theorem dX4_hasSort_16 : decode cX4_hasSort 16 = .ok (.iconst 0, 1) := by decide +kernel
theorem dX4_hasSort_17 : decode cX4_hasSort 17 = .ok (.ireturn, 1) := by decide +kernel
theorem dX4_hasAsk_0 : decode cX4_hasAsk 0 = .ok (.iload_n 1, 1) := by decide +kernel
theorem dX4_hasAsk_1 : decode cX4_hasAsk 1 = .ok (.ifCond .lt 15, 3) := by decide +kernel
theorem dX4_hasAsk_4 : decode cX4_hasAsk 4 = .ok (.iload_n 1, 1) := by decide +kernel
theorem dX4_hasAsk_5 : decode cX4_hasAsk 5 = .ok (.aload_n 0, 1) := by decide +kernel
theorem dX4_hasAsk_6 : decode cX4_hasAsk 6 = .ok (.getfield 43, 3) := by decide +kernel
theorem dX4_hasAsk_9 : decode cX4_hasAsk 9 = .ok (.if_icmp .ge 7, 3) := by decide +kernel
theorem dX4_hasAsk_12 : decode cX4_hasAsk 12 = .ok (.iconst 1, 1) := by decide +kernel
theorem dX4_hasAsk_13 : decode cX4_hasAsk 13 = .ok (.goto 4, 3) := by decide +kernel
theorem dX4_hasAsk_16 : decode cX4_hasAsk 16 = .ok (.iconst 0, 1) := by decide +kernel
theorem dX4_hasAsk_17 : decode cX4_hasAsk 17 = .ok (.ireturn, 1) := by decide +kernel
theorem dX4_size_0 : decode cX4_size 0 = .ok (.aload_n 0, 1) := by decide +kernel
theorem dX4_size_1 : decode cX4_size 1 = .ok (.getfield 9, 3) := by decide +kernel
theorem dX4_size_4 : decode cX4_size 4 = .ok (.iload_n 1, 1) := by decide +kernel
theorem dX4_size_5 : decode cX4_size 5 = .ok (.invokestatic 74, 3) := by decide +kernel
theorem dX4_size_8 : decode cX4_size 8 = .ok (.ireturn, 1) := by decide +kernel
theorem dX4_bentOf_0 : decode cX4_bentOf 0 = .ok (.aload_n 0, 1) := by decide +kernel
theorem dX4_bentOf_1 : decode cX4_bentOf 1 = .ok (.getfield 15, 3) := by decide +kernel
theorem dX4_bentOf_4 : decode cX4_bentOf 4 = .ok (.iload_n 1, 1) := by decide +kernel
theorem dX4_bentOf_5 : decode cX4_bentOf 5 = .ok (.invokestatic 74, 3) := by decide +kernel
theorem dX4_bentOf_8 : decode cX4_bentOf 8 = .ok (.ireturn, 1) := by decide +kernel
theorem dX4_length_0 : decode cX4_length 0 = .ok (.aload_n 0, 1) := by decide +kernel
theorem dX4_length_1 : decode cX4_length 1 = .ok (.getfield 33, 3) := by decide +kernel
theorem dX4_length_4 : decode cX4_length 4 = .ok (.iload_n 1, 1) := by decide +kernel
theorem dX4_length_5 : decode cX4_length 5 = .ok (.invokestatic 74, 3) := by decide +kernel
theorem dX4_length_8 : decode cX4_length 8 = .ok (.ireturn, 1) := by decide +kernel
theorem dX4_meanBent_0 : decode cX4_meanBent 0 = .ok (.iconst 0, 1) := by decide +kernel
theorem dX4_meanBent_1 : decode cX4_meanBent 1 = .ok (.istore_n 1, 1) := by decide +kernel
theorem dX4_meanBent_2 : decode cX4_meanBent 2 = .ok (.iconst 0, 1) := by decide +kernel
theorem dX4_meanBent_3 : decode cX4_meanBent 3 = .ok (.istore_n 2, 1) := by decide +kernel
theorem dX4_meanBent_4 : decode cX4_meanBent 4 = .ok (.iload_n 2, 1) := by decide +kernel
theorem dX4_meanBent_5 : decode cX4_meanBent 5 = .ok (.aload_n 0, 1) := by decide +kernel
theorem dX4_meanBent_6 : decode cX4_meanBent 6 = .ok (.getfield 39, 3) := by decide +kernel
theorem dX4_meanBent_9 : decode cX4_meanBent 9 = .ok (.if_icmp .ge 23, 3) := by decide +kernel
theorem dX4_meanBent_12 : decode cX4_meanBent 12 = .ok (.iload_n 1, 1) := by decide +kernel
theorem dX4_meanBent_13 : decode cX4_meanBent 13 = .ok (.aload_n 0, 1) := by decide +kernel
theorem dX4_meanBent_14 : decode cX4_meanBent 14 = .ok (.iload_n 2, 1) := by decide +kernel
theorem dX4_meanBent_15 : decode cX4_meanBent 15 = .ok (.invokevirtual 78, 3) := by decide +kernel
theorem dX4_meanBent_18 : decode cX4_meanBent 18 = .ok (.aload_n 0, 1) := by decide +kernel
theorem dX4_meanBent_19 : decode cX4_meanBent 19 = .ok (.iload_n 2, 1) := by decide +kernel
theorem dX4_meanBent_20 : decode cX4_meanBent 20 = .ok (.invokevirtual 82, 3) := by decide +kernel
theorem dX4_meanBent_23 : decode cX4_meanBent 23 = .ok (.imul, 1) := by decide +kernel
theorem dX4_meanBent_24 : decode cX4_meanBent 24 = .ok (.iadd, 1) := by decide +kernel
theorem dX4_meanBent_25 : decode cX4_meanBent 25 = .ok (.istore_n 1, 1) := by decide +kernel
theorem dX4_meanBent_26 : decode cX4_meanBent 26 = .ok (.iinc 2 1, 3) := by decide +kernel
theorem dX4_meanBent_29 : decode cX4_meanBent 29 = .ok (.goto (-25), 3) := by decide +kernel
theorem dX4_meanBent_32 : decode cX4_meanBent 32 = .ok (.aload_n 0, 1) := by decide +kernel
theorem dX4_meanBent_33 : decode cX4_meanBent 33 = .ok (.getfield 46, 3) := by decide +kernel
theorem dX4_meanBent_36 : decode cX4_meanBent 36 = .ok (.ifCond .ne 8, 3) := by decide +kernel
theorem dX4_meanBent_39 : decode cX4_meanBent 39 = .ok (.bipush (-4), 2) := by decide +kernel
theorem dX4_meanBent_41 : decode cX4_meanBent 41 = .ok (.goto 13, 3) := by decide +kernel
theorem dX4_meanBent_44 : decode cX4_meanBent 44 = .ok (.sipush 1000, 3) := by decide +kernel
theorem dX4_meanBent_47 : decode cX4_meanBent 47 = .ok (.iload_n 1, 1) := by decide +kernel
theorem dX4_meanBent_48 : decode cX4_meanBent 48 = .ok (.imul, 1) := by decide +kernel
theorem dX4_meanBent_49 : decode cX4_meanBent 49 = .ok (.aload_n 0, 1) := by decide +kernel
theorem dX4_meanBent_50 : decode cX4_meanBent 50 = .ok (.getfield 46, 3) := by decide +kernel
theorem dX4_meanBent_53 : decode cX4_meanBent 53 = .ok (.idiv, 1) := by decide +kernel
theorem dX4_meanBent_54 : decode cX4_meanBent 54 = .ok (.ireturn, 1) := by decide +kernel
theorem dX4_easedBySugar_0 : decode cX4_easedBySugar 0 = .ok (.aload_n 0, 1) := by decide +kernel
theorem dX4_easedBySugar_1 : decode cX4_easedBySugar 1 = .ok (.getfield 60, 3) := by decide +kernel
theorem dX4_easedBySugar_4 : decode cX4_easedBySugar 4 = .ok (.aload_n 0, 1) := by decide +kernel
theorem dX4_easedBySugar_5 : decode cX4_easedBySugar 5 = .ok (.getfield 63, 3) := by decide +kernel
theorem dX4_easedBySugar_8 : decode cX4_easedBySugar 8 = .ok (.imul, 1) := by decide +kernel
theorem dX4_easedBySugar_9 : decode cX4_easedBySugar 9 = .ok (.bipush 10, 2) := by decide +kernel
theorem dX4_easedBySugar_11 : decode cX4_easedBySugar 11 = .ok (.idiv, 1) := by decide +kernel
theorem dX4_easedBySugar_12 : decode cX4_easedBySugar 12 = .ok (.ireturn, 1) := by decide +kernel
theorem dX4_feeling_0 : decode cX4_feeling 0 = .ok (.iload_n 3, 1) := by decide +kernel
theorem dX4_feeling_1 : decode cX4_feeling 1 = .ok (.iconst 2, 1) := by decide +kernel
theorem dX4_feeling_2 : decode cX4_feeling 2 = .ok (.if_icmp .ne 5, 3) := by decide +kernel
theorem dX4_feeling_5 : decode cX4_feeling 5 = .ok (.iconst 0, 1) := by decide +kernel
theorem dX4_feeling_6 : decode cX4_feeling 6 = .ok (.ireturn, 1) := by decide +kernel
theorem dX4_feeling_7 : decode cX4_feeling 7 = .ok (.iload_n 3, 1) := by decide +kernel
theorem dX4_feeling_8 : decode cX4_feeling 8 = .ok (.iconst 1, 1) := by decide +kernel
theorem dX4_feeling_9 : decode cX4_feeling 9 = .ok (.if_icmp .ne 7, 3) := by decide +kernel
theorem dX4_feeling_12 : decode cX4_feeling 12 = .ok (.iconst 0, 1) := by decide +kernel
theorem dX4_feeling_13 : decode cX4_feeling 13 = .ok (.goto 11, 3) := by decide +kernel
theorem dX4_feeling_16 : decode cX4_feeling 16 = .ok (.aload_n 0, 1) := by decide +kernel
theorem dX4_feeling_17 : decode cX4_feeling 17 = .ok (.getfield 27, 3) := by decide +kernel
theorem dX4_feeling_20 : decode cX4_feeling 20 = .ok (.iload_n 2, 1) := by decide +kernel
theorem dX4_feeling_21 : decode cX4_feeling 21 = .ok (.invokestatic 74, 3) := by decide +kernel
theorem dX4_feeling_24 : decode cX4_feeling 24 = .ok (.istore 4, 2) := by decide +kernel
theorem dX4_feeling_26 : decode cX4_feeling 26 = .ok (.aload_n 0, 1) := by decide +kernel
theorem dX4_feeling_27 : decode cX4_feeling 27 = .ok (.getfield 15, 3) := by decide +kernel
theorem dX4_feeling_30 : decode cX4_feeling 30 = .ok (.iload_n 1, 1) := by decide +kernel
theorem dX4_feeling_31 : decode cX4_feeling 31 = .ok (.invokestatic 74, 3) := by decide +kernel
theorem dX4_feeling_34 : decode cX4_feeling 34 = .ok (.iload 4, 2) := by decide +kernel
theorem dX4_feeling_36 : decode cX4_feeling 36 = .ok (.iadd, 1) := by decide +kernel
theorem dX4_feeling_37 : decode cX4_feeling 37 = .ok (.aload_n 0, 1) := by decide +kernel
theorem dX4_feeling_38 : decode cX4_feeling 38 = .ok (.getfield 24, 3) := by decide +kernel
theorem dX4_feeling_41 : decode cX4_feeling 41 = .ok (.iload_n 2, 1) := by decide +kernel
theorem dX4_feeling_42 : decode cX4_feeling 42 = .ok (.invokestatic 74, 3) := by decide +kernel
theorem dX4_feeling_45 : decode cX4_feeling 45 = .ok (.isub, 1) := by decide +kernel
theorem dX4_feeling_46 : decode cX4_feeling 46 = .ok (.invokestatic 85, 3) := by decide +kernel
theorem dX4_feeling_49 : decode cX4_feeling 49 = .ok (.ireturn, 1) := by decide +kernel
theorem dX4_playing_0 : decode cX4_playing 0 = .ok (.aload_n 0, 1) := by decide +kernel
theorem dX4_playing_1 : decode cX4_playing 1 = .ok (.getfield 30, 3) := by decide +kernel
theorem dX4_playing_4 : decode cX4_playing 4 = .ok (.iload_n 2, 1) := by decide +kernel
theorem dX4_playing_5 : decode cX4_playing 5 = .ok (.invokestatic 74, 3) := by decide +kernel
theorem dX4_playing_8 : decode cX4_playing 8 = .ok (.istore 4, 2) := by decide +kernel
theorem dX4_playing_10 : decode cX4_playing 10 = .ok (.iload_n 3, 1) := by decide +kernel
theorem dX4_playing_11 : decode cX4_playing 11 = .ok (.tableswitch 73 0 2 #[25, 49, 64], 25) := by decide +kernel
theorem dX4_playing_36 : decode cX4_playing 36 = .ok (.aload_n 0, 1) := by decide +kernel
theorem dX4_playing_37 : decode cX4_playing 37 = .ok (.getfield 18, 3) := by decide +kernel
theorem dX4_playing_40 : decode cX4_playing 40 = .ok (.iload_n 1, 1) := by decide +kernel
theorem dX4_playing_41 : decode cX4_playing 41 = .ok (.invokestatic 74, 3) := by decide +kernel
theorem dX4_playing_44 : decode cX4_playing 44 = .ok (.aload_n 0, 1) := by decide +kernel
theorem dX4_playing_45 : decode cX4_playing 45 = .ok (.getfield 21, 3) := by decide +kernel
theorem dX4_playing_48 : decode cX4_playing 48 = .ok (.iload_n 1, 1) := by decide +kernel
theorem dX4_playing_49 : decode cX4_playing 49 = .ok (.invokestatic 74, 3) := by decide +kernel
theorem dX4_playing_52 : decode cX4_playing 52 = .ok (.iadd, 1) := by decide +kernel
theorem dX4_playing_53 : decode cX4_playing 53 = .ok (.iload 4, 2) := by decide +kernel
theorem dX4_playing_55 : decode cX4_playing 55 = .ok (.isub, 1) := by decide +kernel
theorem dX4_playing_56 : decode cX4_playing 56 = .ok (.invokestatic 85, 3) := by decide +kernel
theorem dX4_playing_59 : decode cX4_playing 59 = .ok (.ireturn, 1) := by decide +kernel
theorem dX4_playing_60 : decode cX4_playing 60 = .ok (.aload_n 0, 1) := by decide +kernel
theorem dX4_playing_61 : decode cX4_playing 61 = .ok (.getfield 18, 3) := by decide +kernel
theorem dX4_playing_64 : decode cX4_playing 64 = .ok (.iload_n 1, 1) := by decide +kernel
theorem dX4_playing_65 : decode cX4_playing 65 = .ok (.invokestatic 74, 3) := by decide +kernel
theorem dX4_playing_68 : decode cX4_playing 68 = .ok (.iload 4, 2) := by decide +kernel
theorem dX4_playing_70 : decode cX4_playing 70 = .ok (.isub, 1) := by decide +kernel
theorem dX4_playing_71 : decode cX4_playing 71 = .ok (.invokestatic 85, 3) := by decide +kernel
theorem dX4_playing_74 : decode cX4_playing 74 = .ok (.ireturn, 1) := by decide +kernel
theorem dX4_playing_75 : decode cX4_playing 75 = .ok (.bipush 10, 2) := by decide +kernel
theorem dX4_playing_77 : decode cX4_playing 77 = .ok (.iload 4, 2) := by decide +kernel
theorem dX4_playing_79 : decode cX4_playing 79 = .ok (.isub, 1) := by decide +kernel
theorem dX4_playing_80 : decode cX4_playing 80 = .ok (.invokestatic 85, 3) := by decide +kernel
theorem dX4_playing_83 : decode cX4_playing 83 = .ok (.ireturn, 1) := by decide +kernel
theorem dX4_playing_84 : decode cX4_playing 84 = .ok (.iconst 0, 1) := by decide +kernel
theorem dX4_playing_85 : decode cX4_playing 85 = .ok (.ireturn, 1) := by decide +kernel
theorem dX4_doing_0 : decode cX4_doing 0 = .ok (.aload_n 0, 1) := by decide +kernel
theorem dX4_doing_1 : decode cX4_doing 1 = .ok (.iload_n 1, 1) := by decide +kernel
theorem dX4_doing_2 : decode cX4_doing 2 = .ok (.iload_n 2, 1) := by decide +kernel
theorem dX4_doing_3 : decode cX4_doing 3 = .ok (.iload_n 3, 1) := by decide +kernel
theorem dX4_doing_4 : decode cX4_doing 4 = .ok (.invokevirtual 88, 3) := by decide +kernel
theorem dX4_doing_7 : decode cX4_doing 7 = .ok (.aload_n 0, 1) := by decide +kernel
theorem dX4_doing_8 : decode cX4_doing 8 = .ok (.iload_n 1, 1) := by decide +kernel
theorem dX4_doing_9 : decode cX4_doing 9 = .ok (.iload_n 2, 1) := by decide +kernel
theorem dX4_doing_10 : decode cX4_doing 10 = .ok (.iload_n 3, 1) := by decide +kernel
theorem dX4_doing_11 : decode cX4_doing 11 = .ok (.invokevirtual 92, 3) := by decide +kernel
theorem dX4_doing_14 : decode cX4_doing 14 = .ok (.invokestatic 95, 3) := by decide +kernel
theorem dX4_doing_17 : decode cX4_doing 17 = .ok (.ireturn, 1) := by decide +kernel
theorem dX4_doing__0 : decode cX4_doing_ 0 = .ok (.bipush 10, 2) := by decide +kernel
theorem dX4_doing__2 : decode cX4_doing_ 2 = .ok (.iload_n 0, 1) := by decide +kernel
theorem dX4_doing__3 : decode cX4_doing_ 3 = .ok (.imul, 1) := by decide +kernel
theorem dX4_doing__4 : decode cX4_doing_ 4 = .ok (.bipush 10, 2) := by decide +kernel
theorem dX4_doing__6 : decode cX4_doing_ 6 = .ok (.iload_n 0, 1) := by decide +kernel
theorem dX4_doing__7 : decode cX4_doing_ 7 = .ok (.isub, 1) := by decide +kernel
theorem dX4_doing__8 : decode cX4_doing_ 8 = .ok (.iload_n 1, 1) := by decide +kernel
theorem dX4_doing__9 : decode cX4_doing_ 9 = .ok (.imul, 1) := by decide +kernel
theorem dX4_doing__10 : decode cX4_doing_ 10 = .ok (.iadd, 1) := by decide +kernel
theorem dX4_doing__11 : decode cX4_doing_ 11 = .ok (.ireturn, 1) := by decide +kernel
theorem dX4_tenths_0 : decode cX4_tenths 0 = .ok (.iload_n 0, 1) := by decide +kernel
theorem dX4_tenths_1 : decode cX4_tenths 1 = .ok (.ifCond .ge 5, 3) := by decide +kernel
theorem dX4_tenths_4 : decode cX4_tenths 4 = .ok (.iconst 0, 1) := by decide +kernel
theorem dX4_tenths_5 : decode cX4_tenths 5 = .ok (.ireturn, 1) := by decide +kernel
theorem dX4_tenths_6 : decode cX4_tenths 6 = .ok (.iload_n 0, 1) := by decide +kernel
theorem dX4_tenths_7 : decode cX4_tenths 7 = .ok (.bipush 10, 2) := by decide +kernel
theorem dX4_tenths_9 : decode cX4_tenths 9 = .ok (.if_icmp .le 8, 3) := by decide +kernel
theorem dX4_tenths_12 : decode cX4_tenths 12 = .ok (.bipush 10, 2) := by decide +kernel
theorem dX4_tenths_14 : decode cX4_tenths 14 = .ok (.goto 4, 3) := by decide +kernel
theorem dX4_tenths_17 : decode cX4_tenths 17 = .ok (.iload_n 0, 1) := by decide +kernel
theorem dX4_tenths_18 : decode cX4_tenths 18 = .ok (.ireturn, 1) := by decide +kernel
theorem dX5_init_0 : decode cX5_init 0 = .ok (.aload_n 0, 1) := by decide +kernel
theorem dX5_init_1 : decode cX5_init 1 = .ok (.invokespecial 3, 3) := by decide +kernel
theorem dX5_init_4 : decode cX5_init 4 = .ok (.aload_n 0, 1) := by decide +kernel
theorem dX5_init_5 : decode cX5_init 5 = .ok (.bipush 120, 2) := by decide +kernel
theorem dX5_init_7 : decode cX5_init 7 = .ok (.newarray .boolean, 2) := by decide +kernel
theorem dX5_init_9 : decode cX5_init 9 = .ok (.putfield 9, 3) := by decide +kernel
theorem dX5_init_12 : decode cX5_init 12 = .ok (.aload_n 0, 1) := by decide +kernel
theorem dX5_init_13 : decode cX5_init 13 = .ok (.bipush 120, 2) := by decide +kernel
theorem dX5_init_15 : decode cX5_init 15 = .ok (.newarray .boolean, 2) := by decide +kernel
theorem dX5_init_17 : decode cX5_init 17 = .ok (.putfield 15, 3) := by decide +kernel
theorem dX5_init_20 : decode cX5_init 20 = .ok (.aload_n 0, 1) := by decide +kernel
theorem dX5_init_21 : decode cX5_init 21 = .ok (.aload_n 1, 1) := by decide +kernel
theorem dX5_init_22 : decode cX5_init 22 = .ok (.putfield 18, 3) := by decide +kernel
theorem dX5_init_25 : decode cX5_init 25 = .ok (.return_, 1) := by decide +kernel
theorem dX5_play_0 : decode cX5_play 0 = .ok (.iconst 0, 1) := by decide +kernel
theorem dX5_play_1 : decode cX5_play 1 = .ok (.istore_n 3, 1) := by decide +kernel
theorem dX5_play_2 : decode cX5_play 2 = .ok (.iload_n 3, 1) := by decide +kernel
theorem dX5_play_3 : decode cX5_play 3 = .ok (.aload_n 0, 1) := by decide +kernel
theorem dX5_play_4 : decode cX5_play 4 = .ok (.getfield 9, 3) := by decide +kernel
theorem dX5_play_7 : decode cX5_play 7 = .ok (.arraylength, 1) := by decide +kernel
theorem dX5_play_8 : decode cX5_play 8 = .ok (.if_icmp .ge 31, 3) := by decide +kernel
theorem dX5_play_11 : decode cX5_play 11 = .ok (.aload_n 0, 1) := by decide +kernel
theorem dX5_play_12 : decode cX5_play 12 = .ok (.getfield 9, 3) := by decide +kernel
theorem dX5_play_15 : decode cX5_play 15 = .ok (.iload_n 3, 1) := by decide +kernel
theorem dX5_play_16 : decode cX5_play 16 = .ok (.iload_n 3, 1) := by decide +kernel
theorem dX5_play_17 : decode cX5_play 17 = .ok (.aload_n 0, 1) := by decide +kernel
theorem dX5_play_18 : decode cX5_play 18 = .ok (.getfield 18, 3) := by decide +kernel
theorem dX5_play_21 : decode cX5_play 21 = .ok (.getfield 22, 3) := by decide +kernel
theorem dX5_play_24 : decode cX5_play 24 = .ok (.if_icmp .ge 7, 3) := by decide +kernel
theorem dX5_play_27 : decode cX5_play 27 = .ok (.iconst 1, 1) := by decide +kernel
theorem dX5_play_28 : decode cX5_play 28 = .ok (.goto 4, 3) := by decide +kernel
theorem dX5_play_31 : decode cX5_play 31 = .ok (.iconst 0, 1) := by decide +kernel
theorem dX5_play_32 : decode cX5_play 32 = .ok (.bastore, 1) := by decide +kernel
theorem dX5_play_33 : decode cX5_play 33 = .ok (.iinc 3 1, 3) := by decide +kernel
theorem dX5_play_36 : decode cX5_play 36 = .ok (.goto (-34), 3) := by decide +kernel
theorem dX5_play_39 : decode cX5_play 39 = .ok (.iconst 0, 1) := by decide +kernel
theorem dX5_play_40 : decode cX5_play 40 = .ok (.istore_n 3, 1) := by decide +kernel
theorem dX5_play_41 : decode cX5_play 41 = .ok (.iload_n 3, 1) := by decide +kernel
theorem dX5_play_42 : decode cX5_play 42 = .ok (.aload_n 0, 1) := by decide +kernel
theorem dX5_play_43 : decode cX5_play 43 = .ok (.getfield 15, 3) := by decide +kernel
theorem dX5_play_46 : decode cX5_play 46 = .ok (.arraylength, 1) := by decide +kernel
theorem dX5_play_47 : decode cX5_play 47 = .ok (.if_icmp .ge 16, 3) := by decide +kernel
theorem dX5_play_50 : decode cX5_play 50 = .ok (.aload_n 0, 1) := by decide +kernel
theorem dX5_play_51 : decode cX5_play 51 = .ok (.getfield 15, 3) := by decide +kernel
theorem dX5_play_54 : decode cX5_play 54 = .ok (.iload_n 3, 1) := by decide +kernel
theorem dX5_play_55 : decode cX5_play 55 = .ok (.iconst 0, 1) := by decide +kernel
theorem dX5_play_56 : decode cX5_play 56 = .ok (.bastore, 1) := by decide +kernel
theorem dX5_play_57 : decode cX5_play 57 = .ok (.iinc 3 1, 3) := by decide +kernel
theorem dX5_play_60 : decode cX5_play 60 = .ok (.goto (-19), 3) := by decide +kernel
theorem dX5_play_63 : decode cX5_play 63 = .ok (.aload_n 0, 1) := by decide +kernel
theorem dX5_play_64 : decode cX5_play 64 = .ok (.aload_n 0, 1) := by decide +kernel
theorem dX5_play_65 : decode cX5_play 65 = .ok (.getfield 18, 3) := by decide +kernel
theorem dX5_play_68 : decode cX5_play 68 = .ok (.getfield 22, 3) := by decide +kernel
theorem dX5_play_71 : decode cX5_play 71 = .ok (.putfield 28, 3) := by decide +kernel
theorem dX5_play_74 : decode cX5_play 74 = .ok (.aload_n 0, 1) := by decide +kernel
theorem dX5_play_75 : decode cX5_play 75 = .ok (.aload_n 0, 1) := by decide +kernel
theorem dX5_play_76 : decode cX5_play 76 = .ok (.getfield 28, 3) := by decide +kernel
theorem dX5_play_79 : decode cX5_play 79 = .ok (.bipush 6, 2) := by decide +kernel
theorem dX5_play_81 : decode cX5_play 81 = .ok (.if_icmp .gt 7, 3) := by decide +kernel
theorem dX5_play_84 : decode cX5_play 84 = .ok (.iconst 0, 1) := by decide +kernel
theorem dX5_play_85 : decode cX5_play 85 = .ok (.goto 5, 3) := by decide +kernel
theorem dX5_play_88 : decode cX5_play 88 = .ok (.bipush (-4), 2) := by decide +kernel
theorem dX5_play_90 : decode cX5_play 90 = .ok (.putfield 31, 3) := by decide +kernel
theorem dX5_play_93 : decode cX5_play 93 = .ok (.iconst 0, 1) := by decide +kernel
theorem dX5_play_94 : decode cX5_play 94 = .ok (.istore_n 3, 1) := by decide +kernel
theorem dX5_play_95 : decode cX5_play 95 = .ok (.iload_n 3, 1) := by decide +kernel
theorem dX5_play_96 : decode cX5_play 96 = .ok (.aload_n 1, 1) := by decide +kernel
theorem dX5_play_97 : decode cX5_play 97 = .ok (.getfield 34, 3) := by decide +kernel
theorem dX5_play_100 : decode cX5_play 100 = .ok (.if_icmp .ge 55, 3) := by decide +kernel
theorem dX5_play_103 : decode cX5_play 103 = .ok (.aload_n 0, 1) := by decide +kernel
theorem dX5_play_104 : decode cX5_play 104 = .ok (.aload_n 1, 1) := by decide +kernel
theorem dX5_play_105 : decode cX5_play 105 = .ok (.iload_n 3, 1) := by decide +kernel
theorem dX5_play_106 : decode cX5_play 106 = .ok (.ldc2_w 39, 3) := by decide +kernel
theorem dX5_play_109 : decode cX5_play 109 = .ok (.iload_n 2, 1) := by decide +kernel
theorem dX5_play_110 : decode cX5_play 110 = .ok (.i2l, 1) := by decide +kernel
theorem dX5_play_111 : decode cX5_play 111 = .ok (.lmul, 1) := by decide +kernel
theorem dX5_play_112 : decode cX5_play 112 = .ok (.ldc2_w 41, 3) := by decide +kernel
theorem dX5_play_115 : decode cX5_play 115 = .ok (.iload_n 3, 1) := by decide +kernel
theorem dX5_play_116 : decode cX5_play 116 = .ok (.i2l, 1) := by decide +kernel
theorem dX5_play_117 : decode cX5_play 117 = .ok (.lmul, 1) := by decide +kernel
theorem dX5_play_118 : decode cX5_play 118 = .ok (.ladd, 1) := by decide +kernel
theorem dX5_play_119 : decode cX5_play 119 = .ok (.lconst 1, 1) := by decide +kernel
theorem dX5_play_120 : decode cX5_play 120 = .ok (.ladd, 1) := by decide +kernel
theorem dX5_play_121 : decode cX5_play 121 = .ok (.invokevirtual 43, 3) := by decide +kernel
theorem dX5_play_124 : decode cX5_play 124 = .ok (.aload_n 0, 1) := by decide +kernel
theorem dX5_play_125 : decode cX5_play 125 = .ok (.getfield 28, 3) := by decide +kernel
theorem dX5_play_128 : decode cX5_play 128 = .ok (.bipush 6, 2) := by decide +kernel
theorem dX5_play_130 : decode cX5_play 130 = .ok (.if_icmp .gt 19, 3) := by decide +kernel
theorem dX5_play_133 : decode cX5_play 133 = .ok (.aload_n 0, 1) := by decide +kernel
theorem dX5_play_134 : decode cX5_play 134 = .ok (.getfield 31, 3) := by decide +kernel
theorem dX5_play_137 : decode cX5_play 137 = .ok (.bipush (-4), 2) := by decide +kernel
theorem dX5_play_139 : decode cX5_play 139 = .ok (.if_icmp .ne 10, 3) := by decide +kernel
theorem dX5_play_142 : decode cX5_play 142 = .ok (.aload_n 0, 1) := by decide +kernel
theorem dX5_play_143 : decode cX5_play 143 = .ok (.iload_n 3, 1) := by decide +kernel
theorem dX5_play_144 : decode cX5_play 144 = .ok (.iconst 1, 1) := by decide +kernel
theorem dX5_play_145 : decode cX5_play 145 = .ok (.iadd, 1) := by decide +kernel
theorem dX5_play_146 : decode cX5_play 146 = .ok (.putfield 31, 3) := by decide +kernel
theorem dX5_play_149 : decode cX5_play 149 = .ok (.iinc 3 1, 3) := by decide +kernel
theorem dX5_play_152 : decode cX5_play 152 = .ok (.goto (-57), 3) := by decide +kernel
theorem dX5_play_155 : decode cX5_play 155 = .ok (.return_, 1) := by decide +kernel
theorem dX5_ask_0 : decode cX5_ask 0 = .ok (.aload_n 1, 1) := by decide +kernel
theorem dX5_ask_1 : decode cX5_ask 1 = .ok (.iload_n 2, 1) := by decide +kernel
theorem dX5_ask_2 : decode cX5_ask 2 = .ok (.invokevirtual 47, 3) := by decide +kernel
theorem dX5_ask_5 : decode cX5_ask 5 = .ok (.istore 5, 2) := by decide +kernel
theorem dX5_ask_7 : decode cX5_ask 7 = .ok (.aload_n 0, 1) := by decide +kernel
theorem dX5_ask_8 : decode cX5_ask 8 = .ok (.aload_n 0, 1) := by decide +kernel
theorem dX5_ask_9 : decode cX5_ask 9 = .ok (.iconst 0, 1) := by decide +kernel
theorem dX5_ask_10 : decode cX5_ask 10 = .ok (.invokevirtual 50, 3) := by decide +kernel
theorem dX5_ask_13 : decode cX5_ask 13 = .ok (.invokevirtual 53, 3) := by decide +kernel
theorem dX5_ask_16 : decode cX5_ask 16 = .ok (.ifCond .eq 7, 3) := by decide +kernel
theorem dX5_ask_19 : decode cX5_ask 19 = .ok (.iconst 1, 1) := by decide +kernel
theorem dX5_ask_20 : decode cX5_ask 20 = .ok (.goto 4, 3) := by decide +kernel
theorem dX5_ask_23 : decode cX5_ask 23 = .ok (.iconst 0, 1) := by decide +kernel
theorem dX5_ask_24 : decode cX5_ask 24 = .ok (.istore 6, 2) := by decide +kernel
theorem dX5_ask_26 : decode cX5_ask 26 = .ok (.iconst 0, 1) := by decide +kernel
theorem dX5_ask_27 : decode cX5_ask 27 = .ok (.istore 7, 2) := by decide +kernel
theorem dX5_ask_29 : decode cX5_ask 29 = .ok (.iconst 0, 1) := by decide +kernel
theorem dX5_ask_30 : decode cX5_ask 30 = .ok (.istore 8, 2) := by decide +kernel
theorem dX5_ask_32 : decode cX5_ask 32 = .ok (.iconst 0, 1) := by decide +kernel
theorem dX5_ask_33 : decode cX5_ask 33 = .ok (.istore 9, 2) := by decide +kernel
theorem dX5_ask_35 : decode cX5_ask 35 = .ok (.iload 9, 2) := by decide +kernel
theorem dX5_ask_37 : decode cX5_ask 37 = .ok (.aload_n 0, 1) := by decide +kernel
theorem dX5_ask_38 : decode cX5_ask 38 = .ok (.getfield 18, 3) := by decide +kernel
theorem dX5_ask_41 : decode cX5_ask 41 = .ok (.getfield 57, 3) := by decide +kernel
theorem dX5_ask_44 : decode cX5_ask 44 = .ok (.if_icmp .ge 142, 3) := by decide +kernel
theorem dX5_ask_47 : decode cX5_ask 47 = .ok (.aload_n 0, 1) := by decide +kernel
theorem dX5_ask_48 : decode cX5_ask 48 = .ok (.getfield 18, 3) := by decide +kernel
theorem dX5_ask_51 : decode cX5_ask 51 = .ok (.iload 9, 2) := by decide +kernel
theorem dX5_ask_53 : decode cX5_ask 53 = .ok (.iload 5, 2) := by decide +kernel
theorem dX5_ask_55 : decode cX5_ask 55 = .ok (.iconst 0, 1) := by decide +kernel
theorem dX5_ask_56 : decode cX5_ask 56 = .ok (.invokevirtual 60, 3) := by decide +kernel
theorem dX5_ask_59 : decode cX5_ask 59 = .ok (.istore 10, 2) := by decide +kernel
theorem dX5_ask_61 : decode cX5_ask 61 = .ok (.iload 10, 2) := by decide +kernel
theorem dX5_ask_63 : decode cX5_ask 63 = .ok (.aload_n 0, 1) := by decide +kernel
theorem dX5_ask_64 : decode cX5_ask 64 = .ok (.getfield 18, 3) := by decide +kernel
theorem dX5_ask_67 : decode cX5_ask 67 = .ok (.iload 9, 2) := by decide +kernel
theorem dX5_ask_69 : decode cX5_ask 69 = .ok (.iload 5, 2) := by decide +kernel
theorem dX5_ask_71 : decode cX5_ask 71 = .ok (.iconst 0, 1) := by decide +kernel
theorem dX5_ask_72 : decode cX5_ask 72 = .ok (.invokevirtual 64, 3) := by decide +kernel
theorem dX5_ask_75 : decode cX5_ask 75 = .ok (.iload 6, 2) := by decide +kernel
theorem dX5_ask_77 : decode cX5_ask 77 = .ok (.iadd, 1) := by decide +kernel
theorem dX5_ask_78 : decode cX5_ask 78 = .ok (.invokestatic 67, 3) := by decide +kernel
theorem dX5_ask_81 : decode cX5_ask 81 = .ok (.invokestatic 70, 3) := by decide +kernel
theorem dX5_ask_84 : decode cX5_ask 84 = .ok (.istore 11, 2) := by decide +kernel
theorem dX5_ask_86 : decode cX5_ask 86 = .ok (.iload 7, 2) := by decide +kernel
theorem dX5_ask_88 : decode cX5_ask 88 = .ok (.aload_n 0, 1) := by decide +kernel
theorem dX5_ask_89 : decode cX5_ask 89 = .ok (.getfield 18, 3) := by decide +kernel
theorem dX5_ask_92 : decode cX5_ask 92 = .ok (.iload 9, 2) := by decide +kernel
theorem dX5_ask_94 : decode cX5_ask 94 = .ok (.invokevirtual 74, 3) := by decide +kernel
theorem dX5_ask_97 : decode cX5_ask 97 = .ok (.iadd, 1) := by decide +kernel
theorem dX5_ask_98 : decode cX5_ask 98 = .ok (.istore 7, 2) := by decide +kernel
theorem dX5_ask_100 : decode cX5_ask 100 = .ok (.iload 8, 2) := by decide +kernel
theorem dX5_ask_102 : decode cX5_ask 102 = .ok (.iload 7, 2) := by decide +kernel
theorem dX5_ask_104 : decode cX5_ask 104 = .ok (.if_icmp .ge 76, 3) := by decide +kernel
theorem dX5_ask_107 : decode cX5_ask 107 = .ok (.lload_n 3, 1) := by decide +kernel
theorem dX5_ask_108 : decode cX5_ask 108 = .ok (.ldc2_w 76, 3) := by decide +kernel
theorem dX5_ask_111 : decode cX5_ask 111 = .ok (.iload 8, 2) := by decide +kernel
theorem dX5_ask_113 : decode cX5_ask 113 = .ok (.i2l, 1) := by decide +kernel
theorem dX5_ask_114 : decode cX5_ask 114 = .ok (.lmul, 1) := by decide +kernel
theorem dX5_ask_115 : decode cX5_ask 115 = .ok (.ladd, 1) := by decide +kernel
theorem dX5_ask_116 : decode cX5_ask 116 = .ok (.invokestatic 78, 3) := by decide +kernel
theorem dX5_ask_119 : decode cX5_ask 119 = .ok (.istore 12, 2) := by decide +kernel
theorem dX5_ask_121 : decode cX5_ask 121 = .ok (.aload_n 0, 1) := by decide +kernel
theorem dX5_ask_122 : decode cX5_ask 122 = .ok (.iload 8, 2) := by decide +kernel
theorem dX5_ask_124 : decode cX5_ask 124 = .ok (.iload 12, 2) := by decide +kernel
theorem dX5_ask_126 : decode cX5_ask 126 = .ok (.iload 11, 2) := by decide +kernel
theorem dX5_ask_128 : decode cX5_ask 128 = .ok (.if_icmp .ge 7, 3) := by decide +kernel
theorem dX5_ask_131 : decode cX5_ask 131 = .ok (.iconst 1, 1) := by decide +kernel
theorem dX5_ask_132 : decode cX5_ask 132 = .ok (.goto 4, 3) := by decide +kernel
theorem dX5_ask_135 : decode cX5_ask 135 = .ok (.iconst 0, 1) := by decide +kernel
theorem dX5_ask_136 : decode cX5_ask 136 = .ok (.aload_n 1, 1) := by decide +kernel
theorem dX5_ask_137 : decode cX5_ask 137 = .ok (.iload_n 2, 1) := by decide +kernel
theorem dX5_ask_138 : decode cX5_ask 138 = .ok (.invokevirtual 82, 3) := by decide +kernel
theorem dX5_ask_141 : decode cX5_ask 141 = .ok (.if_icmp .ne 7, 3) := by decide +kernel
theorem dX5_ask_144 : decode cX5_ask 144 = .ok (.iconst 1, 1) := by decide +kernel
theorem dX5_ask_145 : decode cX5_ask 145 = .ok (.goto 4, 3) := by decide +kernel
theorem dX5_ask_148 : decode cX5_ask 148 = .ok (.iconst 0, 1) := by decide +kernel
theorem dX5_ask_149 : decode cX5_ask 149 = .ok (.iload 12, 2) := by decide +kernel
theorem dX5_ask_151 : decode cX5_ask 151 = .ok (.iload 11, 2) := by decide +kernel
theorem dX5_ask_153 : decode cX5_ask 153 = .ok (.if_icmp .ge 17, 3) := by decide +kernel
theorem dX5_ask_156 : decode cX5_ask 156 = .ok (.iload 12, 2) := by decide +kernel
theorem dX5_ask_158 : decode cX5_ask 158 = .ok (.bipush 10, 2) := by decide +kernel
theorem dX5_ask_160 : decode cX5_ask 160 = .ok (.iload 10, 2) := by decide +kernel
theorem dX5_ask_162 : decode cX5_ask 162 = .ok (.imul, 1) := by decide +kernel
theorem dX5_ask_163 : decode cX5_ask 163 = .ok (.if_icmp .lt 7, 3) := by decide +kernel
theorem dX5_ask_166 : decode cX5_ask 166 = .ok (.iconst 1, 1) := by decide +kernel
theorem dX5_ask_167 : decode cX5_ask 167 = .ok (.goto 4, 3) := by decide +kernel
theorem dX5_ask_170 : decode cX5_ask 170 = .ok (.iconst 0, 1) := by decide +kernel
theorem dX5_ask_171 : decode cX5_ask 171 = .ok (.invokevirtual 85, 3) := by decide +kernel
theorem dX5_ask_174 : decode cX5_ask 174 = .ok (.iinc 8 1, 3) := by decide +kernel
theorem dX5_ask_177 : decode cX5_ask 177 = .ok (.goto (-77), 3) := by decide +kernel
theorem dX5_ask_180 : decode cX5_ask 180 = .ok (.iinc 9 1, 3) := by decide +kernel
theorem dX5_ask_183 : decode cX5_ask 183 = .ok (.goto (-148), 3) := by decide +kernel
theorem dX5_ask_186 : decode cX5_ask 186 = .ok (.return_, 1) := by decide +kernel
theorem dX5_draw_0 : decode cX5_draw 0 = .ok (.lload_n 0, 1) := by decide +kernel
theorem dX5_draw_1 : decode cX5_draw 1 = .ok (.lload_n 0, 1) := by decide +kernel
theorem dX5_draw_2 : decode cX5_draw 2 = .ok (.lmul, 1) := by decide +kernel
theorem dX5_draw_3 : decode cX5_draw 3 = .ok (.ldc2_w 89, 3) := by decide +kernel
theorem dX5_draw_6 : decode cX5_draw 6 = .ok (.lrem, 1) := by decide +kernel
theorem dX5_draw_7 : decode cX5_draw 7 = .ok (.ldc2_w 91, 3) := by decide +kernel
theorem dX5_draw_10 : decode cX5_draw 10 = .ok (.lrem, 1) := by decide +kernel
theorem dX5_draw_11 : decode cX5_draw 11 = .ok (.l2i, 1) := by decide +kernel
theorem dX5_draw_12 : decode cX5_draw 12 = .ok (.ireturn, 1) := by decide +kernel
theorem dX5_keepOrSend_0 : decode cX5_keepOrSend 0 = .ok (.iload_n 1, 1) := by decide +kernel
theorem dX5_keepOrSend_1 : decode cX5_keepOrSend 1 = .ok (.ifCond .lt 30, 3) := by decide +kernel
theorem dX5_keepOrSend_4 : decode cX5_keepOrSend 4 = .ok (.iload_n 1, 1) := by decide +kernel
theorem dX5_keepOrSend_5 : decode cX5_keepOrSend 5 = .ok (.aload_n 0, 1) := by decide +kernel
theorem dX5_keepOrSend_6 : decode cX5_keepOrSend 6 = .ok (.getfield 9, 3) := by decide +kernel
theorem dX5_keepOrSend_9 : decode cX5_keepOrSend 9 = .ok (.arraylength, 1) := by decide +kernel
theorem dX5_keepOrSend_10 : decode cX5_keepOrSend 10 = .ok (.if_icmp .ge 21, 3) := by decide +kernel
theorem dX5_keepOrSend_13 : decode cX5_keepOrSend 13 = .ok (.iload_n 1, 1) := by decide +kernel
theorem dX5_keepOrSend_14 : decode cX5_keepOrSend 14 = .ok (.aload_n 0, 1) := by decide +kernel
theorem dX5_keepOrSend_15 : decode cX5_keepOrSend 15 = .ok (.getfield 15, 3) := by decide +kernel
theorem dX5_keepOrSend_18 : decode cX5_keepOrSend 18 = .ok (.arraylength, 1) := by decide +kernel
theorem dX5_keepOrSend_19 : decode cX5_keepOrSend 19 = .ok (.if_icmp .ge 12, 3) := by decide +kernel
theorem dX5_keepOrSend_22 : decode cX5_keepOrSend 22 = .ok (.aload_n 0, 1) := by decide +kernel
theorem dX5_keepOrSend_23 : decode cX5_keepOrSend 23 = .ok (.getfield 9, 3) := by decide +kernel
theorem dX5_keepOrSend_26 : decode cX5_keepOrSend 26 = .ok (.iload_n 1, 1) := by decide +kernel
theorem dX5_keepOrSend_27 : decode cX5_keepOrSend 27 = .ok (.baload, 1) := by decide +kernel
theorem dX5_keepOrSend_28 : decode cX5_keepOrSend 28 = .ok (.ifCond .ne 4, 3) := by decide +kernel
theorem dX5_keepOrSend_31 : decode cX5_keepOrSend 31 = .ok (.return_, 1) := by decide +kernel
theorem dX5_keepOrSend_32 : decode cX5_keepOrSend 32 = .ok (.aload_n 0, 1) := by decide +kernel
theorem dX5_keepOrSend_33 : decode cX5_keepOrSend 33 = .ok (.getfield 9, 3) := by decide +kernel
theorem dX5_keepOrSend_36 : decode cX5_keepOrSend 36 = .ok (.iload_n 1, 1) := by decide +kernel
theorem dX5_keepOrSend_37 : decode cX5_keepOrSend 37 = .ok (.iload_n 2, 1) := by decide +kernel
theorem dX5_keepOrSend_38 : decode cX5_keepOrSend 38 = .ok (.bastore, 1) := by decide +kernel
theorem dX5_keepOrSend_39 : decode cX5_keepOrSend 39 = .ok (.aload_n 0, 1) := by decide +kernel
theorem dX5_keepOrSend_40 : decode cX5_keepOrSend 40 = .ok (.getfield 15, 3) := by decide +kernel
theorem dX5_keepOrSend_43 : decode cX5_keepOrSend 43 = .ok (.iload_n 1, 1) := by decide +kernel
theorem dX5_keepOrSend_44 : decode cX5_keepOrSend 44 = .ok (.iload_n 2, 1) := by decide +kernel
theorem dX5_keepOrSend_45 : decode cX5_keepOrSend 45 = .ok (.ifCond .eq 11, 3) := by decide +kernel
theorem dX5_keepOrSend_48 : decode cX5_keepOrSend 48 = .ok (.iload_n 3, 1) := by decide +kernel
theorem dX5_keepOrSend_49 : decode cX5_keepOrSend 49 = .ok (.ifCond .eq 7, 3) := by decide +kernel
theorem dX5_keepOrSend_52 : decode cX5_keepOrSend 52 = .ok (.iconst 1, 1) := by decide +kernel
theorem dX5_keepOrSend_53 : decode cX5_keepOrSend 53 = .ok (.goto 4, 3) := by decide +kernel
theorem dX5_keepOrSend_56 : decode cX5_keepOrSend 56 = .ok (.iconst 0, 1) := by decide +kernel
theorem dX5_keepOrSend_57 : decode cX5_keepOrSend 57 = .ok (.bastore, 1) := by decide +kernel
theorem dX5_keepOrSend_58 : decode cX5_keepOrSend 58 = .ok (.iload_n 2, 1) := by decide +kernel
theorem dX5_keepOrSend_59 : decode cX5_keepOrSend 59 = .ok (.ifCond .ne 13, 3) := by decide +kernel
theorem dX5_keepOrSend_62 : decode cX5_keepOrSend 62 = .ok (.aload_n 0, 1) := by decide +kernel
theorem dX5_keepOrSend_63 : decode cX5_keepOrSend 63 = .ok (.dup, 1) := by decide +kernel
theorem dX5_keepOrSend_64 : decode cX5_keepOrSend 64 = .ok (.getfield 28, 3) := by decide +kernel
theorem dX5_keepOrSend_67 : decode cX5_keepOrSend 67 = .ok (.iconst 1, 1) := by decide +kernel
theorem dX5_keepOrSend_68 : decode cX5_keepOrSend 68 = .ok (.isub, 1) := by decide +kernel
theorem dX5_keepOrSend_69 : decode cX5_keepOrSend 69 = .ok (.putfield 28, 3) := by decide +kernel
theorem dX5_keepOrSend_72 : decode cX5_keepOrSend 72 = .ok (.return_, 1) := by decide +kernel
theorem dX5_playedAt_0 : decode cX5_playedAt 0 = .ok (.iload_n 1, 1) := by decide +kernel
theorem dX5_playedAt_1 : decode cX5_playedAt 1 = .ok (.ifCond .lt 25, 3) := by decide +kernel
theorem dX5_playedAt_4 : decode cX5_playedAt 4 = .ok (.iload_n 1, 1) := by decide +kernel
theorem dX5_playedAt_5 : decode cX5_playedAt 5 = .ok (.aload_n 0, 1) := by decide +kernel
theorem dX5_playedAt_6 : decode cX5_playedAt 6 = .ok (.getfield 15, 3) := by decide +kernel
theorem dX5_playedAt_9 : decode cX5_playedAt 9 = .ok (.arraylength, 1) := by decide +kernel
theorem dX5_playedAt_10 : decode cX5_playedAt 10 = .ok (.if_icmp .ge 16, 3) := by decide +kernel
theorem dX5_playedAt_13 : decode cX5_playedAt 13 = .ok (.aload_n 0, 1) := by decide +kernel
theorem dX5_playedAt_14 : decode cX5_playedAt 14 = .ok (.getfield 15, 3) := by decide +kernel
theorem dX5_playedAt_17 : decode cX5_playedAt 17 = .ok (.iload_n 1, 1) := by decide +kernel
theorem dX5_playedAt_18 : decode cX5_playedAt 18 = .ok (.baload, 1) := by decide +kernel
theorem dX5_playedAt_19 : decode cX5_playedAt 19 = .ok (.ifCond .eq 7, 3) := by decide +kernel
theorem dX5_playedAt_22 : decode cX5_playedAt 22 = .ok (.iconst 1, 1) := by decide +kernel
theorem dX5_playedAt_23 : decode cX5_playedAt 23 = .ok (.goto 4, 3) := by decide +kernel
theorem dX5_playedAt_26 : decode cX5_playedAt 26 = .ok (.iconst 0, 1) := by decide +kernel
theorem dX5_playedAt_27 : decode cX5_playedAt 27 = .ok (.ireturn, 1) := by decide +kernel
theorem dX5_players_0 : decode cX5_players 0 = .ok (.iconst 0, 1) := by decide +kernel
theorem dX5_players_1 : decode cX5_players 1 = .ok (.istore_n 1, 1) := by decide +kernel
theorem dX5_players_2 : decode cX5_players 2 = .ok (.iconst 0, 1) := by decide +kernel
theorem dX5_players_3 : decode cX5_players 3 = .ok (.istore_n 2, 1) := by decide +kernel
theorem dX5_players_4 : decode cX5_players 4 = .ok (.iload_n 2, 1) := by decide +kernel
theorem dX5_players_5 : decode cX5_players 5 = .ok (.aload_n 0, 1) := by decide +kernel
theorem dX5_players_6 : decode cX5_players 6 = .ok (.getfield 15, 3) := by decide +kernel
theorem dX5_players_9 : decode cX5_players 9 = .ok (.arraylength, 1) := by decide +kernel
theorem dX5_players_10 : decode cX5_players 10 = .ok (.if_icmp .ge 21, 3) := by decide +kernel
theorem dX5_players_13 : decode cX5_players 13 = .ok (.aload_n 0, 1) := by decide +kernel
theorem dX5_players_14 : decode cX5_players 14 = .ok (.getfield 15, 3) := by decide +kernel
theorem dX5_players_17 : decode cX5_players 17 = .ok (.iload_n 2, 1) := by decide +kernel
theorem dX5_players_18 : decode cX5_players 18 = .ok (.baload, 1) := by decide +kernel
theorem dX5_players_19 : decode cX5_players 19 = .ok (.ifCond .eq 6, 3) := by decide +kernel
theorem dX5_players_22 : decode cX5_players 22 = .ok (.iinc 1 1, 3) := by decide +kernel
theorem dX5_players_25 : decode cX5_players 25 = .ok (.iinc 2 1, 3) := by decide +kernel
theorem dX5_players_28 : decode cX5_players 28 = .ok (.goto (-24), 3) := by decide +kernel
theorem dX5_players_31 : decode cX5_players 31 = .ok (.iload_n 1, 1) := by decide +kernel
theorem dX5_players_32 : decode cX5_players 32 = .ok (.ireturn, 1) := by decide +kernel
theorem dX5_person_0 : decode cX5_person 0 = .ok (.iconst 0, 1) := by decide +kernel
theorem dX5_person_1 : decode cX5_person 1 = .ok (.istore_n 2, 1) := by decide +kernel
theorem dX5_person_2 : decode cX5_person 2 = .ok (.iconst 0, 1) := by decide +kernel
theorem dX5_person_3 : decode cX5_person 3 = .ok (.istore_n 3, 1) := by decide +kernel
theorem dX5_person_4 : decode cX5_person 4 = .ok (.iload_n 3, 1) := by decide +kernel
theorem dX5_person_5 : decode cX5_person 5 = .ok (.aload_n 0, 1) := by decide +kernel
theorem dX5_person_6 : decode cX5_person 6 = .ok (.getfield 9, 3) := by decide +kernel
theorem dX5_person_9 : decode cX5_person 9 = .ok (.arraylength, 1) := by decide +kernel
theorem dX5_person_10 : decode cX5_person 10 = .ok (.if_icmp .ge 28, 3) := by decide +kernel
theorem dX5_person_13 : decode cX5_person 13 = .ok (.aload_n 0, 1) := by decide +kernel
theorem dX5_person_14 : decode cX5_person 14 = .ok (.getfield 9, 3) := by decide +kernel
theorem dX5_person_17 : decode cX5_person 17 = .ok (.iload_n 3, 1) := by decide +kernel
theorem dX5_person_18 : decode cX5_person 18 = .ok (.baload, 1) := by decide +kernel
theorem dX5_person_19 : decode cX5_person 19 = .ok (.ifCond .eq 13, 3) := by decide +kernel
theorem dX5_person_22 : decode cX5_person 22 = .ok (.iload_n 2, 1) := by decide +kernel
theorem dX5_person_23 : decode cX5_person 23 = .ok (.iload_n 1, 1) := by decide +kernel
theorem dX5_person_24 : decode cX5_person 24 = .ok (.if_icmp .ne 5, 3) := by decide +kernel
theorem dX5_person_27 : decode cX5_person 27 = .ok (.iload_n 3, 1) := by decide +kernel
theorem dX5_person_28 : decode cX5_person 28 = .ok (.ireturn, 1) := by decide +kernel
theorem dX5_person_29 : decode cX5_person 29 = .ok (.iinc 2 1, 3) := by decide +kernel
theorem dX5_person_32 : decode cX5_person 32 = .ok (.iinc 3 1, 3) := by decide +kernel
theorem dX5_person_35 : decode cX5_person 35 = .ok (.goto (-31), 3) := by decide +kernel
theorem dX5_person_38 : decode cX5_person 38 = .ok (.bipush (-4), 2) := by decide +kernel
theorem dX5_person_40 : decode cX5_person 40 = .ok (.ireturn, 1) := by decide +kernel
theorem dX6_init_0 : decode cX6_init 0 = .ok (.aload_n 0, 1) := by decide +kernel
theorem dX6_init_1 : decode cX6_init 1 = .ok (.invokespecial 3, 3) := by decide +kernel
theorem dX6_init_4 : decode cX6_init 4 = .ok (.aload_n 0, 1) := by decide +kernel
theorem dX6_init_5 : decode cX6_init 5 = .ok (.iconst 4, 1) := by decide +kernel
theorem dX6_init_6 : decode cX6_init 6 = .ok (.newarray .int, 2) := by decide +kernel
theorem dX6_init_8 : decode cX6_init 8 = .ok (.putfield 9, 3) := by decide +kernel
theorem dX6_init_11 : decode cX6_init 11 = .ok (.aload_n 0, 1) := by decide +kernel
theorem dX6_init_12 : decode cX6_init 12 = .ok (.aload_n 1, 1) := by decide +kernel
theorem dX6_init_13 : decode cX6_init 13 = .ok (.putfield 15, 3) := by decide +kernel
theorem dX6_init_16 : decode cX6_init 16 = .ok (.aload_n 0, 1) := by decide +kernel
theorem dX6_init_17 : decode cX6_init 17 = .ok (.aload_n 2, 1) := by decide +kernel
theorem dX6_init_18 : decode cX6_init 18 = .ok (.putfield 19, 3) := by decide +kernel
theorem dX6_init_21 : decode cX6_init 21 = .ok (.return_, 1) := by decide +kernel
theorem dX6_read_0 : decode cX6_read 0 = .ok (.aload_n 0, 1) := by decide +kernel
theorem dX6_read_1 : decode cX6_read 1 = .ok (.getfield 15, 3) := by decide +kernel
theorem dX6_read_4 : decode cX6_read 4 = .ok (.invokevirtual 23, 3) := by decide +kernel
theorem dX6_read_7 : decode cX6_read 7 = .ok (.aload_n 0, 1) := by decide +kernel
theorem dX6_read_8 : decode cX6_read 8 = .ok (.getfield 19, 3) := by decide +kernel
theorem dX6_read_11 : decode cX6_read 11 = .ok (.iconst 0, 1) := by decide +kernel
theorem dX6_read_12 : decode cX6_read 12 = .ok (.putfield 28, 3) := by decide +kernel
theorem dX6_read_15 : decode cX6_read 15 = .ok (.iconst 0, 1) := by decide +kernel
theorem dX6_read_16 : decode cX6_read 16 = .ok (.istore_n 2, 1) := by decide +kernel
theorem dX6_read_17 : decode cX6_read 17 = .ok (.iconst 0, 1) := by decide +kernel
theorem dX6_read_18 : decode cX6_read 18 = .ok (.istore_n 3, 1) := by decide +kernel
theorem dX6_read_19 : decode cX6_read 19 = .ok (.iload_n 3, 1) := by decide +kernel
theorem dX6_read_20 : decode cX6_read 20 = .ok (.sipush 400, 3) := by decide +kernel
theorem dX6_read_23 : decode cX6_read 23 = .ok (.if_icmp .gt 51, 3) := by decide +kernel
theorem dX6_read_26 : decode cX6_read 26 = .ok (.iload_n 2, 1) := by decide +kernel
theorem dX6_read_27 : decode cX6_read 27 = .ok (.aload_n 1, 1) := by decide +kernel
theorem dX6_read_28 : decode cX6_read 28 = .ok (.getfield 34, 3) := by decide +kernel
theorem dX6_read_31 : decode cX6_read 31 = .ok (.if_icmp .ge 43, 3) := by decide +kernel
theorem dX6_read_34 : decode cX6_read 34 = .ok (.aload_n 0, 1) := by decide +kernel
theorem dX6_read_35 : decode cX6_read 35 = .ok (.aload_n 1, 1) := by decide +kernel
theorem dX6_read_36 : decode cX6_read 36 = .ok (.iload_n 2, 1) := by decide +kernel
theorem dX6_read_37 : decode cX6_read 37 = .ok (.iconst 1, 1) := by decide +kernel
theorem dX6_read_38 : decode cX6_read 38 = .ok (.iadd, 1) := by decide +kernel
theorem dX6_read_39 : decode cX6_read 39 = .ok (.invokevirtual 37, 3) := by decide +kernel
theorem dX6_read_42 : decode cX6_read 42 = .ok (.istore 4, 2) := by decide +kernel
theorem dX6_read_44 : decode cX6_read 44 = .ok (.iload 4, 2) := by decide +kernel
theorem dX6_read_46 : decode cX6_read 46 = .ok (.bipush (-4), 2) := by decide +kernel
theorem dX6_read_48 : decode cX6_read 48 = .ok (.if_icmp .eq 15, 3) := by decide +kernel
theorem dX6_read_51 : decode cX6_read 51 = .ok (.aload_n 0, 1) := by decide +kernel
theorem dX6_read_52 : decode cX6_read 52 = .ok (.aload_n 1, 1) := by decide +kernel
theorem dX6_read_53 : decode cX6_read 53 = .ok (.iload_n 2, 1) := by decide +kernel
theorem dX6_read_54 : decode cX6_read 54 = .ok (.invokevirtual 41, 3) := by decide +kernel
theorem dX6_read_57 : decode cX6_read 57 = .ok (.invokevirtual 45, 3) := by decide +kernel
theorem dX6_read_60 : decode cX6_read 60 = .ok (.ifCond .ne 5, 3) := by decide +kernel
theorem dX6_read_63 : decode cX6_read 63 = .ok (.iload_n 2, 1) := by decide +kernel
theorem dX6_read_64 : decode cX6_read 64 = .ok (.ireturn, 1) := by decide +kernel
theorem dX6_read_65 : decode cX6_read 65 = .ok (.iload 4, 2) := by decide +kernel
theorem dX6_read_67 : decode cX6_read 67 = .ok (.istore_n 2, 1) := by decide +kernel
theorem dX6_read_68 : decode cX6_read 68 = .ok (.iinc 3 1, 3) := by decide +kernel
theorem dX6_read_71 : decode cX6_read 71 = .ok (.goto (-52), 3) := by decide +kernel
theorem dX6_read_74 : decode cX6_read 74 = .ok (.bipush (-4), 2) := by decide +kernel
theorem dX6_read_76 : decode cX6_read 76 = .ok (.ireturn, 1) := by decide +kernel
theorem dX6_readNumbers_0 : decode cX6_readNumbers 0 = .ok (.aload_n 0, 1) := by decide +kernel
theorem dX6_readNumbers_1 : decode cX6_readNumbers 1 = .ok (.iconst 0, 1) := by decide +kernel
theorem dX6_readNumbers_2 : decode cX6_readNumbers 2 = .ok (.putfield 49, 3) := by decide +kernel
theorem dX6_readNumbers_5 : decode cX6_readNumbers 5 = .ok (.iconst 0, 1) := by decide +kernel
theorem dX6_readNumbers_6 : decode cX6_readNumbers 6 = .ok (.istore_n 3, 1) := by decide +kernel
theorem dX6_readNumbers_7 : decode cX6_readNumbers 7 = .ok (.iconst 0, 1) := by decide +kernel
theorem dX6_readNumbers_8 : decode cX6_readNumbers 8 = .ok (.istore 4, 2) := by decide +kernel
theorem dX6_readNumbers_10 : decode cX6_readNumbers 10 = .ok (.iload_n 2, 1) := by decide +kernel
theorem dX6_readNumbers_11 : decode cX6_readNumbers 11 = .ok (.istore 5, 2) := by decide +kernel
theorem dX6_readNumbers_13 : decode cX6_readNumbers 13 = .ok (.iload 5, 2) := by decide +kernel
theorem dX6_readNumbers_15 : decode cX6_readNumbers 15 = .ok (.aload_n 1, 1) := by decide +kernel
theorem dX6_readNumbers_16 : decode cX6_readNumbers 16 = .ok (.getfield 34, 3) := by decide +kernel
theorem dX6_readNumbers_19 : decode cX6_readNumbers 19 = .ok (.if_icmp .ge 127, 3) := by decide +kernel
theorem dX6_readNumbers_22 : decode cX6_readNumbers 22 = .ok (.aload_n 1, 1) := by decide +kernel
theorem dX6_readNumbers_23 : decode cX6_readNumbers 23 = .ok (.iload 5, 2) := by decide +kernel
theorem dX6_readNumbers_25 : decode cX6_readNumbers 25 = .ok (.invokevirtual 41, 3) := by decide +kernel
theorem dX6_readNumbers_28 : decode cX6_readNumbers 28 = .ok (.istore 6, 2) := by decide +kernel
theorem dX6_readNumbers_30 : decode cX6_readNumbers 30 = .ok (.iload 6, 2) := by decide +kernel
theorem dX6_readNumbers_32 : decode cX6_readNumbers 32 = .ok (.bipush 48, 2) := by decide +kernel
theorem dX6_readNumbers_34 : decode cX6_readNumbers 34 = .ok (.if_icmp .lt 33, 3) := by decide +kernel
theorem dX6_readNumbers_37 : decode cX6_readNumbers 37 = .ok (.iload 6, 2) := by decide +kernel
theorem dX6_readNumbers_39 : decode cX6_readNumbers 39 = .ok (.bipush 57, 2) := by decide +kernel
theorem dX6_readNumbers_41 : decode cX6_readNumbers 41 = .ok (.if_icmp .gt 26, 3) := by decide +kernel
theorem dX6_readNumbers_44 : decode cX6_readNumbers 44 = .ok (.iload 4, 2) := by decide +kernel
theorem dX6_readNumbers_46 : decode cX6_readNumbers 46 = .ok (.iconst 3, 1) := by decide +kernel
theorem dX6_readNumbers_47 : decode cX6_readNumbers 47 = .ok (.if_icmp .ge 20, 3) := by decide +kernel
theorem dX6_readNumbers_50 : decode cX6_readNumbers 50 = .ok (.bipush 10, 2) := by decide +kernel
theorem dX6_readNumbers_52 : decode cX6_readNumbers 52 = .ok (.iload_n 3, 1) := by decide +kernel
theorem dX6_readNumbers_53 : decode cX6_readNumbers 53 = .ok (.imul, 1) := by decide +kernel
theorem dX6_readNumbers_54 : decode cX6_readNumbers 54 = .ok (.iload 6, 2) := by decide +kernel
theorem dX6_readNumbers_56 : decode cX6_readNumbers 56 = .ok (.iadd, 1) := by decide +kernel
theorem dX6_readNumbers_57 : decode cX6_readNumbers 57 = .ok (.bipush 48, 2) := by decide +kernel
theorem dX6_readNumbers_59 : decode cX6_readNumbers 59 = .ok (.isub, 1) := by decide +kernel
theorem dX6_readNumbers_60 : decode cX6_readNumbers 60 = .ok (.istore_n 3, 1) := by decide +kernel
theorem dX6_readNumbers_61 : decode cX6_readNumbers 61 = .ok (.iinc 4 1, 3) := by decide +kernel
theorem dX6_readNumbers_64 : decode cX6_readNumbers 64 = .ok (.goto 76, 3) := by decide +kernel
theorem dX6_readNumbers_67 : decode cX6_readNumbers 67 = .ok (.iload 6, 2) := by decide +kernel
theorem dX6_readNumbers_69 : decode cX6_readNumbers 69 = .ok (.bipush 44, 2) := by decide +kernel
theorem dX6_readNumbers_71 : decode cX6_readNumbers 71 = .ok (.if_icmp .eq 10, 3) := by decide +kernel
theorem dX6_readNumbers_74 : decode cX6_readNumbers 74 = .ok (.iload 6, 2) := by decide +kernel
theorem dX6_readNumbers_76 : decode cX6_readNumbers 76 = .ok (.bipush 59, 2) := by decide +kernel
theorem dX6_readNumbers_78 : decode cX6_readNumbers 78 = .ok (.if_icmp .ne 59, 3) := by decide +kernel
theorem dX6_readNumbers_81 : decode cX6_readNumbers 81 = .ok (.iload 4, 2) := by decide +kernel
theorem dX6_readNumbers_83 : decode cX6_readNumbers 83 = .ok (.ifCond .le 54, 3) := by decide +kernel
theorem dX6_readNumbers_86 : decode cX6_readNumbers 86 = .ok (.aload_n 0, 1) := by decide +kernel
theorem dX6_readNumbers_87 : decode cX6_readNumbers 87 = .ok (.getfield 49, 3) := by decide +kernel
theorem dX6_readNumbers_90 : decode cX6_readNumbers 90 = .ok (.aload_n 0, 1) := by decide +kernel
theorem dX6_readNumbers_91 : decode cX6_readNumbers 91 = .ok (.getfield 9, 3) := by decide +kernel
theorem dX6_readNumbers_94 : decode cX6_readNumbers 94 = .ok (.arraylength, 1) := by decide +kernel
theorem dX6_readNumbers_95 : decode cX6_readNumbers 95 = .ok (.if_icmp .ge 42, 3) := by decide +kernel
theorem dX6_readNumbers_98 : decode cX6_readNumbers 98 = .ok (.aload_n 0, 1) := by decide +kernel
theorem dX6_readNumbers_99 : decode cX6_readNumbers 99 = .ok (.getfield 9, 3) := by decide +kernel
theorem dX6_readNumbers_102 : decode cX6_readNumbers 102 = .ok (.aload_n 0, 1) := by decide +kernel
theorem dX6_readNumbers_103 : decode cX6_readNumbers 103 = .ok (.getfield 49, 3) := by decide +kernel
theorem dX6_readNumbers_106 : decode cX6_readNumbers 106 = .ok (.iload_n 3, 1) := by decide +kernel
theorem dX6_readNumbers_107 : decode cX6_readNumbers 107 = .ok (.invokestatic 52, 3) := by decide +kernel
theorem dX6_readNumbers_110 : decode cX6_readNumbers 110 = .ok (.aload_n 0, 1) := by decide +kernel
theorem dX6_readNumbers_111 : decode cX6_readNumbers 111 = .ok (.dup, 1) := by decide +kernel
theorem dX6_readNumbers_112 : decode cX6_readNumbers 112 = .ok (.getfield 49, 3) := by decide +kernel
theorem dX6_readNumbers_115 : decode cX6_readNumbers 115 = .ok (.iconst 1, 1) := by decide +kernel
theorem dX6_readNumbers_116 : decode cX6_readNumbers 116 = .ok (.iadd, 1) := by decide +kernel
theorem dX6_readNumbers_117 : decode cX6_readNumbers 117 = .ok (.putfield 49, 3) := by decide +kernel
theorem dX6_readNumbers_120 : decode cX6_readNumbers 120 = .ok (.iconst 0, 1) := by decide +kernel
theorem dX6_readNumbers_121 : decode cX6_readNumbers 121 = .ok (.istore_n 3, 1) := by decide +kernel
theorem dX6_readNumbers_122 : decode cX6_readNumbers 122 = .ok (.iconst 0, 1) := by decide +kernel
theorem dX6_readNumbers_123 : decode cX6_readNumbers 123 = .ok (.istore 4, 2) := by decide +kernel
theorem dX6_readNumbers_125 : decode cX6_readNumbers 125 = .ok (.iload 6, 2) := by decide +kernel
theorem dX6_readNumbers_127 : decode cX6_readNumbers 127 = .ok (.bipush 59, 2) := by decide +kernel
theorem dX6_readNumbers_129 : decode cX6_readNumbers 129 = .ok (.if_icmp .ne 11, 3) := by decide +kernel
theorem dX6_readNumbers_132 : decode cX6_readNumbers 132 = .ok (.iload 5, 2) := by decide +kernel
theorem dX6_readNumbers_134 : decode cX6_readNumbers 134 = .ok (.iconst 1, 1) := by decide +kernel
theorem dX6_readNumbers_135 : decode cX6_readNumbers 135 = .ok (.iadd, 1) := by decide +kernel
theorem dX6_readNumbers_136 : decode cX6_readNumbers 136 = .ok (.ireturn, 1) := by decide +kernel
theorem dX6_readNumbers_137 : decode cX6_readNumbers 137 = .ok (.bipush (-4), 2) := by decide +kernel
theorem dX6_readNumbers_139 : decode cX6_readNumbers 139 = .ok (.ireturn, 1) := by decide +kernel
theorem dX6_readNumbers_140 : decode cX6_readNumbers 140 = .ok (.iinc 5 1, 3) := by decide +kernel
theorem dX6_readNumbers_143 : decode cX6_readNumbers 143 = .ok (.goto (-130), 3) := by decide +kernel
theorem dX6_readNumbers_146 : decode cX6_readNumbers 146 = .ok (.bipush (-4), 2) := by decide +kernel
theorem dX6_readNumbers_148 : decode cX6_readNumbers 148 = .ok (.ireturn, 1) := by decide +kernel
theorem dX6_take_0 : decode cX6_take 0 = .ok (.aload_n 0, 1) := by decide +kernel
theorem dX6_take_1 : decode cX6_take 1 = .ok (.getfield 9, 3) := by decide +kernel
theorem dX6_take_4 : decode cX6_take 4 = .ok (.iconst 0, 1) := by decide +kernel
theorem dX6_take_5 : decode cX6_take 5 = .ok (.invokestatic 56, 3) := by decide +kernel
theorem dX6_take_8 : decode cX6_take 8 = .ok (.istore_n 2, 1) := by decide +kernel
theorem dX6_take_9 : decode cX6_take 9 = .ok (.aload_n 0, 1) := by decide +kernel
theorem dX6_take_10 : decode cX6_take 10 = .ok (.getfield 9, 3) := by decide +kernel
theorem dX6_take_13 : decode cX6_take 13 = .ok (.iconst 1, 1) := by decide +kernel
theorem dX6_take_14 : decode cX6_take 14 = .ok (.invokestatic 56, 3) := by decide +kernel
theorem dX6_take_17 : decode cX6_take 17 = .ok (.istore_n 3, 1) := by decide +kernel
theorem dX6_take_18 : decode cX6_take 18 = .ok (.iload_n 1, 1) := by decide +kernel
theorem dX6_take_19 : decode cX6_take 19 = .ok (.lookupswitch 230 #[(97, 91), (99, 179), (112, 204), (115, 49), (116, 133)], 49) := by decide +kernel
theorem dX6_take_68 : decode cX6_take 68 = .ok (.aload_n 0, 1) := by decide +kernel
theorem dX6_take_69 : decode cX6_take 69 = .ok (.getfield 49, 3) := by decide +kernel
theorem dX6_take_72 : decode cX6_take 72 = .ok (.iconst 4, 1) := by decide +kernel
theorem dX6_take_73 : decode cX6_take 73 = .ok (.if_icmp .ne 35, 3) := by decide +kernel
theorem dX6_take_76 : decode cX6_take 76 = .ok (.aload_n 0, 1) := by decide +kernel
theorem dX6_take_77 : decode cX6_take 77 = .ok (.getfield 15, 3) := by decide +kernel
theorem dX6_take_80 : decode cX6_take 80 = .ok (.iload_n 2, 1) := by decide +kernel
theorem dX6_take_81 : decode cX6_take 81 = .ok (.iload_n 3, 1) := by decide +kernel
theorem dX6_take_82 : decode cX6_take 82 = .ok (.aload_n 0, 1) := by decide +kernel
theorem dX6_take_83 : decode cX6_take 83 = .ok (.getfield 9, 3) := by decide +kernel
theorem dX6_take_86 : decode cX6_take 86 = .ok (.iconst 2, 1) := by decide +kernel
theorem dX6_take_87 : decode cX6_take 87 = .ok (.invokestatic 56, 3) := by decide +kernel
theorem dX6_take_90 : decode cX6_take 90 = .ok (.aload_n 0, 1) := by decide +kernel
theorem dX6_take_91 : decode cX6_take 91 = .ok (.getfield 9, 3) := by decide +kernel
theorem dX6_take_94 : decode cX6_take 94 = .ok (.iconst 3, 1) := by decide +kernel
theorem dX6_take_95 : decode cX6_take 95 = .ok (.invokestatic 56, 3) := by decide +kernel
theorem dX6_take_98 : decode cX6_take 98 = .ok (.invokevirtual 60, 3) := by decide +kernel
theorem dX6_take_101 : decode cX6_take 101 = .ok (.ifCond .eq 7, 3) := by decide +kernel
theorem dX6_take_104 : decode cX6_take 104 = .ok (.iconst 1, 1) := by decide +kernel
theorem dX6_take_105 : decode cX6_take 105 = .ok (.goto 4, 3) := by decide +kernel
theorem dX6_take_108 : decode cX6_take 108 = .ok (.iconst 0, 1) := by decide +kernel
theorem dX6_take_109 : decode cX6_take 109 = .ok (.ireturn, 1) := by decide +kernel
theorem dX6_take_110 : decode cX6_take 110 = .ok (.aload_n 0, 1) := by decide +kernel
theorem dX6_take_111 : decode cX6_take 111 = .ok (.getfield 49, 3) := by decide +kernel
theorem dX6_take_114 : decode cX6_take 114 = .ok (.iconst 4, 1) := by decide +kernel
theorem dX6_take_115 : decode cX6_take 115 = .ok (.if_icmp .ne 35, 3) := by decide +kernel
theorem dX6_take_118 : decode cX6_take 118 = .ok (.aload_n 0, 1) := by decide +kernel
theorem dX6_take_119 : decode cX6_take 119 = .ok (.getfield 15, 3) := by decide +kernel
theorem dX6_take_122 : decode cX6_take 122 = .ok (.iload_n 2, 1) := by decide +kernel
theorem dX6_take_123 : decode cX6_take 123 = .ok (.iload_n 3, 1) := by decide +kernel
theorem dX6_take_124 : decode cX6_take 124 = .ok (.aload_n 0, 1) := by decide +kernel
theorem dX6_take_125 : decode cX6_take 125 = .ok (.getfield 9, 3) := by decide +kernel
theorem dX6_take_128 : decode cX6_take 128 = .ok (.iconst 2, 1) := by decide +kernel
theorem dX6_take_129 : decode cX6_take 129 = .ok (.invokestatic 56, 3) := by decide +kernel
theorem dX6_take_132 : decode cX6_take 132 = .ok (.aload_n 0, 1) := by decide +kernel
theorem dX6_take_133 : decode cX6_take 133 = .ok (.getfield 9, 3) := by decide +kernel
theorem dX6_take_136 : decode cX6_take 136 = .ok (.iconst 3, 1) := by decide +kernel
theorem dX6_take_137 : decode cX6_take 137 = .ok (.invokestatic 56, 3) := by decide +kernel
theorem dX6_take_140 : decode cX6_take 140 = .ok (.invokevirtual 64, 3) := by decide +kernel
theorem dX6_take_143 : decode cX6_take 143 = .ok (.ifCond .eq 7, 3) := by decide +kernel
theorem dX6_take_146 : decode cX6_take 146 = .ok (.iconst 1, 1) := by decide +kernel
theorem dX6_take_147 : decode cX6_take 147 = .ok (.goto 4, 3) := by decide +kernel
theorem dX6_take_150 : decode cX6_take 150 = .ok (.iconst 0, 1) := by decide +kernel
theorem dX6_take_151 : decode cX6_take 151 = .ok (.ireturn, 1) := by decide +kernel
theorem dX6_take_152 : decode cX6_take 152 = .ok (.aload_n 0, 1) := by decide +kernel
theorem dX6_take_153 : decode cX6_take 153 = .ok (.getfield 49, 3) := by decide +kernel
theorem dX6_take_156 : decode cX6_take 156 = .ok (.iconst 2, 1) := by decide +kernel
theorem dX6_take_157 : decode cX6_take 157 = .ok (.if_icmp .ne 39, 3) := by decide +kernel
theorem dX6_take_160 : decode cX6_take 160 = .ok (.aload_n 0, 1) := by decide +kernel
theorem dX6_take_161 : decode cX6_take 161 = .ok (.getfield 15, 3) := by decide +kernel
theorem dX6_take_164 : decode cX6_take 164 = .ok (.iload_n 2, 1) := by decide +kernel
theorem dX6_take_165 : decode cX6_take 165 = .ok (.invokevirtual 67, 3) := by decide +kernel
theorem dX6_take_168 : decode cX6_take 168 = .ok (.ifCond .eq 28, 3) := by decide +kernel
theorem dX6_take_171 : decode cX6_take 171 = .ok (.iload_n 3, 1) := by decide +kernel
theorem dX6_take_172 : decode cX6_take 172 = .ok (.iconst 0, 1) := by decide +kernel
theorem dX6_take_173 : decode cX6_take 173 = .ok (.iconst 1, 1) := by decide +kernel
theorem dX6_take_174 : decode cX6_take 174 = .ok (.invokestatic 70, 3) := by decide +kernel
theorem dX6_take_177 : decode cX6_take 177 = .ok (.ifCond .eq 19, 3) := by decide +kernel
theorem dX6_take_180 : decode cX6_take 180 = .ok (.aload_n 0, 1) := by decide +kernel
theorem dX6_take_181 : decode cX6_take 181 = .ok (.getfield 19, 3) := by decide +kernel
theorem dX6_take_184 : decode cX6_take 184 = .ok (.iload_n 2, 1) := by decide +kernel
theorem dX6_take_185 : decode cX6_take 185 = .ok (.iload_n 3, 1) := by decide +kernel
theorem dX6_take_186 : decode cX6_take 186 = .ok (.invokevirtual 74, 3) := by decide +kernel
theorem dX6_take_189 : decode cX6_take 189 = .ok (.ifCond .eq 7, 3) := by decide +kernel
theorem dX6_take_192 : decode cX6_take 192 = .ok (.iconst 1, 1) := by decide +kernel
theorem dX6_take_193 : decode cX6_take 193 = .ok (.goto 4, 3) := by decide +kernel
theorem dX6_take_196 : decode cX6_take 196 = .ok (.iconst 0, 1) := by decide +kernel
theorem dX6_take_197 : decode cX6_take 197 = .ok (.ireturn, 1) := by decide +kernel
theorem dX6_take_198 : decode cX6_take 198 = .ok (.aload_n 0, 1) := by decide +kernel
theorem dX6_take_199 : decode cX6_take 199 = .ok (.getfield 49, 3) := by decide +kernel
theorem dX6_take_202 : decode cX6_take 202 = .ok (.iconst 1, 1) := by decide +kernel
theorem dX6_take_203 : decode cX6_take 203 = .ok (.if_icmp .ne 18, 3) := by decide +kernel
theorem dX6_take_206 : decode cX6_take 206 = .ok (.aload_n 0, 1) := by decide +kernel
theorem dX6_take_207 : decode cX6_take 207 = .ok (.getfield 15, 3) := by decide +kernel
theorem dX6_take_210 : decode cX6_take 210 = .ok (.iload_n 2, 1) := by decide +kernel
theorem dX6_take_211 : decode cX6_take 211 = .ok (.invokevirtual 78, 3) := by decide +kernel
theorem dX6_take_214 : decode cX6_take 214 = .ok (.ifCond .eq 7, 3) := by decide +kernel
theorem dX6_take_217 : decode cX6_take 217 = .ok (.iconst 1, 1) := by decide +kernel
theorem dX6_take_218 : decode cX6_take 218 = .ok (.goto 4, 3) := by decide +kernel
theorem dX6_take_221 : decode cX6_take 221 = .ok (.iconst 0, 1) := by decide +kernel
theorem dX6_take_222 : decode cX6_take 222 = .ok (.ireturn, 1) := by decide +kernel
theorem dX6_take_223 : decode cX6_take 223 = .ok (.aload_n 0, 1) := by decide +kernel
theorem dX6_take_224 : decode cX6_take 224 = .ok (.getfield 49, 3) := by decide +kernel
theorem dX6_take_227 : decode cX6_take 227 = .ok (.iconst 2, 1) := by decide +kernel
theorem dX6_take_228 : decode cX6_take 228 = .ok (.if_icmp .ne 19, 3) := by decide +kernel
theorem dX6_take_231 : decode cX6_take 231 = .ok (.aload_n 0, 1) := by decide +kernel
theorem dX6_take_232 : decode cX6_take 232 = .ok (.getfield 15, 3) := by decide +kernel
theorem dX6_take_235 : decode cX6_take 235 = .ok (.iload_n 2, 1) := by decide +kernel
theorem dX6_take_236 : decode cX6_take 236 = .ok (.iload_n 3, 1) := by decide +kernel
theorem dX6_take_237 : decode cX6_take 237 = .ok (.invokevirtual 81, 3) := by decide +kernel
theorem dX6_take_240 : decode cX6_take 240 = .ok (.ifCond .eq 7, 3) := by decide +kernel
theorem dX6_take_243 : decode cX6_take 243 = .ok (.iconst 1, 1) := by decide +kernel
theorem dX6_take_244 : decode cX6_take 244 = .ok (.goto 4, 3) := by decide +kernel
theorem dX6_take_247 : decode cX6_take 247 = .ok (.iconst 0, 1) := by decide +kernel
theorem dX6_take_248 : decode cX6_take 248 = .ok (.ireturn, 1) := by decide +kernel
theorem dX6_take_249 : decode cX6_take 249 = .ok (.iconst 0, 1) := by decide +kernel
theorem dX6_take_250 : decode cX6_take 250 = .ok (.ireturn, 1) := by decide +kernel
theorem dX7_init_0 : decode cX7_init 0 = .ok (.aload_n 0, 1) := by decide +kernel
theorem dX7_init_1 : decode cX7_init 1 = .ok (.invokespecial 3, 3) := by decide +kernel
theorem dX7_init_4 : decode cX7_init 4 = .ok (.aload_n 0, 1) := by decide +kernel
theorem dX7_init_5 : decode cX7_init 5 = .ok (.bipush 8, 2) := by decide +kernel
theorem dX7_init_7 : decode cX7_init 7 = .ok (.newarray .int, 2) := by decide +kernel
theorem dX7_init_9 : decode cX7_init 9 = .ok (.putfield 9, 3) := by decide +kernel
theorem dX7_init_12 : decode cX7_init 12 = .ok (.aload_n 0, 1) := by decide +kernel
theorem dX7_init_13 : decode cX7_init 13 = .ok (.bipush 8, 2) := by decide +kernel
theorem dX7_init_15 : decode cX7_init 15 = .ok (.newarray .int, 2) := by decide +kernel
theorem dX7_init_17 : decode cX7_init 17 = .ok (.putfield 15, 3) := by decide +kernel
theorem dX7_init_20 : decode cX7_init 20 = .ok (.return_, 1) := by decide +kernel
theorem dX7_add_0 : decode cX7_add 0 = .ok (.aload_n 0, 1) := by decide +kernel
theorem dX7_add_1 : decode cX7_add 1 = .ok (.getfield 18, 3) := by decide +kernel
theorem dX7_add_4 : decode cX7_add 4 = .ok (.bipush 8, 2) := by decide +kernel
theorem dX7_add_6 : decode cX7_add 6 = .ok (.if_icmp .lt 5, 3) := by decide +kernel
theorem dX7_add_9 : decode cX7_add 9 = .ok (.iconst 0, 1) := by decide +kernel
theorem dX7_add_10 : decode cX7_add 10 = .ok (.ireturn, 1) := by decide +kernel
theorem dX7_add_11 : decode cX7_add 11 = .ok (.aload_n 0, 1) := by decide +kernel
theorem dX7_add_12 : decode cX7_add 12 = .ok (.getfield 9, 3) := by decide +kernel
theorem dX7_add_15 : decode cX7_add 15 = .ok (.aload_n 0, 1) := by decide +kernel
theorem dX7_add_16 : decode cX7_add 16 = .ok (.getfield 18, 3) := by decide +kernel
theorem dX7_add_19 : decode cX7_add 19 = .ok (.iload_n 1, 1) := by decide +kernel
theorem dX7_add_20 : decode cX7_add 20 = .ok (.invokestatic 22, 3) := by decide +kernel
theorem dX7_add_23 : decode cX7_add 23 = .ok (.aload_n 0, 1) := by decide +kernel
theorem dX7_add_24 : decode cX7_add 24 = .ok (.getfield 15, 3) := by decide +kernel
theorem dX7_add_27 : decode cX7_add 27 = .ok (.aload_n 0, 1) := by decide +kernel
theorem dX7_add_28 : decode cX7_add 28 = .ok (.getfield 18, 3) := by decide +kernel
theorem dX7_add_31 : decode cX7_add 31 = .ok (.iload_n 2, 1) := by decide +kernel
theorem dX7_add_32 : decode cX7_add 32 = .ok (.invokestatic 22, 3) := by decide +kernel
theorem dX7_add_35 : decode cX7_add 35 = .ok (.aload_n 0, 1) := by decide +kernel
theorem dX7_add_36 : decode cX7_add 36 = .ok (.dup, 1) := by decide +kernel
theorem dX7_add_37 : decode cX7_add 37 = .ok (.getfield 18, 3) := by decide +kernel
theorem dX7_add_40 : decode cX7_add 40 = .ok (.iconst 1, 1) := by decide +kernel
theorem dX7_add_41 : decode cX7_add 41 = .ok (.iadd, 1) := by decide +kernel
theorem dX7_add_42 : decode cX7_add 42 = .ok (.putfield 18, 3) := by decide +kernel
theorem dX7_add_45 : decode cX7_add 45 = .ok (.iconst 1, 1) := by decide +kernel
theorem dX7_add_46 : decode cX7_add 46 = .ok (.ireturn, 1) := by decide +kernel
theorem dX7_copy_0 : decode cX7_copy 0 = .ok (.aload_n 0, 1) := by decide +kernel
theorem dX7_copy_1 : decode cX7_copy 1 = .ok (.getfield 9, 3) := by decide +kernel
theorem dX7_copy_4 : decode cX7_copy 4 = .ok (.aload_n 1, 1) := by decide +kernel
theorem dX7_copy_5 : decode cX7_copy 5 = .ok (.getfield 9, 3) := by decide +kernel
theorem dX7_copy_8 : decode cX7_copy 8 = .ok (.invokestatic 26, 3) := by decide +kernel
theorem dX7_copy_11 : decode cX7_copy 11 = .ok (.aload_n 0, 1) := by decide +kernel
theorem dX7_copy_12 : decode cX7_copy 12 = .ok (.getfield 15, 3) := by decide +kernel
theorem dX7_copy_15 : decode cX7_copy 15 = .ok (.aload_n 1, 1) := by decide +kernel
theorem dX7_copy_16 : decode cX7_copy 16 = .ok (.getfield 15, 3) := by decide +kernel
theorem dX7_copy_19 : decode cX7_copy 19 = .ok (.invokestatic 26, 3) := by decide +kernel
theorem dX7_copy_22 : decode cX7_copy 22 = .ok (.aload_n 0, 1) := by decide +kernel
theorem dX7_copy_23 : decode cX7_copy 23 = .ok (.aload_n 1, 1) := by decide +kernel
theorem dX7_copy_24 : decode cX7_copy 24 = .ok (.getfield 18, 3) := by decide +kernel
theorem dX7_copy_27 : decode cX7_copy 27 = .ok (.putfield 18, 3) := by decide +kernel
theorem dX7_copy_30 : decode cX7_copy 30 = .ok (.return_, 1) := by decide +kernel
theorem dX7_ask_0 : decode cX7_ask 0 = .ok (.aload_n 0, 1) := by decide +kernel
theorem dX7_ask_1 : decode cX7_ask 1 = .ok (.getfield 9, 3) := by decide +kernel
theorem dX7_ask_4 : decode cX7_ask 4 = .ok (.iload_n 1, 1) := by decide +kernel
theorem dX7_ask_5 : decode cX7_ask 5 = .ok (.invokestatic 30, 3) := by decide +kernel
theorem dX7_ask_8 : decode cX7_ask 8 = .ok (.ireturn, 1) := by decide +kernel
theorem dX7_keepsDoers_0 : decode cX7_keepsDoers 0 = .ok (.aload_n 0, 1) := by decide +kernel
theorem dX7_keepsDoers_1 : decode cX7_keepsDoers 1 = .ok (.getfield 15, 3) := by decide +kernel
theorem dX7_keepsDoers_4 : decode cX7_keepsDoers 4 = .ok (.iload_n 1, 1) := by decide +kernel
theorem dX7_keepsDoers_5 : decode cX7_keepsDoers 5 = .ok (.invokestatic 30, 3) := by decide +kernel
theorem dX7_keepsDoers_8 : decode cX7_keepsDoers 8 = .ok (.ifCond .ne 7, 3) := by decide +kernel
theorem dX7_keepsDoers_11 : decode cX7_keepsDoers 11 = .ok (.iconst 1, 1) := by decide +kernel
theorem dX7_keepsDoers_12 : decode cX7_keepsDoers 12 = .ok (.goto 4, 3) := by decide +kernel
theorem dX7_keepsDoers_15 : decode cX7_keepsDoers 15 = .ok (.iconst 0, 1) := by decide +kernel
theorem dX7_keepsDoers_16 : decode cX7_keepsDoers 16 = .ok (.ireturn, 1) := by decide +kernel
theorem dX8_init_0 : decode cX8_init 0 = .ok (.aload_n 0, 1) := by decide +kernel
theorem dX8_init_1 : decode cX8_init 1 = .ok (.invokespecial 3, 3) := by decide +kernel
theorem dX8_init_4 : decode cX8_init 4 = .ok (.aload_n 0, 1) := by decide +kernel
theorem dX8_init_5 : decode cX8_init 5 = .ok (.bipush 6, 2) := by decide +kernel
theorem dX8_init_7 : decode cX8_init 7 = .ok (.newarray .long, 2) := by decide +kernel
theorem dX8_init_9 : decode cX8_init 9 = .ok (.putfield 9, 3) := by decide +kernel
theorem dX8_init_12 : decode cX8_init 12 = .ok (.aload_n 0, 1) := by decide +kernel
theorem dX8_init_13 : decode cX8_init 13 = .ok (.bipush 13, 2) := by decide +kernel
theorem dX8_init_15 : decode cX8_init 15 = .ok (.newarray .long, 2) := by decide +kernel
theorem dX8_init_17 : decode cX8_init 17 = .ok (.putfield 15, 3) := by decide +kernel
theorem dX8_init_20 : decode cX8_init 20 = .ok (.aload_n 0, 1) := by decide +kernel
theorem dX8_init_21 : decode cX8_init 21 = .ok (.aload_n 1, 1) := by decide +kernel
theorem dX8_init_22 : decode cX8_init 22 = .ok (.putfield 18, 3) := by decide +kernel
theorem dX8_init_25 : decode cX8_init 25 = .ok (.return_, 1) := by decide +kernel
theorem dX8_pass_0 : decode cX8_pass 0 = .ok (.iconst 0, 1) := by decide +kernel
theorem dX8_pass_1 : decode cX8_pass 1 = .ok (.istore_n 2, 1) := by decide +kernel
theorem dX8_pass_2 : decode cX8_pass 2 = .ok (.iload_n 2, 1) := by decide +kernel
theorem dX8_pass_3 : decode cX8_pass 3 = .ok (.aload_n 0, 1) := by decide +kernel
theorem dX8_pass_4 : decode cX8_pass 4 = .ok (.getfield 9, 3) := by decide +kernel
theorem dX8_pass_7 : decode cX8_pass 7 = .ok (.arraylength, 1) := by decide +kernel
theorem dX8_pass_8 : decode cX8_pass 8 = .ok (.if_icmp .ge 103, 3) := by decide +kernel
theorem dX8_pass_11 : decode cX8_pass 11 = .ok (.iload_n 2, 1) := by decide +kernel
theorem dX8_pass_12 : decode cX8_pass 12 = .ok (.aload_n 0, 1) := by decide +kernel
theorem dX8_pass_13 : decode cX8_pass 13 = .ok (.getfield 18, 3) := by decide +kernel
theorem dX8_pass_16 : decode cX8_pass 16 = .ok (.getfield 22, 3) := by decide +kernel
theorem dX8_pass_19 : decode cX8_pass 19 = .ok (.if_icmp .ge 92, 3) := by decide +kernel
theorem dX8_pass_22 : decode cX8_pass 22 = .ok (.aload_n 0, 1) := by decide +kernel
theorem dX8_pass_23 : decode cX8_pass 23 = .ok (.getfield 18, 3) := by decide +kernel
theorem dX8_pass_26 : decode cX8_pass 26 = .ok (.iload_n 2, 1) := by decide +kernel
theorem dX8_pass_27 : decode cX8_pass 27 = .ok (.invokevirtual 28, 3) := by decide +kernel
theorem dX8_pass_30 : decode cX8_pass 30 = .ok (.i2l, 1) := by decide +kernel
theorem dX8_pass_31 : decode cX8_pass 31 = .ok (.ldc2_w 32, 3) := by decide +kernel
theorem dX8_pass_34 : decode cX8_pass 34 = .ok (.lmul, 1) := by decide +kernel
theorem dX8_pass_35 : decode cX8_pass 35 = .ok (.lstore_n 3, 1) := by decide +kernel
theorem dX8_pass_36 : decode cX8_pass 36 = .ok (.iconst 0, 1) := by decide +kernel
theorem dX8_pass_37 : decode cX8_pass 37 = .ok (.istore 5, 2) := by decide +kernel
theorem dX8_pass_39 : decode cX8_pass 39 = .ok (.iload 5, 2) := by decide +kernel
theorem dX8_pass_41 : decode cX8_pass 41 = .ok (.aload_n 1, 1) := by decide +kernel
theorem dX8_pass_42 : decode cX8_pass 42 = .ok (.getfield 34, 3) := by decide +kernel
theorem dX8_pass_45 : decode cX8_pass 45 = .ok (.if_icmp .ge 53, 3) := by decide +kernel
theorem dX8_pass_48 : decode cX8_pass 48 = .ok (.aload_n 0, 1) := by decide +kernel
theorem dX8_pass_49 : decode cX8_pass 49 = .ok (.getfield 18, 3) := by decide +kernel
theorem dX8_pass_52 : decode cX8_pass 52 = .ok (.iload_n 2, 1) := by decide +kernel
theorem dX8_pass_53 : decode cX8_pass 53 = .ok (.aload_n 1, 1) := by decide +kernel
theorem dX8_pass_54 : decode cX8_pass 54 = .ok (.iload 5, 2) := by decide +kernel
theorem dX8_pass_56 : decode cX8_pass 56 = .ok (.invokevirtual 38, 3) := by decide +kernel
theorem dX8_pass_59 : decode cX8_pass 59 = .ok (.iconst 0, 1) := by decide +kernel
theorem dX8_pass_60 : decode cX8_pass 60 = .ok (.invokevirtual 41, 3) := by decide +kernel
theorem dX8_pass_63 : decode cX8_pass 63 = .ok (.istore 6, 2) := by decide +kernel
theorem dX8_pass_65 : decode cX8_pass 65 = .ok (.lload_n 3, 1) := by decide +kernel
theorem dX8_pass_66 : decode cX8_pass 66 = .ok (.aload_n 1, 1) := by decide +kernel
theorem dX8_pass_67 : decode cX8_pass 67 = .ok (.iload 5, 2) := by decide +kernel
theorem dX8_pass_69 : decode cX8_pass 69 = .ok (.invokevirtual 45, 3) := by decide +kernel
theorem dX8_pass_72 : decode cX8_pass 72 = .ok (.ifCond .eq 8, 3) := by decide +kernel
theorem dX8_pass_75 : decode cX8_pass 75 = .ok (.iload 6, 2) := by decide +kernel
theorem dX8_pass_77 : decode cX8_pass 77 = .ok (.goto 8, 3) := by decide +kernel
theorem dX8_pass_80 : decode cX8_pass 80 = .ok (.bipush 100, 2) := by decide +kernel
theorem dX8_pass_82 : decode cX8_pass 82 = .ok (.iload 6, 2) := by decide +kernel
theorem dX8_pass_84 : decode cX8_pass 84 = .ok (.isub, 1) := by decide +kernel
theorem dX8_pass_85 : decode cX8_pass 85 = .ok (.i2l, 1) := by decide +kernel
theorem dX8_pass_86 : decode cX8_pass 86 = .ok (.lmul, 1) := by decide +kernel
theorem dX8_pass_87 : decode cX8_pass 87 = .ok (.ldc2_w 49, 3) := by decide +kernel
theorem dX8_pass_90 : decode cX8_pass 90 = .ok (.ldiv, 1) := by decide +kernel
theorem dX8_pass_91 : decode cX8_pass 91 = .ok (.lstore_n 3, 1) := by decide +kernel
theorem dX8_pass_92 : decode cX8_pass 92 = .ok (.iinc 5 1, 3) := by decide +kernel
theorem dX8_pass_95 : decode cX8_pass 95 = .ok (.goto (-56), 3) := by decide +kernel
theorem dX8_pass_98 : decode cX8_pass 98 = .ok (.aload_n 0, 1) := by decide +kernel
theorem dX8_pass_99 : decode cX8_pass 99 = .ok (.getfield 9, 3) := by decide +kernel
theorem dX8_pass_102 : decode cX8_pass 102 = .ok (.iload_n 2, 1) := by decide +kernel
theorem dX8_pass_103 : decode cX8_pass 103 = .ok (.lload_n 3, 1) := by decide +kernel
theorem dX8_pass_104 : decode cX8_pass 104 = .ok (.lastore, 1) := by decide +kernel
theorem dX8_pass_105 : decode cX8_pass 105 = .ok (.iinc 2 1, 3) := by decide +kernel
theorem dX8_pass_108 : decode cX8_pass 108 = .ok (.goto (-106), 3) := by decide +kernel
theorem dX8_pass_111 : decode cX8_pass 111 = .ok (.return_, 1) := by decide +kernel
theorem dX8_remaining_0 : decode cX8_remaining 0 = .ok (.iload_n 1, 1) := by decide +kernel
theorem dX8_remaining_1 : decode cX8_remaining 1 = .ok (.ifCond .lt 21, 3) := by decide +kernel
theorem dX8_remaining_4 : decode cX8_remaining 4 = .ok (.iload_n 1, 1) := by decide +kernel
theorem dX8_remaining_5 : decode cX8_remaining 5 = .ok (.aload_n 0, 1) := by decide +kernel
theorem dX8_remaining_6 : decode cX8_remaining 6 = .ok (.getfield 9, 3) := by decide +kernel
theorem dX8_remaining_9 : decode cX8_remaining 9 = .ok (.arraylength, 1) := by decide +kernel
theorem dX8_remaining_10 : decode cX8_remaining 10 = .ok (.if_icmp .ge 12, 3) := by decide +kernel
theorem dX8_remaining_13 : decode cX8_remaining 13 = .ok (.aload_n 0, 1) := by decide +kernel
theorem dX8_remaining_14 : decode cX8_remaining 14 = .ok (.getfield 9, 3) := by decide +kernel
theorem dX8_remaining_17 : decode cX8_remaining 17 = .ok (.iload_n 1, 1) := by decide +kernel
theorem dX8_remaining_18 : decode cX8_remaining 18 = .ok (.laload, 1) := by decide +kernel
theorem dX8_remaining_19 : decode cX8_remaining 19 = .ok (.goto 4, 3) := by decide +kernel
theorem dX8_remaining_22 : decode cX8_remaining 22 = .ok (.lconst 0, 1) := by decide +kernel
theorem dX8_remaining_23 : decode cX8_remaining 23 = .ok (.lreturn, 1) := by decide +kernel
theorem dX8_together_0 : decode cX8_together 0 = .ok (.lconst 0, 1) := by decide +kernel
theorem dX8_together_1 : decode cX8_together 1 = .ok (.lstore_n 1, 1) := by decide +kernel
theorem dX8_together_2 : decode cX8_together 2 = .ok (.iconst 0, 1) := by decide +kernel
theorem dX8_together_3 : decode cX8_together 3 = .ok (.istore_n 3, 1) := by decide +kernel
theorem dX8_together_4 : decode cX8_together 4 = .ok (.iload_n 3, 1) := by decide +kernel
theorem dX8_together_5 : decode cX8_together 5 = .ok (.aload_n 0, 1) := by decide +kernel
theorem dX8_together_6 : decode cX8_together 6 = .ok (.getfield 18, 3) := by decide +kernel
theorem dX8_together_9 : decode cX8_together 9 = .ok (.getfield 22, 3) := by decide +kernel
theorem dX8_together_12 : decode cX8_together 12 = .ok (.if_icmp .ge 17, 3) := by decide +kernel
theorem dX8_together_15 : decode cX8_together 15 = .ok (.lload_n 1, 1) := by decide +kernel
theorem dX8_together_16 : decode cX8_together 16 = .ok (.aload_n 0, 1) := by decide +kernel
theorem dX8_together_17 : decode cX8_together 17 = .ok (.iload_n 3, 1) := by decide +kernel
theorem dX8_together_18 : decode cX8_together 18 = .ok (.invokevirtual 51, 3) := by decide +kernel
theorem dX8_together_21 : decode cX8_together 21 = .ok (.ladd, 1) := by decide +kernel
theorem dX8_together_22 : decode cX8_together 22 = .ok (.lstore_n 1, 1) := by decide +kernel
theorem dX8_together_23 : decode cX8_together 23 = .ok (.iinc 3 1, 3) := by decide +kernel
theorem dX8_together_26 : decode cX8_together 26 = .ok (.goto (-22), 3) := by decide +kernel
theorem dX8_together_29 : decode cX8_together 29 = .ok (.lload_n 1, 1) := by decide +kernel
theorem dX8_together_30 : decode cX8_together 30 = .ok (.lreturn, 1) := by decide +kernel
theorem dX8_meanBent_0 : decode cX8_meanBent 0 = .ok (.lconst 0, 1) := by decide +kernel
theorem dX8_meanBent_1 : decode cX8_meanBent 1 = .ok (.lstore_n 1, 1) := by decide +kernel
theorem dX8_meanBent_2 : decode cX8_meanBent 2 = .ok (.iconst 0, 1) := by decide +kernel
theorem dX8_meanBent_3 : decode cX8_meanBent 3 = .ok (.istore_n 3, 1) := by decide +kernel
theorem dX8_meanBent_4 : decode cX8_meanBent 4 = .ok (.iload_n 3, 1) := by decide +kernel
theorem dX8_meanBent_5 : decode cX8_meanBent 5 = .ok (.aload_n 0, 1) := by decide +kernel
theorem dX8_meanBent_6 : decode cX8_meanBent 6 = .ok (.getfield 18, 3) := by decide +kernel
theorem dX8_meanBent_9 : decode cX8_meanBent 9 = .ok (.getfield 22, 3) := by decide +kernel
theorem dX8_meanBent_12 : decode cX8_meanBent 12 = .ok (.if_icmp .ge 27, 3) := by decide +kernel
theorem dX8_meanBent_15 : decode cX8_meanBent 15 = .ok (.lload_n 1, 1) := by decide +kernel
theorem dX8_meanBent_16 : decode cX8_meanBent 16 = .ok (.aload_n 0, 1) := by decide +kernel
theorem dX8_meanBent_17 : decode cX8_meanBent 17 = .ok (.iload_n 3, 1) := by decide +kernel
theorem dX8_meanBent_18 : decode cX8_meanBent 18 = .ok (.invokevirtual 51, 3) := by decide +kernel
theorem dX8_meanBent_21 : decode cX8_meanBent 21 = .ok (.aload_n 0, 1) := by decide +kernel
theorem dX8_meanBent_22 : decode cX8_meanBent 22 = .ok (.getfield 18, 3) := by decide +kernel
theorem dX8_meanBent_25 : decode cX8_meanBent 25 = .ok (.iload_n 3, 1) := by decide +kernel
theorem dX8_meanBent_26 : decode cX8_meanBent 26 = .ok (.invokevirtual 55, 3) := by decide +kernel
theorem dX8_meanBent_29 : decode cX8_meanBent 29 = .ok (.i2l, 1) := by decide +kernel
theorem dX8_meanBent_30 : decode cX8_meanBent 30 = .ok (.lmul, 1) := by decide +kernel
theorem dX8_meanBent_31 : decode cX8_meanBent 31 = .ok (.ladd, 1) := by decide +kernel
theorem dX8_meanBent_32 : decode cX8_meanBent 32 = .ok (.lstore_n 1, 1) := by decide +kernel
theorem dX8_meanBent_33 : decode cX8_meanBent 33 = .ok (.iinc 3 1, 3) := by decide +kernel
theorem dX8_meanBent_36 : decode cX8_meanBent 36 = .ok (.goto (-32), 3) := by decide +kernel
theorem dX8_meanBent_39 : decode cX8_meanBent 39 = .ok (.aload_n 0, 1) := by decide +kernel
theorem dX8_meanBent_40 : decode cX8_meanBent 40 = .ok (.invokevirtual 58, 3) := by decide +kernel
theorem dX8_meanBent_43 : decode cX8_meanBent 43 = .ok (.lstore_n 3, 1) := by decide +kernel
theorem dX8_meanBent_44 : decode cX8_meanBent 44 = .ok (.lload_n 3, 1) := by decide +kernel
theorem dX8_meanBent_45 : decode cX8_meanBent 45 = .ok (.lconst 0, 1) := by decide +kernel
theorem dX8_meanBent_46 : decode cX8_meanBent 46 = .ok (.lcmp, 1) := by decide +kernel
theorem dX8_meanBent_47 : decode cX8_meanBent 47 = .ok (.ifCond .ne 8, 3) := by decide +kernel
theorem dX8_meanBent_50 : decode cX8_meanBent 50 = .ok (.bipush (-4), 2) := by decide +kernel
theorem dX8_meanBent_52 : decode cX8_meanBent 52 = .ok (.goto 11, 3) := by decide +kernel
theorem dX8_meanBent_55 : decode cX8_meanBent 55 = .ok (.ldc2_w 62, 3) := by decide +kernel
theorem dX8_meanBent_58 : decode cX8_meanBent 58 = .ok (.lload_n 1, 1) := by decide +kernel
theorem dX8_meanBent_59 : decode cX8_meanBent 59 = .ok (.lmul, 1) := by decide +kernel
theorem dX8_meanBent_60 : decode cX8_meanBent 60 = .ok (.lload_n 3, 1) := by decide +kernel
theorem dX8_meanBent_61 : decode cX8_meanBent 61 = .ok (.ldiv, 1) := by decide +kernel
theorem dX8_meanBent_62 : decode cX8_meanBent 62 = .ok (.l2i, 1) := by decide +kernel
theorem dX8_meanBent_63 : decode cX8_meanBent 63 = .ok (.ireturn, 1) := by decide +kernel
theorem dX8_chance_0 : decode cX8_chance 0 = .ok (.iconst 0, 1) := by decide +kernel
theorem dX8_chance_1 : decode cX8_chance 1 = .ok (.istore_n 2, 1) := by decide +kernel
theorem dX8_chance_2 : decode cX8_chance 2 = .ok (.iload_n 2, 1) := by decide +kernel
theorem dX8_chance_3 : decode cX8_chance 3 = .ok (.aload_n 0, 1) := by decide +kernel
theorem dX8_chance_4 : decode cX8_chance 4 = .ok (.getfield 15, 3) := by decide +kernel
theorem dX8_chance_7 : decode cX8_chance 7 = .ok (.arraylength, 1) := by decide +kernel
theorem dX8_chance_8 : decode cX8_chance 8 = .ok (.if_icmp .ge 26, 3) := by decide +kernel
theorem dX8_chance_11 : decode cX8_chance 11 = .ok (.aload_n 0, 1) := by decide +kernel
theorem dX8_chance_12 : decode cX8_chance 12 = .ok (.getfield 15, 3) := by decide +kernel
theorem dX8_chance_15 : decode cX8_chance 15 = .ok (.iload_n 2, 1) := by decide +kernel
theorem dX8_chance_16 : decode cX8_chance 16 = .ok (.iload_n 2, 1) := by decide +kernel
theorem dX8_chance_17 : decode cX8_chance 17 = .ok (.ifCond .ne 9, 3) := by decide +kernel
theorem dX8_chance_20 : decode cX8_chance 20 = .ok (.ldc2_w 32, 3) := by decide +kernel
theorem dX8_chance_23 : decode cX8_chance 23 = .ok (.goto 4, 3) := by decide +kernel
theorem dX8_chance_26 : decode cX8_chance 26 = .ok (.lconst 0, 1) := by decide +kernel
theorem dX8_chance_27 : decode cX8_chance 27 = .ok (.lastore, 1) := by decide +kernel
theorem dX8_chance_28 : decode cX8_chance 28 = .ok (.iinc 2 1, 3) := by decide +kernel
theorem dX8_chance_31 : decode cX8_chance 31 = .ok (.goto (-29), 3) := by decide +kernel
theorem dX8_chance_34 : decode cX8_chance 34 = .ok (.iconst 0, 1) := by decide +kernel
theorem dX8_chance_35 : decode cX8_chance 35 = .ok (.istore_n 2, 1) := by decide +kernel
theorem dX8_chance_36 : decode cX8_chance 36 = .ok (.iload_n 2, 1) := by decide +kernel
theorem dX8_chance_37 : decode cX8_chance 37 = .ok (.aload_n 0, 1) := by decide +kernel
theorem dX8_chance_38 : decode cX8_chance 38 = .ok (.getfield 18, 3) := by decide +kernel
theorem dX8_chance_41 : decode cX8_chance 41 = .ok (.getfield 22, 3) := by decide +kernel
theorem dX8_chance_44 : decode cX8_chance 44 = .ok (.if_icmp .ge 65, 3) := by decide +kernel
theorem dX8_chance_47 : decode cX8_chance 47 = .ok (.aload_n 0, 1) := by decide +kernel
theorem dX8_chance_48 : decode cX8_chance 48 = .ok (.getfield 18, 3) := by decide +kernel
theorem dX8_chance_51 : decode cX8_chance 51 = .ok (.iload_n 2, 1) := by decide +kernel
theorem dX8_chance_52 : decode cX8_chance 52 = .ok (.invokevirtual 28, 3) := by decide +kernel
theorem dX8_chance_55 : decode cX8_chance 55 = .ok (.istore_n 3, 1) := by decide +kernel
theorem dX8_chance_56 : decode cX8_chance 56 = .ok (.iload_n 3, 1) := by decide +kernel
theorem dX8_chance_57 : decode cX8_chance 57 = .ok (.ifCond .ne 7, 3) := by decide +kernel
theorem dX8_chance_60 : decode cX8_chance 60 = .ok (.lconst 0, 1) := by decide +kernel
theorem dX8_chance_61 : decode cX8_chance 61 = .ok (.goto 11, 3) := by decide +kernel
theorem dX8_chance_64 : decode cX8_chance 64 = .ok (.aload_n 0, 1) := by decide +kernel
theorem dX8_chance_65 : decode cX8_chance 65 = .ok (.iload_n 2, 1) := by decide +kernel
theorem dX8_chance_66 : decode cX8_chance 66 = .ok (.invokevirtual 51, 3) := by decide +kernel
theorem dX8_chance_69 : decode cX8_chance 69 = .ok (.iload_n 3, 1) := by decide +kernel
theorem dX8_chance_70 : decode cX8_chance 70 = .ok (.i2l, 1) := by decide +kernel
theorem dX8_chance_71 : decode cX8_chance 71 = .ok (.ldiv, 1) := by decide +kernel
theorem dX8_chance_72 : decode cX8_chance 72 = .ok (.lstore 4, 2) := by decide +kernel
theorem dX8_chance_74 : decode cX8_chance 74 = .ok (.iconst 0, 1) := by decide +kernel
theorem dX8_chance_75 : decode cX8_chance 75 = .ok (.istore 6, 2) := by decide +kernel
theorem dX8_chance_77 : decode cX8_chance 77 = .ok (.iload 6, 2) := by decide +kernel
theorem dX8_chance_79 : decode cX8_chance 79 = .ok (.iload_n 3, 1) := by decide +kernel
theorem dX8_chance_80 : decode cX8_chance 80 = .ok (.if_icmp .ge 23, 3) := by decide +kernel
theorem dX8_chance_83 : decode cX8_chance 83 = .ok (.lload 4, 2) := by decide +kernel
theorem dX8_chance_85 : decode cX8_chance 85 = .ok (.lconst 0, 1) := by decide +kernel
theorem dX8_chance_86 : decode cX8_chance 86 = .ok (.lcmp, 1) := by decide +kernel
theorem dX8_chance_87 : decode cX8_chance 87 = .ok (.ifCond .le 16, 3) := by decide +kernel
theorem dX8_chance_90 : decode cX8_chance 90 = .ok (.aload_n 0, 1) := by decide +kernel
theorem dX8_chance_91 : decode cX8_chance 91 = .ok (.lload 4, 2) := by decide +kernel
theorem dX8_chance_93 : decode cX8_chance 93 = .ok (.iload_n 1, 1) := by decide +kernel
theorem dX8_chance_94 : decode cX8_chance 94 = .ok (.invokevirtual 64, 3) := by decide +kernel
theorem dX8_chance_97 : decode cX8_chance 97 = .ok (.iinc 6 1, 3) := by decide +kernel
theorem dX8_chance_100 : decode cX8_chance 100 = .ok (.goto (-23), 3) := by decide +kernel
theorem dX8_chance_103 : decode cX8_chance 103 = .ok (.iinc 2 1, 3) := by decide +kernel
theorem dX8_chance_106 : decode cX8_chance 106 = .ok (.goto (-70), 3) := by decide +kernel
theorem dX8_chance_109 : decode cX8_chance 109 = .ok (.iload_n 1, 1) := by decide +kernel
theorem dX8_chance_110 : decode cX8_chance 110 = .ok (.ifCond .lt 22, 3) := by decide +kernel
theorem dX8_chance_113 : decode cX8_chance 113 = .ok (.iload_n 1, 1) := by decide +kernel
theorem dX8_chance_114 : decode cX8_chance 114 = .ok (.aload_n 0, 1) := by decide +kernel
theorem dX8_chance_115 : decode cX8_chance 115 = .ok (.getfield 15, 3) := by decide +kernel
theorem dX8_chance_118 : decode cX8_chance 118 = .ok (.arraylength, 1) := by decide +kernel
theorem dX8_chance_119 : decode cX8_chance 119 = .ok (.if_icmp .ge 13, 3) := by decide +kernel
theorem dX8_chance_122 : decode cX8_chance 122 = .ok (.aload_n 0, 1) := by decide +kernel
theorem dX8_chance_123 : decode cX8_chance 123 = .ok (.getfield 15, 3) := by decide +kernel
theorem dX8_chance_126 : decode cX8_chance 126 = .ok (.iload_n 1, 1) := by decide +kernel
theorem dX8_chance_127 : decode cX8_chance 127 = .ok (.laload, 1) := by decide +kernel
theorem dX8_chance_128 : decode cX8_chance 128 = .ok (.l2i, 1) := by decide +kernel
theorem dX8_chance_129 : decode cX8_chance 129 = .ok (.goto 4, 3) := by decide +kernel
theorem dX8_chance_132 : decode cX8_chance 132 = .ok (.iconst 0, 1) := by decide +kernel
theorem dX8_chance_133 : decode cX8_chance 133 = .ok (.ireturn, 1) := by decide +kernel
theorem dX8_partOne_0 : decode cX8_partOne 0 = .ok (.iload_n 3, 1) := by decide +kernel
theorem dX8_partOne_1 : decode cX8_partOne 1 = .ok (.aload_n 0, 1) := by decide +kernel
theorem dX8_partOne_2 : decode cX8_partOne 2 = .ok (.getfield 15, 3) := by decide +kernel
theorem dX8_partOne_5 : decode cX8_partOne 5 = .ok (.arraylength, 1) := by decide +kernel
theorem dX8_partOne_6 : decode cX8_partOne 6 = .ok (.iconst 1, 1) := by decide +kernel
theorem dX8_partOne_7 : decode cX8_partOne 7 = .ok (.isub, 1) := by decide +kernel
theorem dX8_partOne_8 : decode cX8_partOne 8 = .ok (.invokestatic 68, 3) := by decide +kernel
theorem dX8_partOne_11 : decode cX8_partOne 11 = .ok (.istore 4, 2) := by decide +kernel
theorem dX8_partOne_13 : decode cX8_partOne 13 = .ok (.iload 4, 2) := by decide +kernel
theorem dX8_partOne_15 : decode cX8_partOne 15 = .ok (.ifCond .lt 68, 3) := by decide +kernel
theorem dX8_partOne_18 : decode cX8_partOne 18 = .ok (.aload_n 0, 1) := by decide +kernel
theorem dX8_partOne_19 : decode cX8_partOne 19 = .ok (.getfield 15, 3) := by decide +kernel
theorem dX8_partOne_22 : decode cX8_partOne 22 = .ok (.iload 4, 2) := by decide +kernel
theorem dX8_partOne_24 : decode cX8_partOne 24 = .ok (.laload, 1) := by decide +kernel
theorem dX8_partOne_25 : decode cX8_partOne 25 = .ok (.lload_n 1, 1) := by decide +kernel
theorem dX8_partOne_26 : decode cX8_partOne 26 = .ok (.lmul, 1) := by decide +kernel
theorem dX8_partOne_27 : decode cX8_partOne 27 = .ok (.ldc2_w 32, 3) := by decide +kernel
theorem dX8_partOne_30 : decode cX8_partOne 30 = .ok (.ldiv, 1) := by decide +kernel
theorem dX8_partOne_31 : decode cX8_partOne 31 = .ok (.lstore 5, 2) := by decide +kernel
theorem dX8_partOne_33 : decode cX8_partOne 33 = .ok (.aload_n 0, 1) := by decide +kernel
theorem dX8_partOne_34 : decode cX8_partOne 34 = .ok (.getfield 15, 3) := by decide +kernel
theorem dX8_partOne_37 : decode cX8_partOne 37 = .ok (.iload 4, 2) := by decide +kernel
theorem dX8_partOne_39 : decode cX8_partOne 39 = .ok (.dup2, 1) := by decide +kernel
theorem dX8_partOne_40 : decode cX8_partOne 40 = .ok (.laload, 1) := by decide +kernel
theorem dX8_partOne_41 : decode cX8_partOne 41 = .ok (.lload 5, 2) := by decide +kernel
theorem dX8_partOne_43 : decode cX8_partOne 43 = .ok (.lsub, 1) := by decide +kernel
theorem dX8_partOne_44 : decode cX8_partOne 44 = .ok (.lastore, 1) := by decide +kernel
theorem dX8_partOne_45 : decode cX8_partOne 45 = .ok (.iload 4, 2) := by decide +kernel
theorem dX8_partOne_47 : decode cX8_partOne 47 = .ok (.iload_n 3, 1) := by decide +kernel
theorem dX8_partOne_48 : decode cX8_partOne 48 = .ok (.if_icmp .ge 29, 3) := by decide +kernel
theorem dX8_partOne_51 : decode cX8_partOne 51 = .ok (.iload 4, 2) := by decide +kernel
theorem dX8_partOne_53 : decode cX8_partOne 53 = .ok (.iconst 1, 1) := by decide +kernel
theorem dX8_partOne_54 : decode cX8_partOne 54 = .ok (.iadd, 1) := by decide +kernel
theorem dX8_partOne_55 : decode cX8_partOne 55 = .ok (.aload_n 0, 1) := by decide +kernel
theorem dX8_partOne_56 : decode cX8_partOne 56 = .ok (.getfield 15, 3) := by decide +kernel
theorem dX8_partOne_59 : decode cX8_partOne 59 = .ok (.arraylength, 1) := by decide +kernel
theorem dX8_partOne_60 : decode cX8_partOne 60 = .ok (.if_icmp .ge 17, 3) := by decide +kernel
theorem dX8_partOne_63 : decode cX8_partOne 63 = .ok (.aload_n 0, 1) := by decide +kernel
theorem dX8_partOne_64 : decode cX8_partOne 64 = .ok (.getfield 15, 3) := by decide +kernel
theorem dX8_partOne_67 : decode cX8_partOne 67 = .ok (.iload 4, 2) := by decide +kernel
theorem dX8_partOne_69 : decode cX8_partOne 69 = .ok (.iconst 1, 1) := by decide +kernel
theorem dX8_partOne_70 : decode cX8_partOne 70 = .ok (.iadd, 1) := by decide +kernel
theorem dX8_partOne_71 : decode cX8_partOne 71 = .ok (.dup2, 1) := by decide +kernel
theorem dX8_partOne_72 : decode cX8_partOne 72 = .ok (.laload, 1) := by decide +kernel
theorem dX8_partOne_73 : decode cX8_partOne 73 = .ok (.lload 5, 2) := by decide +kernel
theorem dX8_partOne_75 : decode cX8_partOne 75 = .ok (.ladd, 1) := by decide +kernel
theorem dX8_partOne_76 : decode cX8_partOne 76 = .ok (.lastore, 1) := by decide +kernel
theorem dX8_partOne_77 : decode cX8_partOne 77 = .ok (.iinc 4 (-1), 3) := by decide +kernel
theorem dX8_partOne_80 : decode cX8_partOne 80 = .ok (.goto (-67), 3) := by decide +kernel
theorem dX8_partOne_83 : decode cX8_partOne 83 = .ok (.return_, 1) := by decide +kernel
theorem dX9_init_0 : decode cX9_init 0 = .ok (.aload_n 0, 1) := by decide +kernel
theorem dX9_init_1 : decode cX9_init 1 = .ok (.invokespecial 3, 3) := by decide +kernel
theorem dX9_init_4 : decode cX9_init 4 = .ok (.aload_n 0, 1) := by decide +kernel
theorem dX9_init_5 : decode cX9_init 5 = .ok (.sipush 400, 3) := by decide +kernel
theorem dX9_init_8 : decode cX9_init 8 = .ok (.newarray .byte, 2) := by decide +kernel
theorem dX9_init_10 : decode cX9_init 10 = .ok (.putfield 9, 3) := by decide +kernel
theorem dX9_init_13 : decode cX9_init 13 = .ok (.return_, 1) := by decide +kernel
theorem dX9_add_0 : decode cX9_add 0 = .ok (.aload_n 0, 1) := by decide +kernel
theorem dX9_add_1 : decode cX9_add 1 = .ok (.getfield 15, 3) := by decide +kernel
theorem dX9_add_4 : decode cX9_add 4 = .ok (.ifCond .lt 35, 3) := by decide +kernel
theorem dX9_add_7 : decode cX9_add 7 = .ok (.aload_n 0, 1) := by decide +kernel
theorem dX9_add_8 : decode cX9_add 8 = .ok (.getfield 15, 3) := by decide +kernel
theorem dX9_add_11 : decode cX9_add 11 = .ok (.aload_n 0, 1) := by decide +kernel
theorem dX9_add_12 : decode cX9_add 12 = .ok (.getfield 9, 3) := by decide +kernel
theorem dX9_add_15 : decode cX9_add 15 = .ok (.arraylength, 1) := by decide +kernel
theorem dX9_add_16 : decode cX9_add 16 = .ok (.if_icmp .ge 23, 3) := by decide +kernel
theorem dX9_add_19 : decode cX9_add 19 = .ok (.aload_n 0, 1) := by decide +kernel
theorem dX9_add_20 : decode cX9_add 20 = .ok (.getfield 9, 3) := by decide +kernel
theorem dX9_add_23 : decode cX9_add 23 = .ok (.aload_n 0, 1) := by decide +kernel
theorem dX9_add_24 : decode cX9_add 24 = .ok (.getfield 15, 3) := by decide +kernel
theorem dX9_add_27 : decode cX9_add 27 = .ok (.iload_n 1, 1) := by decide +kernel
theorem dX9_add_28 : decode cX9_add 28 = .ok (.bastore, 1) := by decide +kernel
theorem dX9_add_29 : decode cX9_add 29 = .ok (.aload_n 0, 1) := by decide +kernel
theorem dX9_add_30 : decode cX9_add 30 = .ok (.dup, 1) := by decide +kernel
theorem dX9_add_31 : decode cX9_add 31 = .ok (.getfield 15, 3) := by decide +kernel
theorem dX9_add_34 : decode cX9_add 34 = .ok (.iconst 1, 1) := by decide +kernel
theorem dX9_add_35 : decode cX9_add 35 = .ok (.iadd, 1) := by decide +kernel
theorem dX9_add_36 : decode cX9_add 36 = .ok (.putfield 15, 3) := by decide +kernel
theorem dX9_add_39 : decode cX9_add 39 = .ok (.return_, 1) := by decide +kernel
theorem dX9_byteAt_0 : decode cX9_byteAt 0 = .ok (.iload_n 1, 1) := by decide +kernel
theorem dX9_byteAt_1 : decode cX9_byteAt 1 = .ok (.ifCond .lt 29, 3) := by decide +kernel
theorem dX9_byteAt_4 : decode cX9_byteAt 4 = .ok (.iload_n 1, 1) := by decide +kernel
theorem dX9_byteAt_5 : decode cX9_byteAt 5 = .ok (.aload_n 0, 1) := by decide +kernel
theorem dX9_byteAt_6 : decode cX9_byteAt 6 = .ok (.getfield 15, 3) := by decide +kernel
theorem dX9_byteAt_9 : decode cX9_byteAt 9 = .ok (.if_icmp .ge 21, 3) := by decide +kernel
theorem dX9_byteAt_12 : decode cX9_byteAt 12 = .ok (.iload_n 1, 1) := by decide +kernel
theorem dX9_byteAt_13 : decode cX9_byteAt 13 = .ok (.aload_n 0, 1) := by decide +kernel
theorem dX9_byteAt_14 : decode cX9_byteAt 14 = .ok (.getfield 9, 3) := by decide +kernel
theorem dX9_byteAt_17 : decode cX9_byteAt 17 = .ok (.arraylength, 1) := by decide +kernel
theorem dX9_byteAt_18 : decode cX9_byteAt 18 = .ok (.if_icmp .ge 12, 3) := by decide +kernel
theorem dX9_byteAt_21 : decode cX9_byteAt 21 = .ok (.aload_n 0, 1) := by decide +kernel
theorem dX9_byteAt_22 : decode cX9_byteAt 22 = .ok (.getfield 9, 3) := by decide +kernel
theorem dX9_byteAt_25 : decode cX9_byteAt 25 = .ok (.iload_n 1, 1) := by decide +kernel
theorem dX9_byteAt_26 : decode cX9_byteAt 26 = .ok (.baload, 1) := by decide +kernel
theorem dX9_byteAt_27 : decode cX9_byteAt 27 = .ok (.goto 4, 3) := by decide +kernel
theorem dX9_byteAt_30 : decode cX9_byteAt 30 = .ok (.iconst 0, 1) := by decide +kernel
theorem dX9_byteAt_31 : decode cX9_byteAt 31 = .ok (.ireturn, 1) := by decide +kernel
theorem dX10_init_0 : decode cX10_init 0 = .ok (.aload_n 0, 1) := by decide +kernel
theorem dX10_init_1 : decode cX10_init 1 = .ok (.invokespecial 3, 3) := by decide +kernel
theorem dX10_init_4 : decode cX10_init 4 = .ok (.aload_n 0, 1) := by decide +kernel
theorem dX10_init_5 : decode cX10_init 5 = .ok (.iconst 3, 1) := by decide +kernel
theorem dX10_init_6 : decode cX10_init 6 = .ok (.newarray .int, 2) := by decide +kernel
theorem dX10_init_8 : decode cX10_init 8 = .ok (.putfield 9, 3) := by decide +kernel
theorem dX10_init_11 : decode cX10_init 11 = .ok (.aload_n 0, 1) := by decide +kernel
theorem dX10_init_12 : decode cX10_init 12 = .ok (.iconst 3, 1) := by decide +kernel
theorem dX10_init_13 : decode cX10_init 13 = .ok (.newarray .int, 2) := by decide +kernel
theorem dX10_init_15 : decode cX10_init 15 = .ok (.putfield 15, 3) := by decide +kernel
theorem dX10_init_18 : decode cX10_init 18 = .ok (.aload_n 0, 1) := by decide +kernel
theorem dX10_init_19 : decode cX10_init 19 = .ok (.iconst 3, 1) := by decide +kernel
theorem dX10_init_20 : decode cX10_init 20 = .ok (.newarray .int, 2) := by decide +kernel
theorem dX10_init_22 : decode cX10_init 22 = .ok (.putfield 18, 3) := by decide +kernel
theorem dX10_init_25 : decode cX10_init 25 = .ok (.aload_n 0, 1) := by decide +kernel
theorem dX10_init_26 : decode cX10_init 26 = .ok (.iconst 3, 1) := by decide +kernel
theorem dX10_init_27 : decode cX10_init 27 = .ok (.newarray .int, 2) := by decide +kernel
theorem dX10_init_29 : decode cX10_init 29 = .ok (.putfield 21, 3) := by decide +kernel
theorem dX10_init_32 : decode cX10_init 32 = .ok (.return_, 1) := by decide +kernel
theorem dX10_add_0 : decode cX10_add 0 = .ok (.aload_n 0, 1) := by decide +kernel
theorem dX10_add_1 : decode cX10_add 1 = .ok (.getfield 24, 3) := by decide +kernel
theorem dX10_add_4 : decode cX10_add 4 = .ok (.iconst 3, 1) := by decide +kernel
theorem dX10_add_5 : decode cX10_add 5 = .ok (.if_icmp .lt 5, 3) := by decide +kernel
theorem dX10_add_8 : decode cX10_add 8 = .ok (.iconst 0, 1) := by decide +kernel
theorem dX10_add_9 : decode cX10_add 9 = .ok (.ireturn, 1) := by decide +kernel
theorem dX10_add_10 : decode cX10_add 10 = .ok (.aload_n 0, 1) := by decide +kernel
theorem dX10_add_11 : decode cX10_add 11 = .ok (.getfield 9, 3) := by decide +kernel
theorem dX10_add_14 : decode cX10_add 14 = .ok (.aload_n 0, 1) := by decide +kernel
theorem dX10_add_15 : decode cX10_add 15 = .ok (.getfield 24, 3) := by decide +kernel
theorem dX10_add_18 : decode cX10_add 18 = .ok (.iload_n 1, 1) := by decide +kernel
theorem dX10_add_19 : decode cX10_add 19 = .ok (.invokestatic 28, 3) := by decide +kernel
theorem dX10_add_22 : decode cX10_add 22 = .ok (.aload_n 0, 1) := by decide +kernel
theorem dX10_add_23 : decode cX10_add 23 = .ok (.getfield 15, 3) := by decide +kernel
theorem dX10_add_26 : decode cX10_add 26 = .ok (.aload_n 0, 1) := by decide +kernel
theorem dX10_add_27 : decode cX10_add 27 = .ok (.getfield 24, 3) := by decide +kernel
theorem dX10_add_30 : decode cX10_add 30 = .ok (.iload_n 2, 1) := by decide +kernel
theorem dX10_add_31 : decode cX10_add 31 = .ok (.invokestatic 28, 3) := by decide +kernel
theorem dX10_add_34 : decode cX10_add 34 = .ok (.aload_n 0, 1) := by decide +kernel
theorem dX10_add_35 : decode cX10_add 35 = .ok (.getfield 18, 3) := by decide +kernel
theorem dX10_add_38 : decode cX10_add 38 = .ok (.aload_n 0, 1) := by decide +kernel
theorem dX10_add_39 : decode cX10_add 39 = .ok (.getfield 24, 3) := by decide +kernel
theorem dX10_add_42 : decode cX10_add 42 = .ok (.iload_n 3, 1) := by decide +kernel
theorem dX10_add_43 : decode cX10_add 43 = .ok (.invokestatic 28, 3) := by decide +kernel
theorem dX10_add_46 : decode cX10_add 46 = .ok (.aload_n 0, 1) := by decide +kernel
theorem dX10_add_47 : decode cX10_add 47 = .ok (.getfield 21, 3) := by decide +kernel
theorem dX10_add_50 : decode cX10_add 50 = .ok (.aload_n 0, 1) := by decide +kernel
theorem dX10_add_51 : decode cX10_add 51 = .ok (.getfield 24, 3) := by decide +kernel
theorem dX10_add_54 : decode cX10_add 54 = .ok (.iload 4, 2) := by decide +kernel
theorem dX10_add_56 : decode cX10_add 56 = .ok (.invokestatic 28, 3) := by decide +kernel
theorem dX10_add_59 : decode cX10_add 59 = .ok (.aload_n 0, 1) := by decide +kernel
theorem dX10_add_60 : decode cX10_add 60 = .ok (.dup, 1) := by decide +kernel
theorem dX10_add_61 : decode cX10_add 61 = .ok (.getfield 24, 3) := by decide +kernel
theorem dX10_add_64 : decode cX10_add 64 = .ok (.iconst 1, 1) := by decide +kernel
theorem dX10_add_65 : decode cX10_add 65 = .ok (.iadd, 1) := by decide +kernel
theorem dX10_add_66 : decode cX10_add 66 = .ok (.putfield 24, 3) := by decide +kernel
theorem dX10_add_69 : decode cX10_add 69 = .ok (.iconst 1, 1) := by decide +kernel
theorem dX10_add_70 : decode cX10_add 70 = .ok (.ireturn, 1) := by decide +kernel
theorem dX10_withoutHim_0 : decode cX10_withoutHim 0 = .ok (.lconst 1, 1) := by decide +kernel
theorem dX10_withoutHim_1 : decode cX10_withoutHim 1 = .ok (.lstore_n 2, 1) := by decide +kernel
theorem dX10_withoutHim_2 : decode cX10_withoutHim 2 = .ok (.iconst 0, 1) := by decide +kernel
theorem dX10_withoutHim_3 : decode cX10_withoutHim 3 = .ok (.istore 4, 2) := by decide +kernel
theorem dX10_withoutHim_5 : decode cX10_withoutHim 5 = .ok (.iload 4, 2) := by decide +kernel
theorem dX10_withoutHim_7 : decode cX10_withoutHim 7 = .ok (.aload_n 0, 1) := by decide +kernel
theorem dX10_withoutHim_8 : decode cX10_withoutHim 8 = .ok (.getfield 24, 3) := by decide +kernel
theorem dX10_withoutHim_11 : decode cX10_withoutHim 11 = .ok (.if_icmp .ge 40, 3) := by decide +kernel
theorem dX10_withoutHim_14 : decode cX10_withoutHim 14 = .ok (.lload_n 2, 1) := by decide +kernel
theorem dX10_withoutHim_15 : decode cX10_withoutHim 15 = .ok (.aload_n 0, 1) := by decide +kernel
theorem dX10_withoutHim_16 : decode cX10_withoutHim 16 = .ok (.aload_n 1, 1) := by decide +kernel
theorem dX10_withoutHim_17 : decode cX10_withoutHim 17 = .ok (.iload 4, 2) := by decide +kernel
theorem dX10_withoutHim_19 : decode cX10_withoutHim 19 = .ok (.invokevirtual 36, 3) := by decide +kernel
theorem dX10_withoutHim_22 : decode cX10_withoutHim 22 = .ok (.aload_n 0, 1) := by decide +kernel
theorem dX10_withoutHim_23 : decode cX10_withoutHim 23 = .ok (.getfield 18, 3) := by decide +kernel
theorem dX10_withoutHim_26 : decode cX10_withoutHim 26 = .ok (.iload 4, 2) := by decide +kernel
theorem dX10_withoutHim_28 : decode cX10_withoutHim 28 = .ok (.invokestatic 40, 3) := by decide +kernel
theorem dX10_withoutHim_31 : decode cX10_withoutHim 31 = .ok (.aload_n 0, 1) := by decide +kernel
theorem dX10_withoutHim_32 : decode cX10_withoutHim 32 = .ok (.getfield 21, 3) := by decide +kernel
theorem dX10_withoutHim_35 : decode cX10_withoutHim 35 = .ok (.iload 4, 2) := by decide +kernel
theorem dX10_withoutHim_37 : decode cX10_withoutHim 37 = .ok (.invokestatic 40, 3) := by decide +kernel
theorem dX10_withoutHim_40 : decode cX10_withoutHim 40 = .ok (.invokestatic 44, 3) := by decide +kernel
theorem dX10_withoutHim_43 : decode cX10_withoutHim 43 = .ok (.lmul, 1) := by decide +kernel
theorem dX10_withoutHim_44 : decode cX10_withoutHim 44 = .ok (.lstore_n 2, 1) := by decide +kernel
theorem dX10_withoutHim_45 : decode cX10_withoutHim 45 = .ok (.iinc 4 1, 3) := by decide +kernel
theorem dX10_withoutHim_48 : decode cX10_withoutHim 48 = .ok (.goto (-43), 3) := by decide +kernel
theorem dX10_withoutHim_51 : decode cX10_withoutHim 51 = .ok (.lload_n 2, 1) := by decide +kernel
theorem dX10_withoutHim_52 : decode cX10_withoutHim 52 = .ok (.lreturn, 1) := by decide +kernel
theorem dX10_withHim_0 : decode cX10_withHim 0 = .ok (.lconst 1, 1) := by decide +kernel
theorem dX10_withHim_1 : decode cX10_withHim 1 = .ok (.lstore_n 2, 1) := by decide +kernel
theorem dX10_withHim_2 : decode cX10_withHim 2 = .ok (.iconst 0, 1) := by decide +kernel
theorem dX10_withHim_3 : decode cX10_withHim 3 = .ok (.istore 4, 2) := by decide +kernel
theorem dX10_withHim_5 : decode cX10_withHim 5 = .ok (.iload 4, 2) := by decide +kernel
theorem dX10_withHim_7 : decode cX10_withHim 7 = .ok (.aload_n 0, 1) := by decide +kernel
theorem dX10_withHim_8 : decode cX10_withHim 8 = .ok (.getfield 24, 3) := by decide +kernel
theorem dX10_withHim_11 : decode cX10_withHim 11 = .ok (.if_icmp .ge 61, 3) := by decide +kernel
theorem dX10_withHim_14 : decode cX10_withHim 14 = .ok (.aload_n 0, 1) := by decide +kernel
theorem dX10_withHim_15 : decode cX10_withHim 15 = .ok (.getfield 21, 3) := by decide +kernel
theorem dX10_withHim_18 : decode cX10_withHim 18 = .ok (.iload 4, 2) := by decide +kernel
theorem dX10_withHim_20 : decode cX10_withHim 20 = .ok (.invokestatic 40, 3) := by decide +kernel
theorem dX10_withHim_23 : decode cX10_withHim 23 = .ok (.istore 5, 2) := by decide +kernel
theorem dX10_withHim_25 : decode cX10_withHim 25 = .ok (.lload_n 2, 1) := by decide +kernel
theorem dX10_withHim_26 : decode cX10_withHim 26 = .ok (.iload 5, 2) := by decide +kernel
theorem dX10_withHim_28 : decode cX10_withHim 28 = .ok (.ifCond .ne 7, 3) := by decide +kernel
theorem dX10_withHim_31 : decode cX10_withHim 31 = .ok (.lconst 0, 1) := by decide +kernel
theorem dX10_withHim_32 : decode cX10_withHim 32 = .ok (.goto 32, 3) := by decide +kernel
theorem dX10_withHim_35 : decode cX10_withHim 35 = .ok (.ldc2_w 48, 3) := by decide +kernel
theorem dX10_withHim_38 : decode cX10_withHim 38 = .ok (.aload_n 0, 1) := by decide +kernel
theorem dX10_withHim_39 : decode cX10_withHim 39 = .ok (.aload_n 1, 1) := by decide +kernel
theorem dX10_withHim_40 : decode cX10_withHim 40 = .ok (.iload 4, 2) := by decide +kernel
theorem dX10_withHim_42 : decode cX10_withHim 42 = .ok (.invokevirtual 36, 3) := by decide +kernel
theorem dX10_withHim_45 : decode cX10_withHim 45 = .ok (.aload_n 0, 1) := by decide +kernel
theorem dX10_withHim_46 : decode cX10_withHim 46 = .ok (.getfield 18, 3) := by decide +kernel
theorem dX10_withHim_49 : decode cX10_withHim 49 = .ok (.iload 4, 2) := by decide +kernel
theorem dX10_withHim_51 : decode cX10_withHim 51 = .ok (.invokestatic 40, 3) := by decide +kernel
theorem dX10_withHim_54 : decode cX10_withHim 54 = .ok (.iconst 1, 1) := by decide +kernel
theorem dX10_withHim_55 : decode cX10_withHim 55 = .ok (.isub, 1) := by decide +kernel
theorem dX10_withHim_56 : decode cX10_withHim 56 = .ok (.iload 5, 2) := by decide +kernel
theorem dX10_withHim_58 : decode cX10_withHim 58 = .ok (.iconst 1, 1) := by decide +kernel
theorem dX10_withHim_59 : decode cX10_withHim 59 = .ok (.isub, 1) := by decide +kernel
theorem dX10_withHim_60 : decode cX10_withHim 60 = .ok (.invokestatic 44, 3) := by decide +kernel
theorem dX10_withHim_63 : decode cX10_withHim 63 = .ok (.lmul, 1) := by decide +kernel
theorem dX10_withHim_64 : decode cX10_withHim 64 = .ok (.lmul, 1) := by decide +kernel
theorem dX10_withHim_65 : decode cX10_withHim 65 = .ok (.lstore_n 2, 1) := by decide +kernel
theorem dX10_withHim_66 : decode cX10_withHim 66 = .ok (.iinc 4 1, 3) := by decide +kernel
theorem dX10_withHim_69 : decode cX10_withHim 69 = .ok (.goto (-64), 3) := by decide +kernel
theorem dX10_withHim_72 : decode cX10_withHim 72 = .ok (.lload_n 2, 1) := by decide +kernel
theorem dX10_withHim_73 : decode cX10_withHim 73 = .ok (.lreturn, 1) := by decide +kernel
theorem dX10_doesTenths_0 : decode cX10_doesTenths 0 = .ok (.aload_n 1, 1) := by decide +kernel
theorem dX10_doesTenths_1 : decode cX10_doesTenths 1 = .ok (.aload_n 0, 1) := by decide +kernel
theorem dX10_doesTenths_2 : decode cX10_doesTenths 2 = .ok (.getfield 9, 3) := by decide +kernel
theorem dX10_doesTenths_5 : decode cX10_doesTenths 5 = .ok (.iload_n 2, 1) := by decide +kernel
theorem dX10_doesTenths_6 : decode cX10_doesTenths 6 = .ok (.invokestatic 40, 3) := by decide +kernel
theorem dX10_doesTenths_9 : decode cX10_doesTenths 9 = .ok (.aload_n 0, 1) := by decide +kernel
theorem dX10_doesTenths_10 : decode cX10_doesTenths 10 = .ok (.getfield 15, 3) := by decide +kernel
theorem dX10_doesTenths_13 : decode cX10_doesTenths 13 = .ok (.iload_n 2, 1) := by decide +kernel
theorem dX10_doesTenths_14 : decode cX10_doesTenths 14 = .ok (.invokestatic 40, 3) := by decide +kernel
theorem dX10_doesTenths_17 : decode cX10_doesTenths 17 = .ok (.iconst 0, 1) := by decide +kernel
theorem dX10_doesTenths_18 : decode cX10_doesTenths 18 = .ok (.invokevirtual 50, 3) := by decide +kernel
theorem dX10_doesTenths_21 : decode cX10_doesTenths 21 = .ok (.bipush 10, 2) := by decide +kernel
theorem dX10_doesTenths_23 : decode cX10_doesTenths 23 = .ok (.idiv, 1) := by decide +kernel
theorem dX10_doesTenths_24 : decode cX10_doesTenths 24 = .ok (.ireturn, 1) := by decide +kernel
theorem dX10_likely_0 : decode cX10_likely 0 = .ok (.lconst 1, 1) := by decide +kernel
theorem dX10_likely_1 : decode cX10_likely 1 = .ok (.lstore_n 3, 1) := by decide +kernel
theorem dX10_likely_2 : decode cX10_likely 2 = .ok (.iconst 0, 1) := by decide +kernel
theorem dX10_likely_3 : decode cX10_likely 3 = .ok (.istore 5, 2) := by decide +kernel
theorem dX10_likely_5 : decode cX10_likely 5 = .ok (.iload 5, 2) := by decide +kernel
theorem dX10_likely_7 : decode cX10_likely 7 = .ok (.iload_n 2, 1) := by decide +kernel
theorem dX10_likely_8 : decode cX10_likely 8 = .ok (.if_icmp .ge 23, 3) := by decide +kernel
theorem dX10_likely_11 : decode cX10_likely 11 = .ok (.lload_n 3, 1) := by decide +kernel
theorem dX10_likely_12 : decode cX10_likely 12 = .ok (.iload_n 1, 1) := by decide +kernel
theorem dX10_likely_13 : decode cX10_likely 13 = .ok (.iload 5, 2) := by decide +kernel
theorem dX10_likely_15 : decode cX10_likely 15 = .ok (.isub, 1) := by decide +kernel
theorem dX10_likely_16 : decode cX10_likely 16 = .ok (.i2l, 1) := by decide +kernel
theorem dX10_likely_17 : decode cX10_likely 17 = .ok (.lmul, 1) := by decide +kernel
theorem dX10_likely_18 : decode cX10_likely 18 = .ok (.iload 5, 2) := by decide +kernel
theorem dX10_likely_20 : decode cX10_likely 20 = .ok (.iconst 1, 1) := by decide +kernel
theorem dX10_likely_21 : decode cX10_likely 21 = .ok (.iadd, 1) := by decide +kernel
theorem dX10_likely_22 : decode cX10_likely 22 = .ok (.i2l, 1) := by decide +kernel
theorem dX10_likely_23 : decode cX10_likely 23 = .ok (.ldiv, 1) := by decide +kernel
theorem dX10_likely_24 : decode cX10_likely 24 = .ok (.lstore_n 3, 1) := by decide +kernel
theorem dX10_likely_25 : decode cX10_likely 25 = .ok (.iinc 5 1, 3) := by decide +kernel
theorem dX10_likely_28 : decode cX10_likely 28 = .ok (.goto (-23), 3) := by decide +kernel
theorem dX10_likely_31 : decode cX10_likely 31 = .ok (.iconst 0, 1) := by decide +kernel
theorem dX10_likely_32 : decode cX10_likely 32 = .ok (.istore 5, 2) := by decide +kernel
theorem dX10_likely_34 : decode cX10_likely 34 = .ok (.iload 5, 2) := by decide +kernel
theorem dX10_likely_36 : decode cX10_likely 36 = .ok (.iload_n 1, 1) := by decide +kernel
theorem dX10_likely_37 : decode cX10_likely 37 = .ok (.if_icmp .ge 28, 3) := by decide +kernel
theorem dX10_likely_40 : decode cX10_likely 40 = .ok (.lload_n 3, 1) := by decide +kernel
theorem dX10_likely_41 : decode cX10_likely 41 = .ok (.iload 5, 2) := by decide +kernel
theorem dX10_likely_43 : decode cX10_likely 43 = .ok (.iload_n 2, 1) := by decide +kernel
theorem dX10_likely_44 : decode cX10_likely 44 = .ok (.if_icmp .ge 8, 3) := by decide +kernel
theorem dX10_likely_47 : decode cX10_likely 47 = .ok (.iload_n 0, 1) := by decide +kernel
theorem dX10_likely_48 : decode cX10_likely 48 = .ok (.i2l, 1) := by decide +kernel
theorem dX10_likely_49 : decode cX10_likely 49 = .ok (.goto 8, 3) := by decide +kernel
theorem dX10_likely_52 : decode cX10_likely 52 = .ok (.bipush 10, 2) := by decide +kernel
theorem dX10_likely_54 : decode cX10_likely 54 = .ok (.iload_n 0, 1) := by decide +kernel
theorem dX10_likely_55 : decode cX10_likely 55 = .ok (.isub, 1) := by decide +kernel
theorem dX10_likely_56 : decode cX10_likely 56 = .ok (.i2l, 1) := by decide +kernel
theorem dX10_likely_57 : decode cX10_likely 57 = .ok (.lmul, 1) := by decide +kernel
theorem dX10_likely_58 : decode cX10_likely 58 = .ok (.lstore_n 3, 1) := by decide +kernel
theorem dX10_likely_59 : decode cX10_likely 59 = .ok (.iinc 5 1, 3) := by decide +kernel
theorem dX10_likely_62 : decode cX10_likely 62 = .ok (.goto (-28), 3) := by decide +kernel
theorem dX10_likely_65 : decode cX10_likely 65 = .ok (.lload_n 3, 1) := by decide +kernel
theorem dX10_likely_66 : decode cX10_likely 66 = .ok (.lreturn, 1) := by decide +kernel
theorem dX11_init_0 : decode cX11_init 0 = .ok (.aload_n 0, 1) := by decide +kernel
theorem dX11_init_1 : decode cX11_init 1 = .ok (.invokespecial 1, 3) := by decide +kernel
theorem dX11_init_4 : decode cX11_init 4 = .ok (.aload_n 0, 1) := by decide +kernel
theorem dX11_init_5 : decode cX11_init 5 = .ok (.new 7, 3) := by decide +kernel
theorem dX11_init_8 : decode cX11_init 8 = .ok (.dup, 1) := by decide +kernel
theorem dX11_init_9 : decode cX11_init 9 = .ok (.invokespecial 9, 3) := by decide +kernel
theorem dX11_init_12 : decode cX11_init 12 = .ok (.putfield 10, 3) := by decide +kernel
theorem dX11_init_15 : decode cX11_init 15 = .ok (.aload_n 0, 1) := by decide +kernel
theorem dX11_init_16 : decode cX11_init 16 = .ok (.new 16, 3) := by decide +kernel
theorem dX11_init_19 : decode cX11_init 19 = .ok (.dup, 1) := by decide +kernel
theorem dX11_init_20 : decode cX11_init 20 = .ok (.invokespecial 18, 3) := by decide +kernel
theorem dX11_init_23 : decode cX11_init 23 = .ok (.putfield 19, 3) := by decide +kernel
theorem dX11_init_26 : decode cX11_init 26 = .ok (.aload_n 0, 1) := by decide +kernel
theorem dX11_init_27 : decode cX11_init 27 = .ok (.new 23, 3) := by decide +kernel
theorem dX11_init_30 : decode cX11_init 30 = .ok (.dup, 1) := by decide +kernel
theorem dX11_init_31 : decode cX11_init 31 = .ok (.invokespecial 25, 3) := by decide +kernel
theorem dX11_init_34 : decode cX11_init 34 = .ok (.putfield 26, 3) := by decide +kernel
theorem dX11_init_37 : decode cX11_init 37 = .ok (.aload_n 0, 1) := by decide +kernel
theorem dX11_init_38 : decode cX11_init 38 = .ok (.new 16, 3) := by decide +kernel
theorem dX11_init_41 : decode cX11_init 41 = .ok (.dup, 1) := by decide +kernel
theorem dX11_init_42 : decode cX11_init 42 = .ok (.invokespecial 18, 3) := by decide +kernel
theorem dX11_init_45 : decode cX11_init 45 = .ok (.putfield 30, 3) := by decide +kernel
theorem dX11_init_48 : decode cX11_init 48 = .ok (.aload_n 0, 1) := by decide +kernel
theorem dX11_init_49 : decode cX11_init 49 = .ok (.new 33, 3) := by decide +kernel
theorem dX11_init_52 : decode cX11_init 52 = .ok (.dup, 1) := by decide +kernel
theorem dX11_init_53 : decode cX11_init 53 = .ok (.invokespecial 35, 3) := by decide +kernel
theorem dX11_init_56 : decode cX11_init 56 = .ok (.putfield 36, 3) := by decide +kernel
theorem dX11_init_59 : decode cX11_init 59 = .ok (.aload_n 0, 1) := by decide +kernel
theorem dX11_init_60 : decode cX11_init 60 = .ok (.new 40, 3) := by decide +kernel
theorem dX11_init_63 : decode cX11_init 63 = .ok (.dup, 1) := by decide +kernel
theorem dX11_init_64 : decode cX11_init 64 = .ok (.aload_n 0, 1) := by decide +kernel
theorem dX11_init_65 : decode cX11_init 65 = .ok (.getfield 30, 3) := by decide +kernel
theorem dX11_init_68 : decode cX11_init 68 = .ok (.aload_n 0, 1) := by decide +kernel
theorem dX11_init_69 : decode cX11_init 69 = .ok (.getfield 36, 3) := by decide +kernel
theorem dX11_init_72 : decode cX11_init 72 = .ok (.invokespecial 42, 3) := by decide +kernel
theorem dX11_init_75 : decode cX11_init 75 = .ok (.putfield 45, 3) := by decide +kernel
theorem dX11_init_78 : decode cX11_init 78 = .ok (.aload_n 0, 1) := by decide +kernel
theorem dX11_init_79 : decode cX11_init 79 = .ok (.new 23, 3) := by decide +kernel
theorem dX11_init_82 : decode cX11_init 82 = .ok (.dup, 1) := by decide +kernel
theorem dX11_init_83 : decode cX11_init 83 = .ok (.invokespecial 25, 3) := by decide +kernel
theorem dX11_init_86 : decode cX11_init 86 = .ok (.putfield 49, 3) := by decide +kernel
theorem dX11_init_89 : decode cX11_init 89 = .ok (.aload_n 0, 1) := by decide +kernel
theorem dX11_init_90 : decode cX11_init 90 = .ok (.new 23, 3) := by decide +kernel
theorem dX11_init_93 : decode cX11_init 93 = .ok (.dup, 1) := by decide +kernel
theorem dX11_init_94 : decode cX11_init 94 = .ok (.invokespecial 25, 3) := by decide +kernel
theorem dX11_init_97 : decode cX11_init 97 = .ok (.putfield 52, 3) := by decide +kernel
theorem dX11_init_100 : decode cX11_init 100 = .ok (.aload_n 0, 1) := by decide +kernel
theorem dX11_init_101 : decode cX11_init 101 = .ok (.new 55, 3) := by decide +kernel
theorem dX11_init_104 : decode cX11_init 104 = .ok (.dup, 1) := by decide +kernel
theorem dX11_init_105 : decode cX11_init 105 = .ok (.aload_n 0, 1) := by decide +kernel
theorem dX11_init_106 : decode cX11_init 106 = .ok (.getfield 19, 3) := by decide +kernel
theorem dX11_init_109 : decode cX11_init 109 = .ok (.invokespecial 57, 3) := by decide +kernel
theorem dX11_init_112 : decode cX11_init 112 = .ok (.putfield 60, 3) := by decide +kernel
theorem dX11_init_115 : decode cX11_init 115 = .ok (.aload_n 0, 1) := by decide +kernel
theorem dX11_init_116 : decode cX11_init 116 = .ok (.new 64, 3) := by decide +kernel
theorem dX11_init_119 : decode cX11_init 119 = .ok (.dup, 1) := by decide +kernel
theorem dX11_init_120 : decode cX11_init 120 = .ok (.aload_n 0, 1) := by decide +kernel
theorem dX11_init_121 : decode cX11_init 121 = .ok (.getfield 19, 3) := by decide +kernel
theorem dX11_init_124 : decode cX11_init 124 = .ok (.invokespecial 66, 3) := by decide +kernel
theorem dX11_init_127 : decode cX11_init 127 = .ok (.putfield 67, 3) := by decide +kernel
theorem dX11_init_130 : decode cX11_init 130 = .ok (.aload_n 0, 1) := by decide +kernel
theorem dX11_init_131 : decode cX11_init 131 = .ok (.new 71, 3) := by decide +kernel
theorem dX11_init_134 : decode cX11_init 134 = .ok (.dup, 1) := by decide +kernel
theorem dX11_init_135 : decode cX11_init 135 = .ok (.invokespecial 73, 3) := by decide +kernel
theorem dX11_init_138 : decode cX11_init 138 = .ok (.putfield 74, 3) := by decide +kernel
theorem dX11_init_141 : decode cX11_init 141 = .ok (.aload_n 0, 1) := by decide +kernel
theorem dX11_init_142 : decode cX11_init 142 = .ok (.new 78, 3) := by decide +kernel
theorem dX11_init_145 : decode cX11_init 145 = .ok (.dup, 1) := by decide +kernel
theorem dX11_init_146 : decode cX11_init 146 = .ok (.aload_n 0, 1) := by decide +kernel
theorem dX11_init_147 : decode cX11_init 147 = .ok (.getfield 19, 3) := by decide +kernel
theorem dX11_init_150 : decode cX11_init 150 = .ok (.aload_n 0, 1) := by decide +kernel
theorem dX11_init_151 : decode cX11_init 151 = .ok (.getfield 74, 3) := by decide +kernel
theorem dX11_init_154 : decode cX11_init 154 = .ok (.invokespecial 80, 3) := by decide +kernel
theorem dX11_init_157 : decode cX11_init 157 = .ok (.putfield 83, 3) := by decide +kernel
theorem dX11_init_160 : decode cX11_init 160 = .ok (.aload_n 0, 1) := by decide +kernel
theorem dX11_init_161 : decode cX11_init 161 = .ok (.new 87, 3) := by decide +kernel
theorem dX11_init_164 : decode cX11_init 164 = .ok (.dup, 1) := by decide +kernel
theorem dX11_init_165 : decode cX11_init 165 = .ok (.aload_n 0, 1) := by decide +kernel
theorem dX11_init_166 : decode cX11_init 166 = .ok (.getfield 19, 3) := by decide +kernel
theorem dX11_init_169 : decode cX11_init 169 = .ok (.invokespecial 89, 3) := by decide +kernel
theorem dX11_init_172 : decode cX11_init 172 = .ok (.putfield 90, 3) := by decide +kernel
theorem dX11_init_175 : decode cX11_init 175 = .ok (.aload_n 0, 1) := by decide +kernel
theorem dX11_init_176 : decode cX11_init 176 = .ok (.getfield 19, 3) := by decide +kernel
theorem dX11_init_179 : decode cX11_init 179 = .ok (.bipush 10, 2) := by decide +kernel
theorem dX11_init_181 : decode cX11_init 181 = .ok (.iconst 5, 1) := by decide +kernel
theorem dX11_init_182 : decode cX11_init 182 = .ok (.iconst 5, 1) := by decide +kernel
theorem dX11_init_183 : decode cX11_init 183 = .ok (.iconst 0, 1) := by decide +kernel
theorem dX11_init_184 : decode cX11_init 184 = .ok (.invokevirtual 94, 3) := by decide +kernel
theorem dX11_init_187 : decode cX11_init 187 = .ok (.pop, 1) := by decide +kernel
theorem dX11_init_188 : decode cX11_init 188 = .ok (.aload_n 0, 1) := by decide +kernel
theorem dX11_init_189 : decode cX11_init 189 = .ok (.getfield 19, 3) := by decide +kernel
theorem dX11_init_192 : decode cX11_init 192 = .ok (.iconst 5, 1) := by decide +kernel
theorem dX11_init_193 : decode cX11_init 193 = .ok (.iconst 2, 1) := by decide +kernel
theorem dX11_init_194 : decode cX11_init 194 = .ok (.iconst 5, 1) := by decide +kernel
theorem dX11_init_195 : decode cX11_init 195 = .ok (.iconst 5, 1) := by decide +kernel
theorem dX11_init_196 : decode cX11_init 196 = .ok (.invokevirtual 98, 3) := by decide +kernel
theorem dX11_init_199 : decode cX11_init 199 = .ok (.pop, 1) := by decide +kernel
theorem dX11_init_200 : decode cX11_init 200 = .ok (.return_, 1) := by decide +kernel
theorem dX11_write_0 : decode cX11_write 0 = .ok (.iload_n 1, 1) := by decide +kernel
theorem dX11_write_1 : decode cX11_write 1 = .ok (.iconst 1, 1) := by decide +kernel
theorem dX11_write_2 : decode cX11_write 2 = .ok (.bipush 8, 2) := by decide +kernel
theorem dX11_write_4 : decode cX11_write 4 = .ok (.invokestatic 101, 3) := by decide +kernel
theorem dX11_write_7 : decode cX11_write 7 = .ok (.ifCond .ne 5, 3) := by decide +kernel
theorem dX11_write_10 : decode cX11_write 10 = .ok (.iconst (-1), 1) := by decide +kernel
theorem dX11_write_11 : decode cX11_write 11 = .ok (.ireturn, 1) := by decide +kernel
theorem dX11_write_12 : decode cX11_write 12 = .ok (.aload_n 0, 1) := by decide +kernel
theorem dX11_write_13 : decode cX11_write 13 = .ok (.getfield 10, 3) := by decide +kernel
theorem dX11_write_16 : decode cX11_write 16 = .ok (.getfield 105, 3) := by decide +kernel
theorem dX11_write_19 : decode cX11_write 19 = .ok (.iload_n 1, 1) := by decide +kernel
theorem dX11_write_20 : decode cX11_write 20 = .ok (.iadd, 1) := by decide +kernel
theorem dX11_write_21 : decode cX11_write 21 = .ok (.sipush 400, 3) := by decide +kernel
theorem dX11_write_24 : decode cX11_write 24 = .ok (.if_icmp .le 6, 3) := by decide +kernel
theorem dX11_write_27 : decode cX11_write 27 = .ok (.bipush (-3), 2) := by decide +kernel
theorem dX11_write_29 : decode cX11_write 29 = .ok (.ireturn, 1) := by decide +kernel
theorem dX11_write_30 : decode cX11_write 30 = .ok (.iload_n 1, 1) := by decide +kernel
theorem dX11_write_31 : decode cX11_write 31 = .ok (.iconst 1, 1) := by decide +kernel
theorem dX11_write_32 : decode cX11_write 32 = .ok (.isub, 1) := by decide +kernel
theorem dX11_write_33 : decode cX11_write 33 = .ok (.istore 4, 2) := by decide +kernel
theorem dX11_write_35 : decode cX11_write 35 = .ok (.iload 4, 2) := by decide +kernel
theorem dX11_write_37 : decode cX11_write 37 = .ok (.ifCond .lt 25, 3) := by decide +kernel
theorem dX11_write_40 : decode cX11_write 40 = .ok (.aload_n 0, 1) := by decide +kernel
theorem dX11_write_41 : decode cX11_write 41 = .ok (.getfield 10, 3) := by decide +kernel
theorem dX11_write_44 : decode cX11_write 44 = .ok (.lload_n 2, 1) := by decide +kernel
theorem dX11_write_45 : decode cX11_write 45 = .ok (.bipush 8, 2) := by decide +kernel
theorem dX11_write_47 : decode cX11_write 47 = .ok (.iload 4, 2) := by decide +kernel
theorem dX11_write_49 : decode cX11_write 49 = .ok (.imul, 1) := by decide +kernel
theorem dX11_write_50 : decode cX11_write 50 = .ok (.lushr, 1) := by decide +kernel
theorem dX11_write_51 : decode cX11_write 51 = .ok (.l2i, 1) := by decide +kernel
theorem dX11_write_52 : decode cX11_write 52 = .ok (.i2b, 1) := by decide +kernel
theorem dX11_write_53 : decode cX11_write 53 = .ok (.invokevirtual 109, 3) := by decide +kernel
theorem dX11_write_56 : decode cX11_write 56 = .ok (.iinc 4 (-1), 3) := by decide +kernel
theorem dX11_write_59 : decode cX11_write 59 = .ok (.goto (-24), 3) := by decide +kernel
theorem dX11_write_62 : decode cX11_write 62 = .ok (.aload_n 0, 1) := by decide +kernel
theorem dX11_write_63 : decode cX11_write 63 = .ok (.getfield 10, 3) := by decide +kernel
theorem dX11_write_66 : decode cX11_write 66 = .ok (.getfield 105, 3) := by decide +kernel
theorem dX11_write_69 : decode cX11_write 69 = .ok (.ireturn, 1) := by decide +kernel
theorem dX11_wipe_0 : decode cX11_wipe 0 = .ok (.aload_n 0, 1) := by decide +kernel
theorem dX11_wipe_1 : decode cX11_wipe 1 = .ok (.getfield 10, 3) := by decide +kernel
theorem dX11_wipe_4 : decode cX11_wipe 4 = .ok (.getfield 105, 3) := by decide +kernel
theorem dX11_wipe_7 : decode cX11_wipe 7 = .ok (.istore_n 1, 1) := by decide +kernel
theorem dX11_wipe_8 : decode cX11_wipe 8 = .ok (.aload_n 0, 1) := by decide +kernel
theorem dX11_wipe_9 : decode cX11_wipe 9 = .ok (.getfield 10, 3) := by decide +kernel
theorem dX11_wipe_12 : decode cX11_wipe 12 = .ok (.iconst 0, 1) := by decide +kernel
theorem dX11_wipe_13 : decode cX11_wipe 13 = .ok (.putfield 105, 3) := by decide +kernel
theorem dX11_wipe_16 : decode cX11_wipe 16 = .ok (.iload_n 1, 1) := by decide +kernel
theorem dX11_wipe_17 : decode cX11_wipe 17 = .ok (.ireturn, 1) := by decide +kernel
theorem dX11_lay_0 : decode cX11_lay 0 = .ok (.aload_n 0, 1) := by decide +kernel
theorem dX11_lay_1 : decode cX11_lay 1 = .ok (.getfield 45, 3) := by decide +kernel
theorem dX11_lay_4 : decode cX11_lay 4 = .ok (.aload_n 0, 1) := by decide +kernel
theorem dX11_lay_5 : decode cX11_lay 5 = .ok (.getfield 10, 3) := by decide +kernel
theorem dX11_lay_8 : decode cX11_lay 8 = .ok (.invokevirtual 113, 3) := by decide +kernel
theorem dX11_lay_11 : decode cX11_lay 11 = .ok (.bipush (-4), 2) := by decide +kernel
theorem dX11_lay_13 : decode cX11_lay 13 = .ok (.if_icmp .ne 23, 3) := by decide +kernel
theorem dX11_lay_16 : decode cX11_lay 16 = .ok (.aload_n 0, 1) := by decide +kernel
theorem dX11_lay_17 : decode cX11_lay 17 = .ok (.getfield 30, 3) := by decide +kernel
theorem dX11_lay_20 : decode cX11_lay 20 = .ok (.getfield 117, 3) := by decide +kernel
theorem dX11_lay_23 : decode cX11_lay 23 = .ok (.ifCond .eq 13, 3) := by decide +kernel
theorem dX11_lay_26 : decode cX11_lay 26 = .ok (.aload_n 0, 1) := by decide +kernel
theorem dX11_lay_27 : decode cX11_lay 27 = .ok (.getfield 30, 3) := by decide +kernel
theorem dX11_lay_30 : decode cX11_lay 30 = .ok (.getfield 120, 3) := by decide +kernel
theorem dX11_lay_33 : decode cX11_lay 33 = .ok (.ifCond .ne 6, 3) := by decide +kernel
theorem dX11_lay_36 : decode cX11_lay 36 = .ok (.bipush (-2), 2) := by decide +kernel
theorem dX11_lay_38 : decode cX11_lay 38 = .ok (.ireturn, 1) := by decide +kernel
theorem dX11_lay_39 : decode cX11_lay 39 = .ok (.aload_n 0, 1) := by decide +kernel
theorem dX11_lay_40 : decode cX11_lay 40 = .ok (.getfield 19, 3) := by decide +kernel
theorem dX11_lay_43 : decode cX11_lay 43 = .ok (.aload_n 0, 1) := by decide +kernel
theorem dX11_lay_44 : decode cX11_lay 44 = .ok (.getfield 30, 3) := by decide +kernel
theorem dX11_lay_47 : decode cX11_lay 47 = .ok (.invokevirtual 123, 3) := by decide +kernel
theorem dX11_lay_50 : decode cX11_lay 50 = .ok (.aload_n 0, 1) := by decide +kernel
theorem dX11_lay_51 : decode cX11_lay 51 = .ok (.getfield 26, 3) := by decide +kernel
theorem dX11_lay_54 : decode cX11_lay 54 = .ok (.getfield 126, 3) := by decide +kernel
theorem dX11_lay_57 : decode cX11_lay 57 = .ok (.aload_n 0, 1) := by decide +kernel
theorem dX11_lay_58 : decode cX11_lay 58 = .ok (.getfield 36, 3) := by decide +kernel
theorem dX11_lay_61 : decode cX11_lay 61 = .ok (.invokevirtual 129, 3) := by decide +kernel
theorem dX11_lay_64 : decode cX11_lay 64 = .ok (.aload_n 0, 1) := by decide +kernel
theorem dX11_lay_65 : decode cX11_lay 65 = .ok (.getfield 26, 3) := by decide +kernel
theorem dX11_lay_68 : decode cX11_lay 68 = .ok (.getfield 132, 3) := by decide +kernel
theorem dX11_lay_71 : decode cX11_lay 71 = .ok (.iconst 0, 1) := by decide +kernel
theorem dX11_lay_72 : decode cX11_lay 72 = .ok (.putfield 136, 3) := by decide +kernel
theorem dX11_lay_75 : decode cX11_lay 75 = .ok (.aload_n 0, 1) := by decide +kernel
theorem dX11_lay_76 : decode cX11_lay 76 = .ok (.iconst 0, 1) := by decide +kernel
theorem dX11_lay_77 : decode cX11_lay 77 = .ok (.putfield 139, 3) := by decide +kernel
theorem dX11_lay_80 : decode cX11_lay 80 = .ok (.aload_n 0, 1) := by decide +kernel
theorem dX11_lay_81 : decode cX11_lay 81 = .ok (.getfield 67, 3) := by decide +kernel
theorem dX11_lay_84 : decode cX11_lay 84 = .ok (.invokevirtual 142, 3) := by decide +kernel
theorem dX11_lay_87 : decode cX11_lay 87 = .ok (.aload_n 0, 1) := by decide +kernel
theorem dX11_lay_88 : decode cX11_lay 88 = .ok (.getfield 19, 3) := by decide +kernel
theorem dX11_lay_91 : decode cX11_lay 91 = .ok (.getfield 145, 3) := by decide +kernel
theorem dX11_lay_94 : decode cX11_lay 94 = .ok (.ireturn, 1) := by decide +kernel
theorem dX11_does_0 : decode cX11_does 0 = .ok (.aload_n 0, 1) := by decide +kernel
theorem dX11_does_1 : decode cX11_does 1 = .ok (.getfield 19, 3) := by decide +kernel
theorem dX11_does_4 : decode cX11_does 4 = .ok (.iload_n 1, 1) := by decide +kernel
theorem dX11_does_5 : decode cX11_does 5 = .ok (.invokevirtual 148, 3) := by decide +kernel
theorem dX11_does_8 : decode cX11_does 8 = .ok (.ifCond .eq 33, 3) := by decide +kernel
theorem dX11_does_11 : decode cX11_does 11 = .ok (.aload_n 0, 1) := by decide +kernel
theorem dX11_does_12 : decode cX11_does 12 = .ok (.getfield 19, 3) := by decide +kernel
theorem dX11_does_15 : decode cX11_does 15 = .ok (.iload_n 2, 1) := by decide +kernel
theorem dX11_does_16 : decode cX11_does 16 = .ok (.invokevirtual 152, 3) := by decide +kernel
theorem dX11_does_19 : decode cX11_does 19 = .ok (.ifCond .eq 22, 3) := by decide +kernel
theorem dX11_does_22 : decode cX11_does 22 = .ok (.iload_n 3, 1) := by decide +kernel
theorem dX11_does_23 : decode cX11_does 23 = .ok (.iconst 0, 1) := by decide +kernel
theorem dX11_does_24 : decode cX11_does 24 = .ok (.iconst 3, 1) := by decide +kernel
theorem dX11_does_25 : decode cX11_does 25 = .ok (.invokestatic 101, 3) := by decide +kernel
theorem dX11_does_28 : decode cX11_does 28 = .ok (.ifCond .eq 13, 3) := by decide +kernel
theorem dX11_does_31 : decode cX11_does 31 = .ok (.iload 4, 2) := by decide +kernel
theorem dX11_does_33 : decode cX11_does 33 = .ok (.iconst 0, 1) := by decide +kernel
theorem dX11_does_34 : decode cX11_does 34 = .ok (.iconst 2, 1) := by decide +kernel
theorem dX11_does_35 : decode cX11_does 35 = .ok (.invokestatic 101, 3) := by decide +kernel
theorem dX11_does_38 : decode cX11_does 38 = .ok (.ifCond .ne 5, 3) := by decide +kernel
theorem dX11_does_41 : decode cX11_does 41 = .ok (.iconst (-1), 1) := by decide +kernel
theorem dX11_does_42 : decode cX11_does 42 = .ok (.ireturn, 1) := by decide +kernel
theorem dX11_does_43 : decode cX11_does 43 = .ok (.iload 4, 2) := by decide +kernel
theorem dX11_does_45 : decode cX11_does 45 = .ok (.ifCond .ne 14, 3) := by decide +kernel
theorem dX11_does_48 : decode cX11_does 48 = .ok (.aload_n 0, 1) := by decide +kernel
theorem dX11_does_49 : decode cX11_does 49 = .ok (.getfield 19, 3) := by decide +kernel
theorem dX11_does_52 : decode cX11_does 52 = .ok (.iload_n 1, 1) := by decide +kernel
theorem dX11_does_53 : decode cX11_does 53 = .ok (.iload_n 2, 1) := by decide +kernel
theorem dX11_does_54 : decode cX11_does 54 = .ok (.iload_n 3, 1) := by decide +kernel
theorem dX11_does_55 : decode cX11_does 55 = .ok (.invokevirtual 155, 3) := by decide +kernel
theorem dX11_does_58 : decode cX11_does 58 = .ok (.ireturn, 1) := by decide +kernel
theorem dX11_does_59 : decode cX11_does 59 = .ok (.iload 4, 2) := by decide +kernel
theorem dX11_does_61 : decode cX11_does 61 = .ok (.iconst 1, 1) := by decide +kernel
theorem dX11_does_62 : decode cX11_does 62 = .ok (.if_icmp .ne 16, 3) := by decide +kernel
theorem dX11_does_65 : decode cX11_does 65 = .ok (.aload_n 0, 1) := by decide +kernel
theorem dX11_does_66 : decode cX11_does 66 = .ok (.getfield 19, 3) := by decide +kernel
theorem dX11_does_69 : decode cX11_does 69 = .ok (.iload_n 1, 1) := by decide +kernel
theorem dX11_does_70 : decode cX11_does 70 = .ok (.iload_n 2, 1) := by decide +kernel
theorem dX11_does_71 : decode cX11_does 71 = .ok (.iload_n 3, 1) := by decide +kernel
theorem dX11_does_72 : decode cX11_does 72 = .ok (.invokevirtual 159, 3) := by decide +kernel
theorem dX11_does_75 : decode cX11_does 75 = .ok (.goto 13, 3) := by decide +kernel
theorem dX11_does_78 : decode cX11_does 78 = .ok (.aload_n 0, 1) := by decide +kernel
theorem dX11_does_79 : decode cX11_does 79 = .ok (.getfield 19, 3) := by decide +kernel
theorem dX11_does_82 : decode cX11_does 82 = .ok (.iload_n 1, 1) := by decide +kernel
theorem dX11_does_83 : decode cX11_does 83 = .ok (.iload_n 2, 1) := by decide +kernel
theorem dX11_does_84 : decode cX11_does 84 = .ok (.iload_n 3, 1) := by decide +kernel
theorem dX11_does_85 : decode cX11_does 85 = .ok (.invokevirtual 162, 3) := by decide +kernel
theorem dX11_does_88 : decode cX11_does 88 = .ok (.ireturn, 1) := by decide +kernel
theorem dX11_step_0 : decode cX11_step 0 = .ok (.aload_n 0, 1) := by decide +kernel
theorem dX11_step_1 : decode cX11_step 1 = .ok (.getfield 19, 3) := by decide +kernel
theorem dX11_step_4 : decode cX11_step 4 = .ok (.iload_n 1, 1) := by decide +kernel
theorem dX11_step_5 : decode cX11_step 5 = .ok (.invokevirtual 152, 3) := by decide +kernel
theorem dX11_step_8 : decode cX11_step 8 = .ok (.ifCond .eq 12, 3) := by decide +kernel
theorem dX11_step_11 : decode cX11_step 11 = .ok (.iload_n 2, 1) := by decide +kernel
theorem dX11_step_12 : decode cX11_step 12 = .ok (.iconst 0, 1) := by decide +kernel
theorem dX11_step_13 : decode cX11_step 13 = .ok (.iconst 1, 1) := by decide +kernel
theorem dX11_step_14 : decode cX11_step 14 = .ok (.invokestatic 101, 3) := by decide +kernel
theorem dX11_step_17 : decode cX11_step 17 = .ok (.ifCond .ne 5, 3) := by decide +kernel
theorem dX11_step_20 : decode cX11_step 20 = .ok (.iconst (-1), 1) := by decide +kernel
theorem dX11_step_21 : decode cX11_step 21 = .ok (.ireturn, 1) := by decide +kernel
theorem dX11_step_22 : decode cX11_step 22 = .ok (.aload_n 0, 1) := by decide +kernel
theorem dX11_step_23 : decode cX11_step 23 = .ok (.getfield 26, 3) := by decide +kernel
theorem dX11_step_26 : decode cX11_step 26 = .ok (.getfield 126, 3) := by decide +kernel
theorem dX11_step_29 : decode cX11_step 29 = .ok (.iload_n 1, 1) := by decide +kernel
theorem dX11_step_30 : decode cX11_step 30 = .ok (.iload_n 2, 1) := by decide +kernel
theorem dX11_step_31 : decode cX11_step 31 = .ok (.invokevirtual 165, 3) := by decide +kernel
theorem dX11_step_34 : decode cX11_step 34 = .ok (.ifCond .eq 16, 3) := by decide +kernel
theorem dX11_step_37 : decode cX11_step 37 = .ok (.aload_n 0, 1) := by decide +kernel
theorem dX11_step_38 : decode cX11_step 38 = .ok (.getfield 26, 3) := by decide +kernel
theorem dX11_step_41 : decode cX11_step 41 = .ok (.getfield 126, 3) := by decide +kernel
theorem dX11_step_44 : decode cX11_step 44 = .ok (.getfield 168, 3) := by decide +kernel
theorem dX11_step_47 : decode cX11_step 47 = .ok (.goto 5, 3) := by decide +kernel
theorem dX11_step_50 : decode cX11_step 50 = .ok (.bipush (-3), 2) := by decide +kernel
theorem dX11_step_52 : decode cX11_step 52 = .ok (.ireturn, 1) := by decide +kernel
theorem dX11_noRow_0 : decode cX11_noRow 0 = .ok (.aload_n 0, 1) := by decide +kernel
theorem dX11_noRow_1 : decode cX11_noRow 1 = .ok (.getfield 26, 3) := by decide +kernel
theorem dX11_noRow_4 : decode cX11_noRow 4 = .ok (.getfield 126, 3) := by decide +kernel
theorem dX11_noRow_7 : decode cX11_noRow 7 = .ok (.getfield 168, 3) := by decide +kernel
theorem dX11_noRow_10 : decode cX11_noRow 10 = .ok (.istore_n 1, 1) := by decide +kernel
theorem dX11_noRow_11 : decode cX11_noRow 11 = .ok (.aload_n 0, 1) := by decide +kernel
theorem dX11_noRow_12 : decode cX11_noRow 12 = .ok (.getfield 26, 3) := by decide +kernel
theorem dX11_noRow_15 : decode cX11_noRow 15 = .ok (.getfield 126, 3) := by decide +kernel
theorem dX11_noRow_18 : decode cX11_noRow 18 = .ok (.iconst 0, 1) := by decide +kernel
theorem dX11_noRow_19 : decode cX11_noRow 19 = .ok (.putfield 168, 3) := by decide +kernel
theorem dX11_noRow_22 : decode cX11_noRow 22 = .ok (.iload_n 1, 1) := by decide +kernel
theorem dX11_noRow_23 : decode cX11_noRow 23 = .ok (.ireturn, 1) := by decide +kernel
theorem dX11_left_0 : decode cX11_left 0 = .ok (.iload_n 1, 1) := by decide +kernel
theorem dX11_left_1 : decode cX11_left 1 = .ok (.iconst (-1), 1) := by decide +kernel
theorem dX11_left_2 : decode cX11_left 2 = .ok (.if_icmp .eq 16, 3) := by decide +kernel
theorem dX11_left_5 : decode cX11_left 5 = .ok (.aload_n 0, 1) := by decide +kernel
theorem dX11_left_6 : decode cX11_left 6 = .ok (.getfield 19, 3) := by decide +kernel
theorem dX11_left_9 : decode cX11_left 9 = .ok (.iload_n 1, 1) := by decide +kernel
theorem dX11_left_10 : decode cX11_left 10 = .ok (.invokevirtual 148, 3) := by decide +kernel
theorem dX11_left_13 : decode cX11_left 13 = .ok (.ifCond .ne 5, 3) := by decide +kernel
theorem dX11_left_16 : decode cX11_left 16 = .ok (.iconst (-1), 1) := by decide +kernel
theorem dX11_left_17 : decode cX11_left 17 = .ok (.ireturn, 1) := by decide +kernel
theorem dX11_left_18 : decode cX11_left 18 = .ok (.aload_n 0, 1) := by decide +kernel
theorem dX11_left_19 : decode cX11_left 19 = .ok (.getfield 60, 3) := by decide +kernel
theorem dX11_left_22 : decode cX11_left 22 = .ok (.aload_n 0, 1) := by decide +kernel
theorem dX11_left_23 : decode cX11_left 23 = .ok (.getfield 26, 3) := by decide +kernel
theorem dX11_left_26 : decode cX11_left 26 = .ok (.getfield 126, 3) := by decide +kernel
theorem dX11_left_29 : decode cX11_left 29 = .ok (.invokevirtual 169, 3) := by decide +kernel
theorem dX11_left_32 : decode cX11_left 32 = .ok (.iload_n 1, 1) := by decide +kernel
theorem dX11_left_33 : decode cX11_left 33 = .ok (.iconst (-1), 1) := by decide +kernel
theorem dX11_left_34 : decode cX11_left 34 = .ok (.if_icmp .ne 13, 3) := by decide +kernel
theorem dX11_left_37 : decode cX11_left 37 = .ok (.aload_n 0, 1) := by decide +kernel
theorem dX11_left_38 : decode cX11_left 38 = .ok (.getfield 60, 3) := by decide +kernel
theorem dX11_left_41 : decode cX11_left 41 = .ok (.invokevirtual 172, 3) := by decide +kernel
theorem dX11_left_44 : decode cX11_left 44 = .ok (.goto 11, 3) := by decide +kernel
theorem dX11_left_47 : decode cX11_left 47 = .ok (.aload_n 0, 1) := by decide +kernel
theorem dX11_left_48 : decode cX11_left 48 = .ok (.getfield 60, 3) := by decide +kernel
theorem dX11_left_51 : decode cX11_left 51 = .ok (.iload_n 1, 1) := by decide +kernel
theorem dX11_left_52 : decode cX11_left 52 = .ok (.invokevirtual 176, 3) := by decide +kernel
theorem dX11_left_55 : decode cX11_left 55 = .ok (.l2i, 1) := by decide +kernel
theorem dX11_left_56 : decode cX11_left 56 = .ok (.ireturn, 1) := by decide +kernel
theorem dX11_share_0 : decode cX11_share 0 = .ok (.aload_n 0, 1) := by decide +kernel
theorem dX11_share_1 : decode cX11_share 1 = .ok (.getfield 19, 3) := by decide +kernel
theorem dX11_share_4 : decode cX11_share 4 = .ok (.iload_n 1, 1) := by decide +kernel
theorem dX11_share_5 : decode cX11_share 5 = .ok (.invokevirtual 148, 3) := by decide +kernel
theorem dX11_share_8 : decode cX11_share 8 = .ok (.ifCond .ne 5, 3) := by decide +kernel
theorem dX11_share_11 : decode cX11_share 11 = .ok (.iconst (-1), 1) := by decide +kernel
theorem dX11_share_12 : decode cX11_share 12 = .ok (.ireturn, 1) := by decide +kernel
theorem dX11_share_13 : decode cX11_share 13 = .ok (.aload_n 0, 1) := by decide +kernel
theorem dX11_share_14 : decode cX11_share 14 = .ok (.getfield 60, 3) := by decide +kernel
theorem dX11_share_17 : decode cX11_share 17 = .ok (.aload_n 0, 1) := by decide +kernel
theorem dX11_share_18 : decode cX11_share 18 = .ok (.getfield 26, 3) := by decide +kernel
theorem dX11_share_21 : decode cX11_share 21 = .ok (.getfield 126, 3) := by decide +kernel
theorem dX11_share_24 : decode cX11_share 24 = .ok (.invokevirtual 169, 3) := by decide +kernel
theorem dX11_share_27 : decode cX11_share 27 = .ok (.aload_n 0, 1) := by decide +kernel
theorem dX11_share_28 : decode cX11_share 28 = .ok (.getfield 60, 3) := by decide +kernel
theorem dX11_share_31 : decode cX11_share 31 = .ok (.invokevirtual 172, 3) := by decide +kernel
theorem dX11_share_34 : decode cX11_share 34 = .ok (.lstore_n 2, 1) := by decide +kernel
theorem dX11_share_35 : decode cX11_share 35 = .ok (.lload_n 2, 1) := by decide +kernel
theorem dX11_share_36 : decode cX11_share 36 = .ok (.lconst 0, 1) := by decide +kernel
theorem dX11_share_37 : decode cX11_share 37 = .ok (.lcmp, 1) := by decide +kernel
theorem dX11_share_38 : decode cX11_share 38 = .ok (.ifCond .ne 8, 3) := by decide +kernel
theorem dX11_share_41 : decode cX11_share 41 = .ok (.bipush (-4), 2) := by decide +kernel
theorem dX11_share_43 : decode cX11_share 43 = .ok (.goto 18, 3) := by decide +kernel
theorem dX11_share_46 : decode cX11_share 46 = .ok (.ldc2_w 180, 3) := by decide +kernel
theorem dX11_share_49 : decode cX11_share 49 = .ok (.aload_n 0, 1) := by decide +kernel
theorem dX11_share_50 : decode cX11_share 50 = .ok (.getfield 60, 3) := by decide +kernel
theorem dX11_share_53 : decode cX11_share 53 = .ok (.iload_n 1, 1) := by decide +kernel
theorem dX11_share_54 : decode cX11_share 54 = .ok (.invokevirtual 176, 3) := by decide +kernel
theorem dX11_share_57 : decode cX11_share 57 = .ok (.lmul, 1) := by decide +kernel
theorem dX11_share_58 : decode cX11_share 58 = .ok (.lload_n 2, 1) := by decide +kernel
theorem dX11_share_59 : decode cX11_share 59 = .ok (.ldiv, 1) := by decide +kernel
theorem dX11_share_60 : decode cX11_share 60 = .ok (.l2i, 1) := by decide +kernel
theorem dX11_share_61 : decode cX11_share 61 = .ok (.ireturn, 1) := by decide +kernel
theorem dX11_bent_0 : decode cX11_bent 0 = .ok (.iload_n 1, 1) := by decide +kernel
theorem dX11_bent_1 : decode cX11_bent 1 = .ok (.iconst 0, 1) := by decide +kernel
theorem dX11_bent_2 : decode cX11_bent 2 = .ok (.iconst 1, 1) := by decide +kernel
theorem dX11_bent_3 : decode cX11_bent 3 = .ok (.invokestatic 101, 3) := by decide +kernel
theorem dX11_bent_6 : decode cX11_bent 6 = .ok (.ifCond .ne 5, 3) := by decide +kernel
theorem dX11_bent_9 : decode cX11_bent 9 = .ok (.iconst (-1), 1) := by decide +kernel
theorem dX11_bent_10 : decode cX11_bent 10 = .ok (.ireturn, 1) := by decide +kernel
theorem dX11_bent_11 : decode cX11_bent 11 = .ok (.iload_n 1, 1) := by decide +kernel
theorem dX11_bent_12 : decode cX11_bent 12 = .ok (.ifCond .ne 11, 3) := by decide +kernel
theorem dX11_bent_15 : decode cX11_bent 15 = .ok (.aload_n 0, 1) := by decide +kernel
theorem dX11_bent_16 : decode cX11_bent 16 = .ok (.getfield 19, 3) := by decide +kernel
theorem dX11_bent_19 : decode cX11_bent 19 = .ok (.invokevirtual 182, 3) := by decide +kernel
theorem dX11_bent_22 : decode cX11_bent 22 = .ok (.ireturn, 1) := by decide +kernel
theorem dX11_bent_23 : decode cX11_bent 23 = .ok (.aload_n 0, 1) := by decide +kernel
theorem dX11_bent_24 : decode cX11_bent 24 = .ok (.getfield 60, 3) := by decide +kernel
theorem dX11_bent_27 : decode cX11_bent 27 = .ok (.aload_n 0, 1) := by decide +kernel
theorem dX11_bent_28 : decode cX11_bent 28 = .ok (.getfield 26, 3) := by decide +kernel
theorem dX11_bent_31 : decode cX11_bent 31 = .ok (.getfield 126, 3) := by decide +kernel
theorem dX11_bent_34 : decode cX11_bent 34 = .ok (.invokevirtual 169, 3) := by decide +kernel
theorem dX11_bent_37 : decode cX11_bent 37 = .ok (.aload_n 0, 1) := by decide +kernel
theorem dX11_bent_38 : decode cX11_bent 38 = .ok (.getfield 60, 3) := by decide +kernel
theorem dX11_bent_41 : decode cX11_bent 41 = .ok (.invokevirtual 186, 3) := by decide +kernel
theorem dX11_bent_44 : decode cX11_bent 44 = .ok (.ireturn, 1) := by decide +kernel
theorem dX11_odds_0 : decode cX11_odds 0 = .ok (.iload_n 1, 1) := by decide +kernel
theorem dX11_odds_1 : decode cX11_odds 1 = .ok (.iconst 0, 1) := by decide +kernel
theorem dX11_odds_2 : decode cX11_odds 2 = .ok (.bipush 12, 2) := by decide +kernel
theorem dX11_odds_4 : decode cX11_odds 4 = .ok (.invokestatic 101, 3) := by decide +kernel
theorem dX11_odds_7 : decode cX11_odds 7 = .ok (.ifCond .ne 5, 3) := by decide +kernel
theorem dX11_odds_10 : decode cX11_odds 10 = .ok (.iconst (-1), 1) := by decide +kernel
theorem dX11_odds_11 : decode cX11_odds 11 = .ok (.ireturn, 1) := by decide +kernel
theorem dX11_odds_12 : decode cX11_odds 12 = .ok (.aload_n 0, 1) := by decide +kernel
theorem dX11_odds_13 : decode cX11_odds 13 = .ok (.getfield 60, 3) := by decide +kernel
theorem dX11_odds_16 : decode cX11_odds 16 = .ok (.aload_n 0, 1) := by decide +kernel
theorem dX11_odds_17 : decode cX11_odds 17 = .ok (.getfield 26, 3) := by decide +kernel
theorem dX11_odds_20 : decode cX11_odds 20 = .ok (.getfield 126, 3) := by decide +kernel
theorem dX11_odds_23 : decode cX11_odds 23 = .ok (.invokevirtual 169, 3) := by decide +kernel
theorem dX11_odds_26 : decode cX11_odds 26 = .ok (.aload_n 0, 1) := by decide +kernel
theorem dX11_odds_27 : decode cX11_odds 27 = .ok (.getfield 60, 3) := by decide +kernel
theorem dX11_odds_30 : decode cX11_odds 30 = .ok (.iload_n 1, 1) := by decide +kernel
theorem dX11_odds_31 : decode cX11_odds 31 = .ok (.invokevirtual 187, 3) := by decide +kernel
theorem dX11_odds_34 : decode cX11_odds 34 = .ok (.ireturn, 1) := by decide +kernel
theorem dX11_best_0 : decode cX11_best 0 = .ok (.iload_n 1, 1) := by decide +kernel
theorem dX11_best_1 : decode cX11_best 1 = .ok (.iconst 1, 1) := by decide +kernel
theorem dX11_best_2 : decode cX11_best 2 = .ok (.iconst 3, 1) := by decide +kernel
theorem dX11_best_3 : decode cX11_best 3 = .ok (.invokestatic 101, 3) := by decide +kernel
theorem dX11_best_6 : decode cX11_best 6 = .ok (.ifCond .eq 35, 3) := by decide +kernel
theorem dX11_best_9 : decode cX11_best 9 = .ok (.iload_n 2, 1) := by decide +kernel
theorem dX11_best_10 : decode cX11_best 10 = .ok (.iconst 0, 1) := by decide +kernel
theorem dX11_best_11 : decode cX11_best 11 = .ok (.bipush 90, 2) := by decide +kernel
theorem dX11_best_13 : decode cX11_best 13 = .ok (.invokestatic 101, 3) := by decide +kernel
theorem dX11_best_16 : decode cX11_best 16 = .ok (.ifCond .eq 25, 3) := by decide +kernel
theorem dX11_best_19 : decode cX11_best 19 = .ok (.iload_n 3, 1) := by decide +kernel
theorem dX11_best_20 : decode cX11_best 20 = .ok (.iconst 0, 1) := by decide +kernel
theorem dX11_best_21 : decode cX11_best 21 = .ok (.bipush 12, 2) := by decide +kernel
theorem dX11_best_23 : decode cX11_best 23 = .ok (.invokestatic 101, 3) := by decide +kernel
theorem dX11_best_26 : decode cX11_best 26 = .ok (.ifCond .eq 15, 3) := by decide +kernel
theorem dX11_best_29 : decode cX11_best 29 = .ok (.iload 4, 2) := by decide +kernel
theorem dX11_best_31 : decode cX11_best 31 = .ok (.iconst (-1), 1) := by decide +kernel
theorem dX11_best_32 : decode cX11_best 32 = .ok (.iload_n 1, 1) := by decide +kernel
theorem dX11_best_33 : decode cX11_best 33 = .ok (.iconst 1, 1) := by decide +kernel
theorem dX11_best_34 : decode cX11_best 34 = .ok (.isub, 1) := by decide +kernel
theorem dX11_best_35 : decode cX11_best 35 = .ok (.invokestatic 101, 3) := by decide +kernel
theorem dX11_best_38 : decode cX11_best 38 = .ok (.ifCond .ne 5, 3) := by decide +kernel
theorem dX11_best_41 : decode cX11_best 41 = .ok (.iconst (-1), 1) := by decide +kernel
theorem dX11_best_42 : decode cX11_best 42 = .ok (.ireturn, 1) := by decide +kernel
theorem dX11_best_43 : decode cX11_best 43 = .ok (.aload_n 0, 1) := by decide +kernel
theorem dX11_best_44 : decode cX11_best 44 = .ok (.getfield 67, 3) := by decide +kernel
theorem dX11_best_47 : decode cX11_best 47 = .ok (.iload_n 1, 1) := by decide +kernel
theorem dX11_best_48 : decode cX11_best 48 = .ok (.iload_n 2, 1) := by decide +kernel
theorem dX11_best_49 : decode cX11_best 49 = .ok (.iload_n 3, 1) := by decide +kernel
theorem dX11_best_50 : decode cX11_best 50 = .ok (.invokevirtual 191, 3) := by decide +kernel
theorem dX11_best_53 : decode cX11_best 53 = .ok (.aload_n 0, 1) := by decide +kernel
theorem dX11_best_54 : decode cX11_best 54 = .ok (.getfield 67, 3) := by decide +kernel
theorem dX11_best_57 : decode cX11_best 57 = .ok (.getfield 195, 3) := by decide +kernel
theorem dX11_best_60 : decode cX11_best 60 = .ok (.bipush (-4), 2) := by decide +kernel
theorem dX11_best_62 : decode cX11_best 62 = .ok (.if_icmp .eq 9, 3) := by decide +kernel
theorem dX11_best_65 : decode cX11_best 65 = .ok (.iload 4, 2) := by decide +kernel
theorem dX11_best_67 : decode cX11_best 67 = .ok (.iconst (-1), 1) := by decide +kernel
theorem dX11_best_68 : decode cX11_best 68 = .ok (.if_icmp .ne 11, 3) := by decide +kernel
theorem dX11_best_71 : decode cX11_best 71 = .ok (.aload_n 0, 1) := by decide +kernel
theorem dX11_best_72 : decode cX11_best 72 = .ok (.getfield 67, 3) := by decide +kernel
theorem dX11_best_75 : decode cX11_best 75 = .ok (.getfield 195, 3) := by decide +kernel
theorem dX11_best_78 : decode cX11_best 78 = .ok (.ireturn, 1) := by decide +kernel
theorem dX11_best_79 : decode cX11_best 79 = .ok (.aload_n 0, 1) := by decide +kernel
theorem dX11_best_80 : decode cX11_best 80 = .ok (.getfield 67, 3) := by decide +kernel
theorem dX11_best_83 : decode cX11_best 83 = .ok (.iload 4, 2) := by decide +kernel
theorem dX11_best_85 : decode cX11_best 85 = .ok (.invokevirtual 197, 3) := by decide +kernel
theorem dX11_best_88 : decode cX11_best 88 = .ok (.ireturn, 1) := by decide +kernel
theorem dX11_words_0 : decode cX11_words 0 = .ok (.aload_n 0, 1) := by decide +kernel
theorem dX11_words_1 : decode cX11_words 1 = .ok (.getfield 19, 3) := by decide +kernel
theorem dX11_words_4 : decode cX11_words 4 = .ok (.iload_n 1, 1) := by decide +kernel
theorem dX11_words_5 : decode cX11_words 5 = .ok (.invokevirtual 152, 3) := by decide +kernel
theorem dX11_words_8 : decode cX11_words 8 = .ok (.ifCond .eq 18, 3) := by decide +kernel
theorem dX11_words_11 : decode cX11_words 11 = .ok (.aload_n 0, 1) := by decide +kernel
theorem dX11_words_12 : decode cX11_words 12 = .ok (.getfield 83, 3) := by decide +kernel
theorem dX11_words_15 : decode cX11_words 15 = .ok (.iload_n 1, 1) := by decide +kernel
theorem dX11_words_16 : decode cX11_words 16 = .ok (.invokevirtual 207, 3) := by decide +kernel
theorem dX11_words_19 : decode cX11_words 19 = .ok (.sipush 1000, 3) := by decide +kernel
theorem dX11_words_22 : decode cX11_words 22 = .ok (.iadd, 1) := by decide +kernel
theorem dX11_words_23 : decode cX11_words 23 = .ok (.goto 4, 3) := by decide +kernel
theorem dX11_words_26 : decode cX11_words 26 = .ok (.iconst (-1), 1) := by decide +kernel
theorem dX11_words_27 : decode cX11_words 27 = .ok (.ireturn, 1) := by decide +kernel
theorem dX11_harm_0 : decode cX11_harm 0 = .ok (.aload_n 0, 1) := by decide +kernel
theorem dX11_harm_1 : decode cX11_harm 1 = .ok (.getfield 19, 3) := by decide +kernel
theorem dX11_harm_4 : decode cX11_harm 4 = .ok (.iload_n 1, 1) := by decide +kernel
theorem dX11_harm_5 : decode cX11_harm 5 = .ok (.invokevirtual 152, 3) := by decide +kernel
theorem dX11_harm_8 : decode cX11_harm 8 = .ok (.ifCond .eq 12, 3) := by decide +kernel
theorem dX11_harm_11 : decode cX11_harm 11 = .ok (.iload_n 2, 1) := by decide +kernel
theorem dX11_harm_12 : decode cX11_harm 12 = .ok (.iconst 0, 1) := by decide +kernel
theorem dX11_harm_13 : decode cX11_harm 13 = .ok (.iconst 1, 1) := by decide +kernel
theorem dX11_harm_14 : decode cX11_harm 14 = .ok (.invokestatic 101, 3) := by decide +kernel
theorem dX11_harm_17 : decode cX11_harm 17 = .ok (.ifCond .ne 5, 3) := by decide +kernel
theorem dX11_harm_20 : decode cX11_harm 20 = .ok (.iconst (-1), 1) := by decide +kernel
theorem dX11_harm_21 : decode cX11_harm 21 = .ok (.ireturn, 1) := by decide +kernel
theorem dX11_harm_22 : decode cX11_harm 22 = .ok (.aload_n 0, 1) := by decide +kernel
theorem dX11_harm_23 : decode cX11_harm 23 = .ok (.getfield 83, 3) := by decide +kernel
theorem dX11_harm_26 : decode cX11_harm 26 = .ok (.iload_n 1, 1) := by decide +kernel
theorem dX11_harm_27 : decode cX11_harm 27 = .ok (.invokevirtual 210, 3) := by decide +kernel
theorem dX11_harm_30 : decode cX11_harm 30 = .ok (.istore_n 3, 1) := by decide +kernel
theorem dX11_harm_31 : decode cX11_harm 31 = .ok (.iload_n 2, 1) := by decide +kernel
theorem dX11_harm_32 : decode cX11_harm 32 = .ok (.ifCond .ne 18, 3) := by decide +kernel
theorem dX11_harm_35 : decode cX11_harm 35 = .ok (.aload_n 0, 1) := by decide +kernel
theorem dX11_harm_36 : decode cX11_harm 36 = .ok (.getfield 83, 3) := by decide +kernel
theorem dX11_harm_39 : decode cX11_harm 39 = .ok (.iload_n 3, 1) := by decide +kernel
theorem dX11_harm_40 : decode cX11_harm 40 = .ok (.iload_n 1, 1) := by decide +kernel
theorem dX11_harm_41 : decode cX11_harm 41 = .ok (.invokevirtual 213, 3) := by decide +kernel
theorem dX11_harm_44 : decode cX11_harm 44 = .ok (.bipush 100, 2) := by decide +kernel
theorem dX11_harm_46 : decode cX11_harm 46 = .ok (.iadd, 1) := by decide +kernel
theorem dX11_harm_47 : decode cX11_harm 47 = .ok (.goto 4, 3) := by decide +kernel
theorem dX11_harm_50 : decode cX11_harm 50 = .ok (.iload_n 3, 1) := by decide +kernel
theorem dX11_harm_51 : decode cX11_harm 51 = .ok (.ireturn, 1) := by decide +kernel
theorem dX11_people_0 : decode cX11_people 0 = .ok (.iload_n 1, 1) := by decide +kernel
theorem dX11_people_1 : decode cX11_people 1 = .ok (.iconst 0, 1) := by decide +kernel
theorem dX11_people_2 : decode cX11_people 2 = .ok (.iconst 1, 1) := by decide +kernel
theorem dX11_people_3 : decode cX11_people 3 = .ok (.invokestatic 101, 3) := by decide +kernel
theorem dX11_people_6 : decode cX11_people 6 = .ok (.ifCond .ne 7, 3) := by decide +kernel
theorem dX11_people_9 : decode cX11_people 9 = .ok (.ldc2_w 217, 3) := by decide +kernel
theorem dX11_people_12 : decode cX11_people 12 = .ok (.lreturn, 1) := by decide +kernel
theorem dX11_people_13 : decode cX11_people 13 = .ok (.aload_n 0, 1) := by decide +kernel
theorem dX11_people_14 : decode cX11_people 14 = .ok (.getfield 83, 3) := by decide +kernel
theorem dX11_people_17 : decode cX11_people 17 = .ok (.bipush (-4), 2) := by decide +kernel
theorem dX11_people_19 : decode cX11_people 19 = .ok (.invokevirtual 219, 3) := by decide +kernel
theorem dX11_people_22 : decode cX11_people 22 = .ok (.aload_n 0, 1) := by decide +kernel
theorem dX11_people_23 : decode cX11_people 23 = .ok (.getfield 74, 3) := by decide +kernel
theorem dX11_people_26 : decode cX11_people 26 = .ok (.iload_n 1, 1) := by decide +kernel
theorem dX11_people_27 : decode cX11_people 27 = .ok (.invokevirtual 204, 3) := by decide +kernel
theorem dX11_people_30 : decode cX11_people 30 = .ok (.lreturn, 1) := by decide +kernel
theorem dX11_tells_0 : decode cX11_tells 0 = .ok (.aload_n 0, 1) := by decide +kernel
theorem dX11_tells_1 : decode cX11_tells 1 = .ok (.getfield 19, 3) := by decide +kernel
theorem dX11_tells_4 : decode cX11_tells 4 = .ok (.getfield 120, 3) := by decide +kernel
theorem dX11_tells_7 : decode cX11_tells 7 = .ok (.iconst 2, 1) := by decide +kernel
theorem dX11_tells_8 : decode cX11_tells 8 = .ok (.if_icmp .ge 8, 3) := by decide +kernel
theorem dX11_tells_11 : decode cX11_tells 11 = .ok (.bipush (-4), 2) := by decide +kernel
theorem dX11_tells_13 : decode cX11_tells 13 = .ok (.goto 10, 3) := by decide +kernel
theorem dX11_tells_16 : decode cX11_tells 16 = .ok (.aload_n 0, 1) := by decide +kernel
theorem dX11_tells_17 : decode cX11_tells 17 = .ok (.getfield 83, 3) := by decide +kernel
theorem dX11_tells_20 : decode cX11_tells 20 = .ok (.invokevirtual 223, 3) := by decide +kernel
theorem dX11_tells_23 : decode cX11_tells 23 = .ok (.ireturn, 1) := by decide +kernel
theorem dX11_relief_0 : decode cX11_relief 0 = .ok (.aload_n 0, 1) := by decide +kernel
theorem dX11_relief_1 : decode cX11_relief 1 = .ok (.getfield 19, 3) := by decide +kernel
theorem dX11_relief_4 : decode cX11_relief 4 = .ok (.iload_n 1, 1) := by decide +kernel
theorem dX11_relief_5 : decode cX11_relief 5 = .ok (.invokevirtual 148, 3) := by decide +kernel
theorem dX11_relief_8 : decode cX11_relief 8 = .ok (.ifCond .eq 23, 3) := by decide +kernel
theorem dX11_relief_11 : decode cX11_relief 11 = .ok (.aload_n 0, 1) := by decide +kernel
theorem dX11_relief_12 : decode cX11_relief 12 = .ok (.getfield 19, 3) := by decide +kernel
theorem dX11_relief_15 : decode cX11_relief 15 = .ok (.iload_n 2, 1) := by decide +kernel
theorem dX11_relief_16 : decode cX11_relief 16 = .ok (.invokevirtual 152, 3) := by decide +kernel
theorem dX11_relief_19 : decode cX11_relief 19 = .ok (.ifCond .eq 12, 3) := by decide +kernel
theorem dX11_relief_22 : decode cX11_relief 22 = .ok (.iload_n 3, 1) := by decide +kernel
theorem dX11_relief_23 : decode cX11_relief 23 = .ok (.iconst 0, 1) := by decide +kernel
theorem dX11_relief_24 : decode cX11_relief 24 = .ok (.iconst 1, 1) := by decide +kernel
theorem dX11_relief_25 : decode cX11_relief 25 = .ok (.invokestatic 101, 3) := by decide +kernel
theorem dX11_relief_28 : decode cX11_relief 28 = .ok (.ifCond .ne 5, 3) := by decide +kernel
theorem dX11_relief_31 : decode cX11_relief 31 = .ok (.iconst (-1), 1) := by decide +kernel
theorem dX11_relief_32 : decode cX11_relief 32 = .ok (.ireturn, 1) := by decide +kernel
theorem dX11_relief_33 : decode cX11_relief 33 = .ok (.iload_n 3, 1) := by decide +kernel
theorem dX11_relief_34 : decode cX11_relief 34 = .ok (.ifCond .ne 15, 3) := by decide +kernel
theorem dX11_relief_37 : decode cX11_relief 37 = .ok (.aload_n 0, 1) := by decide +kernel
theorem dX11_relief_38 : decode cX11_relief 38 = .ok (.getfield 83, 3) := by decide +kernel
theorem dX11_relief_41 : decode cX11_relief 41 = .ok (.iload_n 1, 1) := by decide +kernel
theorem dX11_relief_42 : decode cX11_relief 42 = .ok (.iload_n 2, 1) := by decide +kernel
theorem dX11_relief_43 : decode cX11_relief 43 = .ok (.invokevirtual 226, 3) := by decide +kernel
theorem dX11_relief_46 : decode cX11_relief 46 = .ok (.goto 10, 3) := by decide +kernel
theorem dX11_relief_49 : decode cX11_relief 49 = .ok (.aload_n 0, 1) := by decide +kernel
theorem dX11_relief_50 : decode cX11_relief 50 = .ok (.getfield 19, 3) := by decide +kernel
theorem dX11_relief_53 : decode cX11_relief 53 = .ok (.invokevirtual 229, 3) := by decide +kernel
theorem dX11_relief_56 : decode cX11_relief 56 = .ok (.ireturn, 1) := by decide +kernel
theorem dX11_tell_0 : decode cX11_tell 0 = .ok (.aload_n 0, 1) := by decide +kernel
theorem dX11_tell_1 : decode cX11_tell 1 = .ok (.getfield 19, 3) := by decide +kernel
theorem dX11_tell_4 : decode cX11_tell 4 = .ok (.iload_n 1, 1) := by decide +kernel
theorem dX11_tell_5 : decode cX11_tell 5 = .ok (.invokevirtual 148, 3) := by decide +kernel
theorem dX11_tell_8 : decode cX11_tell 8 = .ok (.ifCond .eq 33, 3) := by decide +kernel
theorem dX11_tell_11 : decode cX11_tell 11 = .ok (.aload_n 0, 1) := by decide +kernel
theorem dX11_tell_12 : decode cX11_tell 12 = .ok (.getfield 19, 3) := by decide +kernel
theorem dX11_tell_15 : decode cX11_tell 15 = .ok (.iload_n 2, 1) := by decide +kernel
theorem dX11_tell_16 : decode cX11_tell 16 = .ok (.invokevirtual 152, 3) := by decide +kernel
theorem dX11_tell_19 : decode cX11_tell 19 = .ok (.ifCond .eq 22, 3) := by decide +kernel
theorem dX11_tell_22 : decode cX11_tell 22 = .ok (.iload_n 3, 1) := by decide +kernel
theorem dX11_tell_23 : decode cX11_tell 23 = .ok (.iconst 1, 1) := by decide +kernel
theorem dX11_tell_24 : decode cX11_tell 24 = .ok (.iconst 4, 1) := by decide +kernel
theorem dX11_tell_25 : decode cX11_tell 25 = .ok (.invokestatic 101, 3) := by decide +kernel
theorem dX11_tell_28 : decode cX11_tell 28 = .ok (.ifCond .eq 13, 3) := by decide +kernel
theorem dX11_tell_31 : decode cX11_tell 31 = .ok (.iload 4, 2) := by decide +kernel
theorem dX11_tell_33 : decode cX11_tell 33 = .ok (.iconst 0, 1) := by decide +kernel
theorem dX11_tell_34 : decode cX11_tell 34 = .ok (.iload_n 3, 1) := by decide +kernel
theorem dX11_tell_35 : decode cX11_tell 35 = .ok (.invokestatic 101, 3) := by decide +kernel
theorem dX11_tell_38 : decode cX11_tell 38 = .ok (.ifCond .ne 5, 3) := by decide +kernel
theorem dX11_tell_41 : decode cX11_tell 41 = .ok (.iconst (-1), 1) := by decide +kernel
theorem dX11_tell_42 : decode cX11_tell 42 = .ok (.ireturn, 1) := by decide +kernel
theorem dX11_tell_43 : decode cX11_tell 43 = .ok (.aload_n 0, 1) := by decide +kernel
theorem dX11_tell_44 : decode cX11_tell 44 = .ok (.getfield 26, 3) := by decide +kernel
theorem dX11_tell_47 : decode cX11_tell 47 = .ok (.getfield 132, 3) := by decide +kernel
theorem dX11_tell_50 : decode cX11_tell 50 = .ok (.iload_n 1, 1) := by decide +kernel
theorem dX11_tell_51 : decode cX11_tell 51 = .ok (.iload_n 2, 1) := by decide +kernel
theorem dX11_tell_52 : decode cX11_tell 52 = .ok (.iload_n 3, 1) := by decide +kernel
theorem dX11_tell_53 : decode cX11_tell 53 = .ok (.iload 4, 2) := by decide +kernel
theorem dX11_tell_55 : decode cX11_tell 55 = .ok (.invokevirtual 232, 3) := by decide +kernel
theorem dX11_tell_58 : decode cX11_tell 58 = .ok (.ifCond .eq 16, 3) := by decide +kernel
theorem dX11_tell_61 : decode cX11_tell 61 = .ok (.aload_n 0, 1) := by decide +kernel
theorem dX11_tell_62 : decode cX11_tell 62 = .ok (.getfield 26, 3) := by decide +kernel
theorem dX11_tell_65 : decode cX11_tell 65 = .ok (.getfield 132, 3) := by decide +kernel
theorem dX11_tell_68 : decode cX11_tell 68 = .ok (.getfield 136, 3) := by decide +kernel
theorem dX11_tell_71 : decode cX11_tell 71 = .ok (.goto 5, 3) := by decide +kernel
theorem dX11_tell_74 : decode cX11_tell 74 = .ok (.bipush (-3), 2) := by decide +kernel
theorem dX11_tell_76 : decode cX11_tell 76 = .ok (.ireturn, 1) := by decide +kernel
theorem dX11_forget_0 : decode cX11_forget 0 = .ok (.aload_n 0, 1) := by decide +kernel
theorem dX11_forget_1 : decode cX11_forget 1 = .ok (.getfield 26, 3) := by decide +kernel
theorem dX11_forget_4 : decode cX11_forget 4 = .ok (.getfield 132, 3) := by decide +kernel
theorem dX11_forget_7 : decode cX11_forget 7 = .ok (.getfield 136, 3) := by decide +kernel
theorem dX11_forget_10 : decode cX11_forget 10 = .ok (.istore_n 1, 1) := by decide +kernel
theorem dX11_forget_11 : decode cX11_forget 11 = .ok (.aload_n 0, 1) := by decide +kernel
theorem dX11_forget_12 : decode cX11_forget 12 = .ok (.getfield 26, 3) := by decide +kernel
theorem dX11_forget_15 : decode cX11_forget 15 = .ok (.getfield 132, 3) := by decide +kernel
theorem dX11_forget_18 : decode cX11_forget 18 = .ok (.iconst 0, 1) := by decide +kernel
theorem dX11_forget_19 : decode cX11_forget 19 = .ok (.putfield 136, 3) := by decide +kernel
theorem dX11_forget_22 : decode cX11_forget 22 = .ok (.iload_n 1, 1) := by decide +kernel
theorem dX11_forget_23 : decode cX11_forget 23 = .ok (.ireturn, 1) := by decide +kernel
theorem dX11_man_0 : decode cX11_man 0 = .ok (.iload_n 1, 1) := by decide +kernel
theorem dX11_man_1 : decode cX11_man 1 = .ok (.iconst 0, 1) := by decide +kernel
theorem dX11_man_2 : decode cX11_man 2 = .ok (.iconst 1, 1) := by decide +kernel
theorem dX11_man_3 : decode cX11_man 3 = .ok (.invokestatic 101, 3) := by decide +kernel
theorem dX11_man_6 : decode cX11_man 6 = .ok (.ifCond .ne 7, 3) := by decide +kernel
theorem dX11_man_9 : decode cX11_man 9 = .ok (.ldc2_w 217, 3) := by decide +kernel
theorem dX11_man_12 : decode cX11_man 12 = .ok (.lreturn, 1) := by decide +kernel
theorem dX11_man_13 : decode cX11_man 13 = .ok (.aload_n 0, 1) := by decide +kernel
theorem dX11_man_14 : decode cX11_man 14 = .ok (.getfield 19, 3) := by decide +kernel
theorem dX11_man_17 : decode cX11_man 17 = .ok (.getfield 234, 3) := by decide +kernel
theorem dX11_man_20 : decode cX11_man 20 = .ok (.i2l, 1) := by decide +kernel
theorem dX11_man_21 : decode cX11_man 21 = .ok (.aload_n 0, 1) := by decide +kernel
theorem dX11_man_22 : decode cX11_man 22 = .ok (.getfield 26, 3) := by decide +kernel
theorem dX11_man_25 : decode cX11_man 25 = .ok (.getfield 132, 3) := by decide +kernel
theorem dX11_man_28 : decode cX11_man 28 = .ok (.aload_n 0, 1) := by decide +kernel
theorem dX11_man_29 : decode cX11_man 29 = .ok (.getfield 19, 3) := by decide +kernel
theorem dX11_man_32 : decode cX11_man 32 = .ok (.invokevirtual 237, 3) := by decide +kernel
theorem dX11_man_35 : decode cX11_man 35 = .ok (.lmul, 1) := by decide +kernel
theorem dX11_man_36 : decode cX11_man 36 = .ok (.lstore_n 2, 1) := by decide +kernel
theorem dX11_man_37 : decode cX11_man 37 = .ok (.bipush 10, 2) := by decide +kernel
theorem dX11_man_39 : decode cX11_man 39 = .ok (.aload_n 0, 1) := by decide +kernel
theorem dX11_man_40 : decode cX11_man 40 = .ok (.getfield 19, 3) := by decide +kernel
theorem dX11_man_43 : decode cX11_man 43 = .ok (.getfield 234, 3) := by decide +kernel
theorem dX11_man_46 : decode cX11_man 46 = .ok (.isub, 1) := by decide +kernel
theorem dX11_man_47 : decode cX11_man 47 = .ok (.i2l, 1) := by decide +kernel
theorem dX11_man_48 : decode cX11_man 48 = .ok (.aload_n 0, 1) := by decide +kernel
theorem dX11_man_49 : decode cX11_man 49 = .ok (.getfield 26, 3) := by decide +kernel
theorem dX11_man_52 : decode cX11_man 52 = .ok (.getfield 132, 3) := by decide +kernel
theorem dX11_man_55 : decode cX11_man 55 = .ok (.aload_n 0, 1) := by decide +kernel
theorem dX11_man_56 : decode cX11_man 56 = .ok (.getfield 19, 3) := by decide +kernel
theorem dX11_man_59 : decode cX11_man 59 = .ok (.invokevirtual 241, 3) := by decide +kernel
theorem dX11_man_62 : decode cX11_man 62 = .ok (.lmul, 1) := by decide +kernel
theorem dX11_man_63 : decode cX11_man 63 = .ok (.lstore 4, 2) := by decide +kernel
theorem dX11_man_65 : decode cX11_man 65 = .ok (.aload_n 0, 1) := by decide +kernel
theorem dX11_man_66 : decode cX11_man 66 = .ok (.getfield 74, 3) := by decide +kernel
theorem dX11_man_69 : decode cX11_man 69 = .ok (.lload_n 2, 1) := by decide +kernel
theorem dX11_man_70 : decode cX11_man 70 = .ok (.lload_n 2, 1) := by decide +kernel
theorem dX11_man_71 : decode cX11_man 71 = .ok (.lload 4, 2) := by decide +kernel
theorem dX11_man_73 : decode cX11_man 73 = .ok (.ladd, 1) := by decide +kernel
theorem dX11_man_74 : decode cX11_man 74 = .ok (.invokevirtual 244, 3) := by decide +kernel
theorem dX11_man_77 : decode cX11_man 77 = .ok (.aload_n 0, 1) := by decide +kernel
theorem dX11_man_78 : decode cX11_man 78 = .ok (.getfield 74, 3) := by decide +kernel
theorem dX11_man_81 : decode cX11_man 81 = .ok (.iload_n 1, 1) := by decide +kernel
theorem dX11_man_82 : decode cX11_man 82 = .ok (.invokevirtual 204, 3) := by decide +kernel
theorem dX11_man_85 : decode cX11_man 85 = .ok (.lreturn, 1) := by decide +kernel
theorem dX11_night_0 : decode cX11_night 0 = .ok (.iload_n 1, 1) := by decide +kernel
theorem dX11_night_1 : decode cX11_night 1 = .ok (.iconst 0, 1) := by decide +kernel
theorem dX11_night_2 : decode cX11_night 2 = .ok (.sipush 9999, 3) := by decide +kernel
theorem dX11_night_5 : decode cX11_night 5 = .ok (.invokestatic 101, 3) := by decide +kernel
theorem dX11_night_8 : decode cX11_night 8 = .ok (.ifCond .eq 12, 3) := by decide +kernel
theorem dX11_night_11 : decode cX11_night 11 = .ok (.iload_n 2, 1) := by decide +kernel
theorem dX11_night_12 : decode cX11_night 12 = .ok (.iconst 0, 1) := by decide +kernel
theorem dX11_night_13 : decode cX11_night 13 = .ok (.iconst 2, 1) := by decide +kernel
theorem dX11_night_14 : decode cX11_night 14 = .ok (.invokestatic 101, 3) := by decide +kernel
theorem dX11_night_17 : decode cX11_night 17 = .ok (.ifCond .ne 5, 3) := by decide +kernel
theorem dX11_night_20 : decode cX11_night 20 = .ok (.iconst (-1), 1) := by decide +kernel
theorem dX11_night_21 : decode cX11_night 21 = .ok (.ireturn, 1) := by decide +kernel
theorem dX11_night_22 : decode cX11_night 22 = .ok (.aload_n 0, 1) := by decide +kernel
theorem dX11_night_23 : decode cX11_night 23 = .ok (.getfield 90, 3) := by decide +kernel
theorem dX11_night_26 : decode cX11_night 26 = .ok (.aload_n 0, 1) := by decide +kernel
theorem dX11_night_27 : decode cX11_night 27 = .ok (.getfield 26, 3) := by decide +kernel
theorem dX11_night_30 : decode cX11_night 30 = .ok (.getfield 126, 3) := by decide +kernel
theorem dX11_night_33 : decode cX11_night 33 = .ok (.iload_n 1, 1) := by decide +kernel
theorem dX11_night_34 : decode cX11_night 34 = .ok (.invokevirtual 248, 3) := by decide +kernel
theorem dX11_night_37 : decode cX11_night 37 = .ok (.iload_n 2, 1) := by decide +kernel
theorem dX11_night_38 : decode cX11_night 38 = .ok (.ifCond .ne 11, 3) := by decide +kernel
theorem dX11_night_41 : decode cX11_night 41 = .ok (.aload_n 0, 1) := by decide +kernel
theorem dX11_night_42 : decode cX11_night 42 = .ok (.getfield 90, 3) := by decide +kernel
theorem dX11_night_45 : decode cX11_night 45 = .ok (.getfield 252, 3) := by decide +kernel
theorem dX11_night_48 : decode cX11_night 48 = .ok (.ireturn, 1) := by decide +kernel
theorem dX11_night_49 : decode cX11_night 49 = .ok (.iload_n 2, 1) := by decide +kernel
theorem dX11_night_50 : decode cX11_night 50 = .ok (.iconst 1, 1) := by decide +kernel
theorem dX11_night_51 : decode cX11_night 51 = .ok (.if_icmp .ne 13, 3) := by decide +kernel
theorem dX11_night_54 : decode cX11_night 54 = .ok (.aload_n 0, 1) := by decide +kernel
theorem dX11_night_55 : decode cX11_night 55 = .ok (.getfield 90, 3) := by decide +kernel
theorem dX11_night_58 : decode cX11_night 58 = .ok (.invokevirtual 255, 3) := by decide +kernel
theorem dX11_night_61 : decode cX11_night 61 = .ok (.goto 10, 3) := by decide +kernel
theorem dX11_night_64 : decode cX11_night 64 = .ok (.aload_n 0, 1) := by decide +kernel
theorem dX11_night_65 : decode cX11_night 65 = .ok (.getfield 90, 3) := by decide +kernel
theorem dX11_night_68 : decode cX11_night 68 = .ok (.getfield 258, 3) := by decide +kernel
theorem dX11_night_71 : decode cX11_night 71 = .ok (.ireturn, 1) := by decide +kernel
theorem dX11_one_0 : decode cX11_one 0 = .ok (.iload_n 1, 1) := by decide +kernel
theorem dX11_one_1 : decode cX11_one 1 = .ok (.iconst 0, 1) := by decide +kernel
theorem dX11_one_2 : decode cX11_one 2 = .ok (.sipush 9999, 3) := by decide +kernel
theorem dX11_one_5 : decode cX11_one 5 = .ok (.invokestatic 101, 3) := by decide +kernel
theorem dX11_one_8 : decode cX11_one 8 = .ok (.ifCond .eq 7, 3) := by decide +kernel
theorem dX11_one_11 : decode cX11_one 11 = .ok (.iload_n 2, 1) := by decide +kernel
theorem dX11_one_12 : decode cX11_one 12 = .ok (.ifCond .ge 5, 3) := by decide +kernel
theorem dX11_one_15 : decode cX11_one 15 = .ok (.iconst (-1), 1) := by decide +kernel
theorem dX11_one_16 : decode cX11_one 16 = .ok (.ireturn, 1) := by decide +kernel
theorem dX11_one_17 : decode cX11_one 17 = .ok (.aload_n 0, 1) := by decide +kernel
theorem dX11_one_18 : decode cX11_one 18 = .ok (.getfield 90, 3) := by decide +kernel
theorem dX11_one_21 : decode cX11_one 21 = .ok (.aload_n 0, 1) := by decide +kernel
theorem dX11_one_22 : decode cX11_one 22 = .ok (.getfield 26, 3) := by decide +kernel
theorem dX11_one_25 : decode cX11_one 25 = .ok (.getfield 126, 3) := by decide +kernel
theorem dX11_one_28 : decode cX11_one 28 = .ok (.iload_n 1, 1) := by decide +kernel
theorem dX11_one_29 : decode cX11_one 29 = .ok (.invokevirtual 248, 3) := by decide +kernel
theorem dX11_one_32 : decode cX11_one 32 = .ok (.aload_n 0, 1) := by decide +kernel
theorem dX11_one_33 : decode cX11_one 33 = .ok (.getfield 90, 3) := by decide +kernel
theorem dX11_one_36 : decode cX11_one 36 = .ok (.iload_n 2, 1) := by decide +kernel
theorem dX11_one_37 : decode cX11_one 37 = .ok (.invokevirtual 261, 3) := by decide +kernel
theorem dX11_one_40 : decode cX11_one 40 = .ok (.ireturn, 1) := by decide +kernel
theorem dX11_nights_0 : decode cX11_nights 0 = .ok (.iload_n 1, 1) := by decide +kernel
theorem dX11_nights_1 : decode cX11_nights 1 = .ok (.iconst 0, 1) := by decide +kernel
theorem dX11_nights_2 : decode cX11_nights 2 = .ok (.sipush 9999, 3) := by decide +kernel
theorem dX11_nights_5 : decode cX11_nights 5 = .ok (.invokestatic 101, 3) := by decide +kernel
theorem dX11_nights_8 : decode cX11_nights 8 = .ok (.ifCond .eq 13, 3) := by decide +kernel
theorem dX11_nights_11 : decode cX11_nights 11 = .ok (.iload_n 2, 1) := by decide +kernel
theorem dX11_nights_12 : decode cX11_nights 12 = .ok (.iconst 0, 1) := by decide +kernel
theorem dX11_nights_13 : decode cX11_nights 13 = .ok (.bipush 120, 2) := by decide +kernel
theorem dX11_nights_15 : decode cX11_nights 15 = .ok (.invokestatic 101, 3) := by decide +kernel
theorem dX11_nights_18 : decode cX11_nights 18 = .ok (.ifCond .ne 5, 3) := by decide +kernel
theorem dX11_nights_21 : decode cX11_nights 21 = .ok (.iconst (-1), 1) := by decide +kernel
theorem dX11_nights_22 : decode cX11_nights 22 = .ok (.ireturn, 1) := by decide +kernel
theorem dX11_nights_23 : decode cX11_nights 23 = .ok (.iconst 0, 1) := by decide +kernel
theorem dX11_nights_24 : decode cX11_nights 24 = .ok (.istore_n 3, 1) := by decide +kernel
theorem dX11_nights_25 : decode cX11_nights 25 = .ok (.iconst 0, 1) := by decide +kernel
theorem dX11_nights_26 : decode cX11_nights 26 = .ok (.istore 4, 2) := by decide +kernel
theorem dX11_nights_28 : decode cX11_nights 28 = .ok (.iload 4, 2) := by decide +kernel
theorem dX11_nights_30 : decode cX11_nights 30 = .ok (.bipush 10, 2) := by decide +kernel
theorem dX11_nights_32 : decode cX11_nights 32 = .ok (.if_icmp .ge 45, 3) := by decide +kernel
theorem dX11_nights_35 : decode cX11_nights 35 = .ok (.aload_n 0, 1) := by decide +kernel
theorem dX11_nights_36 : decode cX11_nights 36 = .ok (.getfield 90, 3) := by decide +kernel
theorem dX11_nights_39 : decode cX11_nights 39 = .ok (.aload_n 0, 1) := by decide +kernel
theorem dX11_nights_40 : decode cX11_nights 40 = .ok (.getfield 26, 3) := by decide +kernel
theorem dX11_nights_43 : decode cX11_nights 43 = .ok (.getfield 126, 3) := by decide +kernel
theorem dX11_nights_46 : decode cX11_nights 46 = .ok (.iload_n 1, 1) := by decide +kernel
theorem dX11_nights_47 : decode cX11_nights 47 = .ok (.iload 4, 2) := by decide +kernel
theorem dX11_nights_49 : decode cX11_nights 49 = .ok (.iadd, 1) := by decide +kernel
theorem dX11_nights_50 : decode cX11_nights 50 = .ok (.sipush 10000, 3) := by decide +kernel
theorem dX11_nights_53 : decode cX11_nights 53 = .ok (.irem, 1) := by decide +kernel
theorem dX11_nights_54 : decode cX11_nights 54 = .ok (.invokevirtual 248, 3) := by decide +kernel
theorem dX11_nights_57 : decode cX11_nights 57 = .ok (.aload_n 0, 1) := by decide +kernel
theorem dX11_nights_58 : decode cX11_nights 58 = .ok (.getfield 90, 3) := by decide +kernel
theorem dX11_nights_61 : decode cX11_nights 61 = .ok (.getfield 252, 3) := by decide +kernel
theorem dX11_nights_64 : decode cX11_nights 64 = .ok (.iload_n 2, 1) := by decide +kernel
theorem dX11_nights_65 : decode cX11_nights 65 = .ok (.if_icmp .ne 6, 3) := by decide +kernel
theorem dX11_nights_68 : decode cX11_nights 68 = .ok (.iinc 3 1, 3) := by decide +kernel
theorem dX11_nights_71 : decode cX11_nights 71 = .ok (.iinc 4 1, 3) := by decide +kernel
theorem dX11_nights_74 : decode cX11_nights 74 = .ok (.goto (-46), 3) := by decide +kernel
theorem dX11_nights_77 : decode cX11_nights 77 = .ok (.iload_n 3, 1) := by decide +kernel
theorem dX11_nights_78 : decode cX11_nights 78 = .ok (.ireturn, 1) := by decide +kernel
theorem dX11_within_0 : decode cX11_within 0 = .ok (.iload_n 0, 1) := by decide +kernel
theorem dX11_within_1 : decode cX11_within 1 = .ok (.iload_n 1, 1) := by decide +kernel
theorem dX11_within_2 : decode cX11_within 2 = .ok (.if_icmp .lt 12, 3) := by decide +kernel
theorem dX11_within_5 : decode cX11_within 5 = .ok (.iload_n 0, 1) := by decide +kernel
theorem dX11_within_6 : decode cX11_within 6 = .ok (.iload_n 2, 1) := by decide +kernel
theorem dX11_within_7 : decode cX11_within 7 = .ok (.if_icmp .gt 7, 3) := by decide +kernel
theorem dX11_within_10 : decode cX11_within 10 = .ok (.iconst 1, 1) := by decide +kernel
theorem dX11_within_11 : decode cX11_within 11 = .ok (.goto 4, 3) := by decide +kernel
theorem dX11_within_14 : decode cX11_within 14 = .ok (.iconst 0, 1) := by decide +kernel
theorem dX11_within_15 : decode cX11_within 15 = .ok (.ireturn, 1) := by decide +kernel
theorem dX11_at_0 : decode cX11_at 0 = .ok (.iload_n 1, 1) := by decide +kernel
theorem dX11_at_1 : decode cX11_at 1 = .ok (.ifCond .lt 15, 3) := by decide +kernel
theorem dX11_at_4 : decode cX11_at 4 = .ok (.iload_n 1, 1) := by decide +kernel
theorem dX11_at_5 : decode cX11_at 5 = .ok (.aload_n 0, 1) := by decide +kernel
theorem dX11_at_6 : decode cX11_at 6 = .ok (.arraylength, 1) := by decide +kernel
theorem dX11_at_7 : decode cX11_at 7 = .ok (.if_icmp .ge 9, 3) := by decide +kernel
theorem dX11_at_10 : decode cX11_at 10 = .ok (.aload_n 0, 1) := by decide +kernel
theorem dX11_at_11 : decode cX11_at 11 = .ok (.iload_n 1, 1) := by decide +kernel
theorem dX11_at_12 : decode cX11_at 12 = .ok (.iaload, 1) := by decide +kernel
theorem dX11_at_13 : decode cX11_at 13 = .ok (.goto 4, 3) := by decide +kernel
theorem dX11_at_16 : decode cX11_at 16 = .ok (.iconst 0, 1) := by decide +kernel
theorem dX11_at_17 : decode cX11_at 17 = .ok (.ireturn, 1) := by decide +kernel
theorem dX11_put_0 : decode cX11_put 0 = .ok (.iload_n 1, 1) := by decide +kernel
theorem dX11_put_1 : decode cX11_put 1 = .ok (.ifCond .lt 13, 3) := by decide +kernel
theorem dX11_put_4 : decode cX11_put 4 = .ok (.iload_n 1, 1) := by decide +kernel
theorem dX11_put_5 : decode cX11_put 5 = .ok (.aload_n 0, 1) := by decide +kernel
theorem dX11_put_6 : decode cX11_put 6 = .ok (.arraylength, 1) := by decide +kernel
theorem dX11_put_7 : decode cX11_put 7 = .ok (.if_icmp .ge 7, 3) := by decide +kernel
theorem dX11_put_10 : decode cX11_put 10 = .ok (.aload_n 0, 1) := by decide +kernel
theorem dX11_put_11 : decode cX11_put 11 = .ok (.iload_n 1, 1) := by decide +kernel
theorem dX11_put_12 : decode cX11_put 12 = .ok (.iload_n 2, 1) := by decide +kernel
theorem dX11_put_13 : decode cX11_put 13 = .ok (.iastore, 1) := by decide +kernel
theorem dX11_put_14 : decode cX11_put 14 = .ok (.return_, 1) := by decide +kernel
theorem dX11_copyRow_0 : decode cX11_copyRow 0 = .ok (.iconst 0, 1) := by decide +kernel
theorem dX11_copyRow_1 : decode cX11_copyRow 1 = .ok (.istore_n 2, 1) := by decide +kernel
theorem dX11_copyRow_2 : decode cX11_copyRow 2 = .ok (.iload_n 2, 1) := by decide +kernel
theorem dX11_copyRow_3 : decode cX11_copyRow 3 = .ok (.aload_n 0, 1) := by decide +kernel
theorem dX11_copyRow_4 : decode cX11_copyRow 4 = .ok (.arraylength, 1) := by decide +kernel
theorem dX11_copyRow_5 : decode cX11_copyRow 5 = .ok (.if_icmp .ge 17, 3) := by decide +kernel
theorem dX11_copyRow_8 : decode cX11_copyRow 8 = .ok (.aload_n 0, 1) := by decide +kernel
theorem dX11_copyRow_9 : decode cX11_copyRow 9 = .ok (.iload_n 2, 1) := by decide +kernel
theorem dX11_copyRow_10 : decode cX11_copyRow 10 = .ok (.aload_n 1, 1) := by decide +kernel
theorem dX11_copyRow_11 : decode cX11_copyRow 11 = .ok (.iload_n 2, 1) := by decide +kernel
theorem dX11_copyRow_12 : decode cX11_copyRow 12 = .ok (.invokestatic 271, 3) := by decide +kernel
theorem dX11_copyRow_15 : decode cX11_copyRow 15 = .ok (.iastore, 1) := by decide +kernel
theorem dX11_copyRow_16 : decode cX11_copyRow 16 = .ok (.iinc 2 1, 3) := by decide +kernel
theorem dX11_copyRow_19 : decode cX11_copyRow 19 = .ok (.goto (-17), 3) := by decide +kernel
theorem dX11_copyRow_22 : decode cX11_copyRow 22 = .ok (.return_, 1) := by decide +kernel
theorem dL_cell_0 : decode cL_cell 0 = .ok (.iload_n 1, 1) := by decide +kernel
theorem dL_cell_1 : decode cL_cell 1 = .ok (.aload_n 0, 1) := by decide +kernel
theorem dL_cell_2 : decode cL_cell 2 = .ok (.arraylength, 1) := by decide +kernel
theorem dL_cell_3 : decode cL_cell 3 = .ok (.if_icmp .ge 9, 3) := by decide +kernel
theorem dL_cell_6 : decode cL_cell 6 = .ok (.aload_n 0, 1) := by decide +kernel
theorem dL_cell_7 : decode cL_cell 7 = .ok (.iload_n 1, 1) := by decide +kernel
theorem dL_cell_8 : decode cL_cell 8 = .ok (.iaload, 1) := by decide +kernel
theorem dL_cell_9 : decode cL_cell 9 = .ok (.goto 9, 3) := by decide +kernel
theorem dL_cell_12 : decode cL_cell 12 = .ok (.ldc 7, 2) := by decide +kernel
theorem dL_cell_14 : decode cL_cell 14 = .ok (.iload_n 1, 1) := by decide +kernel
theorem dL_cell_15 : decode cL_cell 15 = .ok (.iconst 3, 1) := by decide +kernel
theorem dL_cell_16 : decode cL_cell 16 = .ok (.iadd, 1) := by decide +kernel
theorem dL_cell_17 : decode cL_cell 17 = .ok (.imul, 1) := by decide +kernel
theorem dL_cell_18 : decode cL_cell 18 = .ok (.ireturn, 1) := by decide +kernel
theorem dL_low_0 : decode cL_low 0 = .ok (.iload_n 0, 1) := by decide +kernel
theorem dL_low_1 : decode cL_low 1 = .ok (.ldc 8, 2) := by decide +kernel
theorem dL_low_3 : decode cL_low 3 = .ok (.iand, 1) := by decide +kernel
theorem dL_low_4 : decode cL_low 4 = .ok (.iload_n 1, 1) := by decide +kernel
theorem dL_low_5 : decode cL_low 5 = .ok (.irem, 1) := by decide +kernel
theorem dL_low_6 : decode cL_low 6 = .ok (.ireturn, 1) := by decide +kernel
theorem dL_item_0 : decode cL_item 0 = .ok (.aload_n 0, 1) := by decide +kernel
theorem dL_item_1 : decode cL_item 1 = .ok (.iconst 1, 1) := by decide +kernel
theorem dL_item_2 : decode cL_item 2 = .ok (.iload_n 1, 1) := by decide +kernel
theorem dL_item_3 : decode cL_item 3 = .ok (.i2l, 1) := by decide +kernel
theorem dL_item_4 : decode cL_item 4 = .ok (.invokevirtual 9, 3) := by decide +kernel
theorem dL_item_7 : decode cL_item 7 = .ok (.istore 5, 2) := by decide +kernel
theorem dL_item_9 : decode cL_item 9 = .ok (.iconst 0, 1) := by decide +kernel
theorem dL_item_10 : decode cL_item 10 = .ok (.istore 6, 2) := by decide +kernel
theorem dL_item_12 : decode cL_item 12 = .ok (.iload 6, 2) := by decide +kernel
theorem dL_item_14 : decode cL_item 14 = .ok (.iload_n 2, 1) := by decide +kernel
theorem dL_item_15 : decode cL_item 15 = .ok (.if_icmp .ge 122, 3) := by decide +kernel
theorem dL_item_18 : decode cL_item 18 = .ok (.aload_n 3, 1) := by decide +kernel
theorem dL_item_19 : decode cL_item 19 = .ok (.iload 4, 2) := by decide +kernel
theorem dL_item_21 : decode cL_item 21 = .ok (.iload 6, 2) := by decide +kernel
theorem dL_item_23 : decode cL_item 23 = .ok (.iadd, 1) := by decide +kernel
theorem dL_item_24 : decode cL_item 24 = .ok (.iaload, 1) := by decide +kernel
theorem dL_item_25 : decode cL_item 25 = .ok (.istore 7, 2) := by decide +kernel
theorem dL_item_27 : decode cL_item 27 = .ok (.iload 5, 2) := by decide +kernel
theorem dL_item_29 : decode cL_item 29 = .ok (.iload 6, 2) := by decide +kernel
theorem dL_item_31 : decode cL_item 31 = .ok (.ifCond .le 14, 3) := by decide +kernel
theorem dL_item_34 : decode cL_item 34 = .ok (.aload_n 0, 1) := by decide +kernel
theorem dL_item_35 : decode cL_item 35 = .ok (.iconst 1, 1) := by decide +kernel
theorem dL_item_36 : decode cL_item 36 = .ok (.ldc2_w 15, 3) := by decide +kernel
theorem dL_item_39 : decode cL_item 39 = .ok (.invokevirtual 9, 3) := by decide +kernel
theorem dL_item_42 : decode cL_item 42 = .ok (.goto 4, 3) := by decide +kernel
theorem dL_item_45 : decode cL_item 45 = .ok (.iconst 0, 1) := by decide +kernel
theorem dL_item_46 : decode cL_item 46 = .ok (.iadd, 1) := by decide +kernel
theorem dL_item_47 : decode cL_item 47 = .ok (.istore 5, 2) := by decide +kernel
theorem dL_item_49 : decode cL_item 49 = .ok (.iload 5, 2) := by decide +kernel
theorem dL_item_51 : decode cL_item 51 = .ok (.iload 7, 2) := by decide +kernel
theorem dL_item_53 : decode cL_item 53 = .ok (.bipush 99, 2) := by decide +kernel
theorem dL_item_55 : decode cL_item 55 = .ok (.if_icmp .le 20, 3) := by decide +kernel
theorem dL_item_58 : decode cL_item 58 = .ok (.aload_n 0, 1) := by decide +kernel
theorem dL_item_59 : decode cL_item 59 = .ok (.iconst 1, 1) := by decide +kernel
theorem dL_item_60 : decode cL_item 60 = .ok (.bipush 48, 2) := by decide +kernel
theorem dL_item_62 : decode cL_item 62 = .ok (.iload 7, 2) := by decide +kernel
theorem dL_item_64 : decode cL_item 64 = .ok (.bipush 100, 2) := by decide +kernel
theorem dL_item_66 : decode cL_item 66 = .ok (.idiv, 1) := by decide +kernel
theorem dL_item_67 : decode cL_item 67 = .ok (.iadd, 1) := by decide +kernel
theorem dL_item_68 : decode cL_item 68 = .ok (.i2l, 1) := by decide +kernel
theorem dL_item_69 : decode cL_item 69 = .ok (.invokevirtual 9, 3) := by decide +kernel
theorem dL_item_72 : decode cL_item 72 = .ok (.goto 4, 3) := by decide +kernel
theorem dL_item_75 : decode cL_item 75 = .ok (.iconst 0, 1) := by decide +kernel
theorem dL_item_76 : decode cL_item 76 = .ok (.iadd, 1) := by decide +kernel
theorem dL_item_77 : decode cL_item 77 = .ok (.istore 5, 2) := by decide +kernel
theorem dL_item_79 : decode cL_item 79 = .ok (.iload 5, 2) := by decide +kernel
theorem dL_item_81 : decode cL_item 81 = .ok (.iload 7, 2) := by decide +kernel
theorem dL_item_83 : decode cL_item 83 = .ok (.bipush 9, 2) := by decide +kernel
theorem dL_item_85 : decode cL_item 85 = .ok (.if_icmp .le 23, 3) := by decide +kernel
theorem dL_item_88 : decode cL_item 88 = .ok (.aload_n 0, 1) := by decide +kernel
theorem dL_item_89 : decode cL_item 89 = .ok (.iconst 1, 1) := by decide +kernel
theorem dL_item_90 : decode cL_item 90 = .ok (.bipush 48, 2) := by decide +kernel
theorem dL_item_92 : decode cL_item 92 = .ok (.iload 7, 2) := by decide +kernel
theorem dL_item_94 : decode cL_item 94 = .ok (.bipush 10, 2) := by decide +kernel
theorem dL_item_96 : decode cL_item 96 = .ok (.idiv, 1) := by decide +kernel
theorem dL_item_97 : decode cL_item 97 = .ok (.bipush 10, 2) := by decide +kernel
theorem dL_item_99 : decode cL_item 99 = .ok (.irem, 1) := by decide +kernel
theorem dL_item_100 : decode cL_item 100 = .ok (.iadd, 1) := by decide +kernel
theorem dL_item_101 : decode cL_item 101 = .ok (.i2l, 1) := by decide +kernel
theorem dL_item_102 : decode cL_item 102 = .ok (.invokevirtual 9, 3) := by decide +kernel
theorem dL_item_105 : decode cL_item 105 = .ok (.goto 4, 3) := by decide +kernel
theorem dL_item_108 : decode cL_item 108 = .ok (.iconst 0, 1) := by decide +kernel
theorem dL_item_109 : decode cL_item 109 = .ok (.iadd, 1) := by decide +kernel
theorem dL_item_110 : decode cL_item 110 = .ok (.istore 5, 2) := by decide +kernel
theorem dL_item_112 : decode cL_item 112 = .ok (.iload 5, 2) := by decide +kernel
theorem dL_item_114 : decode cL_item 114 = .ok (.aload_n 0, 1) := by decide +kernel
theorem dL_item_115 : decode cL_item 115 = .ok (.iconst 1, 1) := by decide +kernel
theorem dL_item_116 : decode cL_item 116 = .ok (.bipush 48, 2) := by decide +kernel
theorem dL_item_118 : decode cL_item 118 = .ok (.iload 7, 2) := by decide +kernel
theorem dL_item_120 : decode cL_item 120 = .ok (.bipush 10, 2) := by decide +kernel
theorem dL_item_122 : decode cL_item 122 = .ok (.irem, 1) := by decide +kernel
theorem dL_item_123 : decode cL_item 123 = .ok (.iadd, 1) := by decide +kernel
theorem dL_item_124 : decode cL_item 124 = .ok (.i2l, 1) := by decide +kernel
theorem dL_item_125 : decode cL_item 125 = .ok (.invokevirtual 9, 3) := by decide +kernel
theorem dL_item_128 : decode cL_item 128 = .ok (.iadd, 1) := by decide +kernel
theorem dL_item_129 : decode cL_item 129 = .ok (.istore 5, 2) := by decide +kernel
theorem dL_item_131 : decode cL_item 131 = .ok (.iinc 6 1, 3) := by decide +kernel
theorem dL_item_134 : decode cL_item 134 = .ok (.goto (-122), 3) := by decide +kernel
theorem dL_item_137 : decode cL_item 137 = .ok (.iload 5, 2) := by decide +kernel
theorem dL_item_139 : decode cL_item 139 = .ok (.iload 5, 2) := by decide +kernel
theorem dL_item_141 : decode cL_item 141 = .ok (.isub, 1) := by decide +kernel
theorem dL_item_142 : decode cL_item 142 = .ok (.aload_n 0, 1) := by decide +kernel
theorem dL_item_143 : decode cL_item 143 = .ok (.iconst 1, 1) := by decide +kernel
theorem dL_item_144 : decode cL_item 144 = .ok (.ldc2_w 17, 3) := by decide +kernel
theorem dL_item_147 : decode cL_item 147 = .ok (.invokevirtual 9, 3) := by decide +kernel
theorem dL_item_150 : decode cL_item 150 = .ok (.iadd, 1) := by decide +kernel
theorem dL_item_151 : decode cL_item 151 = .ok (.ireturn, 1) := by decide +kernel
theorem dL_draws_0 : decode cL_draws 0 = .ok (.aload_n 0, 1) := by decide +kernel
theorem dL_draws_1 : decode cL_draws 1 = .ok (.iconst 0, 1) := by decide +kernel
theorem dL_draws_2 : decode cL_draws 2 = .ok (.invokestatic 19, 3) := by decide +kernel
theorem dL_draws_5 : decode cL_draws 5 = .ok (.istore_n 2, 1) := by decide +kernel
theorem dL_draws_6 : decode cL_draws 6 = .ok (.aload_n 1, 1) := by decide +kernel
theorem dL_draws_7 : decode cL_draws 7 = .ok (.iconst 0, 1) := by decide +kernel
theorem dL_draws_8 : decode cL_draws 8 = .ok (.iconst 1, 1) := by decide +kernel
theorem dL_draws_9 : decode cL_draws 9 = .ok (.iload_n 2, 1) := by decide +kernel
theorem dL_draws_10 : decode cL_draws 10 = .ok (.iconst 4, 1) := by decide +kernel
theorem dL_draws_11 : decode cL_draws 11 = .ok (.invokestatic 25, 3) := by decide +kernel
theorem dL_draws_14 : decode cL_draws 14 = .ok (.iadd, 1) := by decide +kernel
theorem dL_draws_15 : decode cL_draws 15 = .ok (.iastore, 1) := by decide +kernel
theorem dL_draws_16 : decode cL_draws 16 = .ok (.aload_n 1, 1) := by decide +kernel
theorem dL_draws_17 : decode cL_draws 17 = .ok (.iconst 1, 1) := by decide +kernel
theorem dL_draws_18 : decode cL_draws 18 = .ok (.iconst 1, 1) := by decide +kernel
theorem dL_draws_19 : decode cL_draws 19 = .ok (.iload_n 2, 1) := by decide +kernel
theorem dL_draws_20 : decode cL_draws 20 = .ok (.iconst 2, 1) := by decide +kernel
theorem dL_draws_21 : decode cL_draws 21 = .ok (.ishr, 1) := by decide +kernel
theorem dL_draws_22 : decode cL_draws 22 = .ok (.iconst 4, 1) := by decide +kernel
theorem dL_draws_23 : decode cL_draws 23 = .ok (.invokestatic 25, 3) := by decide +kernel
theorem dL_draws_26 : decode cL_draws 26 = .ok (.iadd, 1) := by decide +kernel
theorem dL_draws_27 : decode cL_draws 27 = .ok (.iastore, 1) := by decide +kernel
theorem dL_draws_28 : decode cL_draws 28 = .ok (.aload_n 1, 1) := by decide +kernel
theorem dL_draws_29 : decode cL_draws 29 = .ok (.iconst 2, 1) := by decide +kernel
theorem dL_draws_30 : decode cL_draws 30 = .ok (.iload_n 2, 1) := by decide +kernel
theorem dL_draws_31 : decode cL_draws 31 = .ok (.iconst 4, 1) := by decide +kernel
theorem dL_draws_32 : decode cL_draws 32 = .ok (.ishr, 1) := by decide +kernel
theorem dL_draws_33 : decode cL_draws 33 = .ok (.iconst 5, 1) := by decide +kernel
theorem dL_draws_34 : decode cL_draws 34 = .ok (.invokestatic 25, 3) := by decide +kernel
theorem dL_draws_37 : decode cL_draws 37 = .ok (.iastore, 1) := by decide +kernel
theorem dL_draws_38 : decode cL_draws 38 = .ok (.aload_n 1, 1) := by decide +kernel
theorem dL_draws_39 : decode cL_draws 39 = .ok (.iconst 3, 1) := by decide +kernel
theorem dL_draws_40 : decode cL_draws 40 = .ok (.iload_n 2, 1) := by decide +kernel
theorem dL_draws_41 : decode cL_draws 41 = .ok (.bipush 7, 2) := by decide +kernel
theorem dL_draws_43 : decode cL_draws 43 = .ok (.ishr, 1) := by decide +kernel
theorem dL_draws_44 : decode cL_draws 44 = .ok (.bipush 11, 2) := by decide +kernel
theorem dL_draws_46 : decode cL_draws 46 = .ok (.invokestatic 25, 3) := by decide +kernel
theorem dL_draws_49 : decode cL_draws 49 = .ok (.iastore, 1) := by decide +kernel
theorem dL_draws_50 : decode cL_draws 50 = .ok (.aload_n 1, 1) := by decide +kernel
theorem dL_draws_51 : decode cL_draws 51 = .ok (.iconst 4, 1) := by decide +kernel
theorem dL_draws_52 : decode cL_draws 52 = .ok (.iload_n 2, 1) := by decide +kernel
theorem dL_draws_53 : decode cL_draws 53 = .ok (.bipush 11, 2) := by decide +kernel
theorem dL_draws_55 : decode cL_draws 55 = .ok (.ishr, 1) := by decide +kernel
theorem dL_draws_56 : decode cL_draws 56 = .ok (.bipush 100, 2) := by decide +kernel
theorem dL_draws_58 : decode cL_draws 58 = .ok (.invokestatic 25, 3) := by decide +kernel
theorem dL_draws_61 : decode cL_draws 61 = .ok (.iastore, 1) := by decide +kernel
theorem dL_draws_62 : decode cL_draws 62 = .ok (.aload_n 1, 1) := by decide +kernel
theorem dL_draws_63 : decode cL_draws 63 = .ok (.iconst 5, 1) := by decide +kernel
theorem dL_draws_64 : decode cL_draws 64 = .ok (.iload_n 2, 1) := by decide +kernel
theorem dL_draws_65 : decode cL_draws 65 = .ok (.bipush 18, 2) := by decide +kernel
theorem dL_draws_67 : decode cL_draws 67 = .ok (.ishr, 1) := by decide +kernel
theorem dL_draws_68 : decode cL_draws 68 = .ok (.bipush 11, 2) := by decide +kernel
theorem dL_draws_70 : decode cL_draws 70 = .ok (.invokestatic 25, 3) := by decide +kernel
theorem dL_draws_73 : decode cL_draws 73 = .ok (.iastore, 1) := by decide +kernel
theorem dL_draws_74 : decode cL_draws 74 = .ok (.iconst 0, 1) := by decide +kernel
theorem dL_draws_75 : decode cL_draws 75 = .ok (.istore_n 3, 1) := by decide +kernel
theorem dL_draws_76 : decode cL_draws 76 = .ok (.iload_n 3, 1) := by decide +kernel
theorem dL_draws_77 : decode cL_draws 77 = .ok (.aload_n 1, 1) := by decide +kernel
theorem dL_draws_78 : decode cL_draws 78 = .ok (.iconst 0, 1) := by decide +kernel
theorem dL_draws_79 : decode cL_draws 79 = .ok (.iaload, 1) := by decide +kernel
theorem dL_draws_80 : decode cL_draws 80 = .ok (.if_icmp .ge 104, 3) := by decide +kernel
theorem dL_draws_83 : decode cL_draws 83 = .ok (.aload_n 0, 1) := by decide +kernel
theorem dL_draws_84 : decode cL_draws 84 = .ok (.iconst 1, 1) := by decide +kernel
theorem dL_draws_85 : decode cL_draws 85 = .ok (.iload_n 3, 1) := by decide +kernel
theorem dL_draws_86 : decode cL_draws 86 = .ok (.iadd, 1) := by decide +kernel
theorem dL_draws_87 : decode cL_draws 87 = .ok (.invokestatic 19, 3) := by decide +kernel
theorem dL_draws_90 : decode cL_draws 90 = .ok (.istore 4, 2) := by decide +kernel
theorem dL_draws_92 : decode cL_draws 92 = .ok (.aload_n 1, 1) := by decide +kernel
theorem dL_draws_93 : decode cL_draws 93 = .ok (.bipush 6, 2) := by decide +kernel
theorem dL_draws_95 : decode cL_draws 95 = .ok (.iconst 4, 1) := by decide +kernel
theorem dL_draws_96 : decode cL_draws 96 = .ok (.iload_n 3, 1) := by decide +kernel
theorem dL_draws_97 : decode cL_draws 97 = .ok (.imul, 1) := by decide +kernel
theorem dL_draws_98 : decode cL_draws 98 = .ok (.iadd, 1) := by decide +kernel
theorem dL_draws_99 : decode cL_draws 99 = .ok (.iconst 1, 1) := by decide +kernel
theorem dL_draws_100 : decode cL_draws 100 = .ok (.iload 4, 2) := by decide +kernel
theorem dL_draws_102 : decode cL_draws 102 = .ok (.iload 4, 2) := by decide +kernel
theorem dL_draws_104 : decode cL_draws 104 = .ok (.bipush 20, 2) := by decide +kernel
theorem dL_draws_106 : decode cL_draws 106 = .ok (.ishr, 1) := by decide +kernel
theorem dL_draws_107 : decode cL_draws 107 = .ok (.iconst 2, 1) := by decide +kernel
theorem dL_draws_108 : decode cL_draws 108 = .ok (.invokestatic 25, 3) := by decide +kernel
theorem dL_draws_111 : decode cL_draws 111 = .ok (.ifCond .ne 7, 3) := by decide +kernel
theorem dL_draws_114 : decode cL_draws 114 = .ok (.iconst 5, 1) := by decide +kernel
theorem dL_draws_115 : decode cL_draws 115 = .ok (.goto 5, 3) := by decide +kernel
theorem dL_draws_118 : decode cL_draws 118 = .ok (.bipush 20, 2) := by decide +kernel
theorem dL_draws_120 : decode cL_draws 120 = .ok (.invokestatic 25, 3) := by decide +kernel
theorem dL_draws_123 : decode cL_draws 123 = .ok (.iadd, 1) := by decide +kernel
theorem dL_draws_124 : decode cL_draws 124 = .ok (.iastore, 1) := by decide +kernel
theorem dL_draws_125 : decode cL_draws 125 = .ok (.aload_n 1, 1) := by decide +kernel
theorem dL_draws_126 : decode cL_draws 126 = .ok (.bipush 7, 2) := by decide +kernel
theorem dL_draws_128 : decode cL_draws 128 = .ok (.iconst 4, 1) := by decide +kernel
theorem dL_draws_129 : decode cL_draws 129 = .ok (.iload_n 3, 1) := by decide +kernel
theorem dL_draws_130 : decode cL_draws 130 = .ok (.imul, 1) := by decide +kernel
theorem dL_draws_131 : decode cL_draws 131 = .ok (.iadd, 1) := by decide +kernel
theorem dL_draws_132 : decode cL_draws 132 = .ok (.iload 4, 2) := by decide +kernel
theorem dL_draws_134 : decode cL_draws 134 = .ok (.iconst 5, 1) := by decide +kernel
theorem dL_draws_135 : decode cL_draws 135 = .ok (.ishr, 1) := by decide +kernel
theorem dL_draws_136 : decode cL_draws 136 = .ok (.bipush 11, 2) := by decide +kernel
theorem dL_draws_138 : decode cL_draws 138 = .ok (.invokestatic 25, 3) := by decide +kernel
theorem dL_draws_141 : decode cL_draws 141 = .ok (.iastore, 1) := by decide +kernel
theorem dL_draws_142 : decode cL_draws 142 = .ok (.aload_n 1, 1) := by decide +kernel
theorem dL_draws_143 : decode cL_draws 143 = .ok (.bipush 8, 2) := by decide +kernel
theorem dL_draws_145 : decode cL_draws 145 = .ok (.iconst 4, 1) := by decide +kernel
theorem dL_draws_146 : decode cL_draws 146 = .ok (.iload_n 3, 1) := by decide +kernel
theorem dL_draws_147 : decode cL_draws 147 = .ok (.imul, 1) := by decide +kernel
theorem dL_draws_148 : decode cL_draws 148 = .ok (.iadd, 1) := by decide +kernel
theorem dL_draws_149 : decode cL_draws 149 = .ok (.iload 4, 2) := by decide +kernel
theorem dL_draws_151 : decode cL_draws 151 = .ok (.bipush 9, 2) := by decide +kernel
theorem dL_draws_153 : decode cL_draws 153 = .ok (.ishr, 1) := by decide +kernel
theorem dL_draws_154 : decode cL_draws 154 = .ok (.bipush 11, 2) := by decide +kernel
theorem dL_draws_156 : decode cL_draws 156 = .ok (.invokestatic 25, 3) := by decide +kernel
theorem dL_draws_159 : decode cL_draws 159 = .ok (.iastore, 1) := by decide +kernel
theorem dL_draws_160 : decode cL_draws 160 = .ok (.aload_n 1, 1) := by decide +kernel
theorem dL_draws_161 : decode cL_draws 161 = .ok (.bipush 9, 2) := by decide +kernel
theorem dL_draws_163 : decode cL_draws 163 = .ok (.iconst 4, 1) := by decide +kernel
theorem dL_draws_164 : decode cL_draws 164 = .ok (.iload_n 3, 1) := by decide +kernel
theorem dL_draws_165 : decode cL_draws 165 = .ok (.imul, 1) := by decide +kernel
theorem dL_draws_166 : decode cL_draws 166 = .ok (.iadd, 1) := by decide +kernel
theorem dL_draws_167 : decode cL_draws 167 = .ok (.iload 4, 2) := by decide +kernel
theorem dL_draws_169 : decode cL_draws 169 = .ok (.bipush 13, 2) := by decide +kernel
theorem dL_draws_171 : decode cL_draws 171 = .ok (.ishr, 1) := by decide +kernel
theorem dL_draws_172 : decode cL_draws 172 = .ok (.bipush 11, 2) := by decide +kernel
theorem dL_draws_174 : decode cL_draws 174 = .ok (.invokestatic 25, 3) := by decide +kernel
theorem dL_draws_177 : decode cL_draws 177 = .ok (.iastore, 1) := by decide +kernel
theorem dL_draws_178 : decode cL_draws 178 = .ok (.iinc 3 1, 3) := by decide +kernel
theorem dL_draws_181 : decode cL_draws 181 = .ok (.goto (-105), 3) := by decide +kernel
theorem dL_draws_184 : decode cL_draws 184 = .ok (.iconst 0, 1) := by decide +kernel
theorem dL_draws_185 : decode cL_draws 185 = .ok (.istore_n 3, 1) := by decide +kernel
theorem dL_draws_186 : decode cL_draws 186 = .ok (.iload_n 3, 1) := by decide +kernel
theorem dL_draws_187 : decode cL_draws 187 = .ok (.aload_n 1, 1) := by decide +kernel
theorem dL_draws_188 : decode cL_draws 188 = .ok (.iconst 1, 1) := by decide +kernel
theorem dL_draws_189 : decode cL_draws 189 = .ok (.iaload, 1) := by decide +kernel
theorem dL_draws_190 : decode cL_draws 190 = .ok (.if_icmp .ge 88, 3) := by decide +kernel
theorem dL_draws_193 : decode cL_draws 193 = .ok (.aload_n 0, 1) := by decide +kernel
theorem dL_draws_194 : decode cL_draws 194 = .ok (.iconst 5, 1) := by decide +kernel
theorem dL_draws_195 : decode cL_draws 195 = .ok (.iload_n 3, 1) := by decide +kernel
theorem dL_draws_196 : decode cL_draws 196 = .ok (.iadd, 1) := by decide +kernel
theorem dL_draws_197 : decode cL_draws 197 = .ok (.invokestatic 19, 3) := by decide +kernel
theorem dL_draws_200 : decode cL_draws 200 = .ok (.istore 4, 2) := by decide +kernel
theorem dL_draws_202 : decode cL_draws 202 = .ok (.aload_n 1, 1) := by decide +kernel
theorem dL_draws_203 : decode cL_draws 203 = .ok (.bipush 22, 2) := by decide +kernel
theorem dL_draws_205 : decode cL_draws 205 = .ok (.iconst 4, 1) := by decide +kernel
theorem dL_draws_206 : decode cL_draws 206 = .ok (.iload_n 3, 1) := by decide +kernel
theorem dL_draws_207 : decode cL_draws 207 = .ok (.imul, 1) := by decide +kernel
theorem dL_draws_208 : decode cL_draws 208 = .ok (.iadd, 1) := by decide +kernel
theorem dL_draws_209 : decode cL_draws 209 = .ok (.iload 4, 2) := by decide +kernel
theorem dL_draws_211 : decode cL_draws 211 = .ok (.bipush 11, 2) := by decide +kernel
theorem dL_draws_213 : decode cL_draws 213 = .ok (.invokestatic 25, 3) := by decide +kernel
theorem dL_draws_216 : decode cL_draws 216 = .ok (.iastore, 1) := by decide +kernel
theorem dL_draws_217 : decode cL_draws 217 = .ok (.aload_n 1, 1) := by decide +kernel
theorem dL_draws_218 : decode cL_draws 218 = .ok (.bipush 23, 2) := by decide +kernel
theorem dL_draws_220 : decode cL_draws 220 = .ok (.iconst 4, 1) := by decide +kernel
theorem dL_draws_221 : decode cL_draws 221 = .ok (.iload_n 3, 1) := by decide +kernel
theorem dL_draws_222 : decode cL_draws 222 = .ok (.imul, 1) := by decide +kernel
theorem dL_draws_223 : decode cL_draws 223 = .ok (.iadd, 1) := by decide +kernel
theorem dL_draws_224 : decode cL_draws 224 = .ok (.iload 4, 2) := by decide +kernel
theorem dL_draws_226 : decode cL_draws 226 = .ok (.iconst 4, 1) := by decide +kernel
theorem dL_draws_227 : decode cL_draws 227 = .ok (.ishr, 1) := by decide +kernel
theorem dL_draws_228 : decode cL_draws 228 = .ok (.bipush 11, 2) := by decide +kernel
theorem dL_draws_230 : decode cL_draws 230 = .ok (.invokestatic 25, 3) := by decide +kernel
theorem dL_draws_233 : decode cL_draws 233 = .ok (.iastore, 1) := by decide +kernel
theorem dL_draws_234 : decode cL_draws 234 = .ok (.aload_n 1, 1) := by decide +kernel
theorem dL_draws_235 : decode cL_draws 235 = .ok (.bipush 24, 2) := by decide +kernel
theorem dL_draws_237 : decode cL_draws 237 = .ok (.iconst 4, 1) := by decide +kernel
theorem dL_draws_238 : decode cL_draws 238 = .ok (.iload_n 3, 1) := by decide +kernel
theorem dL_draws_239 : decode cL_draws 239 = .ok (.imul, 1) := by decide +kernel
theorem dL_draws_240 : decode cL_draws 240 = .ok (.iadd, 1) := by decide +kernel
theorem dL_draws_241 : decode cL_draws 241 = .ok (.iload 4, 2) := by decide +kernel
theorem dL_draws_243 : decode cL_draws 243 = .ok (.bipush 8, 2) := by decide +kernel
theorem dL_draws_245 : decode cL_draws 245 = .ok (.ishr, 1) := by decide +kernel
theorem dL_draws_246 : decode cL_draws 246 = .ok (.bipush 11, 2) := by decide +kernel
theorem dL_draws_248 : decode cL_draws 248 = .ok (.invokestatic 25, 3) := by decide +kernel
theorem dL_draws_251 : decode cL_draws 251 = .ok (.iastore, 1) := by decide +kernel
theorem dL_draws_252 : decode cL_draws 252 = .ok (.aload_n 1, 1) := by decide +kernel
theorem dL_draws_253 : decode cL_draws 253 = .ok (.bipush 25, 2) := by decide +kernel
theorem dL_draws_255 : decode cL_draws 255 = .ok (.iconst 4, 1) := by decide +kernel
theorem dL_draws_256 : decode cL_draws 256 = .ok (.iload_n 3, 1) := by decide +kernel
theorem dL_draws_257 : decode cL_draws 257 = .ok (.imul, 1) := by decide +kernel
theorem dL_draws_258 : decode cL_draws 258 = .ok (.iadd, 1) := by decide +kernel
theorem dL_draws_259 : decode cL_draws 259 = .ok (.iconst 1, 1) := by decide +kernel
theorem dL_draws_260 : decode cL_draws 260 = .ok (.iload 4, 2) := by decide +kernel
theorem dL_draws_262 : decode cL_draws 262 = .ok (.bipush 12, 2) := by decide +kernel
theorem dL_draws_264 : decode cL_draws 264 = .ok (.ishr, 1) := by decide +kernel
theorem dL_draws_265 : decode cL_draws 265 = .ok (.bipush 30, 2) := by decide +kernel
theorem dL_draws_267 : decode cL_draws 267 = .ok (.invokestatic 25, 3) := by decide +kernel
theorem dL_draws_270 : decode cL_draws 270 = .ok (.iadd, 1) := by decide +kernel
theorem dL_draws_271 : decode cL_draws 271 = .ok (.iastore, 1) := by decide +kernel
theorem dL_draws_272 : decode cL_draws 272 = .ok (.iinc 3 1, 3) := by decide +kernel
theorem dL_draws_275 : decode cL_draws 275 = .ok (.goto (-89), 3) := by decide +kernel
theorem dL_draws_278 : decode cL_draws 278 = .ok (.iconst 0, 1) := by decide +kernel
theorem dL_draws_279 : decode cL_draws 279 = .ok (.istore_n 3, 1) := by decide +kernel
theorem dL_draws_280 : decode cL_draws 280 = .ok (.iload_n 3, 1) := by decide +kernel
theorem dL_draws_281 : decode cL_draws 281 = .ok (.aload_n 1, 1) := by decide +kernel
theorem dL_draws_282 : decode cL_draws 282 = .ok (.iconst 2, 1) := by decide +kernel
theorem dL_draws_283 : decode cL_draws 283 = .ok (.iaload, 1) := by decide +kernel
theorem dL_draws_284 : decode cL_draws 284 = .ok (.if_icmp .ge 59, 3) := by decide +kernel
theorem dL_draws_287 : decode cL_draws 287 = .ok (.aload_n 0, 1) := by decide +kernel
theorem dL_draws_288 : decode cL_draws 288 = .ok (.bipush 9, 2) := by decide +kernel
theorem dL_draws_290 : decode cL_draws 290 = .ok (.iload_n 3, 1) := by decide +kernel
theorem dL_draws_291 : decode cL_draws 291 = .ok (.iadd, 1) := by decide +kernel
theorem dL_draws_292 : decode cL_draws 292 = .ok (.invokestatic 19, 3) := by decide +kernel
theorem dL_draws_295 : decode cL_draws 295 = .ok (.istore 4, 2) := by decide +kernel
theorem dL_draws_297 : decode cL_draws 297 = .ok (.aload_n 1, 1) := by decide +kernel
theorem dL_draws_298 : decode cL_draws 298 = .ok (.bipush 38, 2) := by decide +kernel
theorem dL_draws_300 : decode cL_draws 300 = .ok (.iconst 2, 1) := by decide +kernel
theorem dL_draws_301 : decode cL_draws 301 = .ok (.iload_n 3, 1) := by decide +kernel
theorem dL_draws_302 : decode cL_draws 302 = .ok (.imul, 1) := by decide +kernel
theorem dL_draws_303 : decode cL_draws 303 = .ok (.iadd, 1) := by decide +kernel
theorem dL_draws_304 : decode cL_draws 304 = .ok (.iload 4, 2) := by decide +kernel
theorem dL_draws_306 : decode cL_draws 306 = .ok (.aload_n 1, 1) := by decide +kernel
theorem dL_draws_307 : decode cL_draws 307 = .ok (.iconst 1, 1) := by decide +kernel
theorem dL_draws_308 : decode cL_draws 308 = .ok (.iaload, 1) := by decide +kernel
theorem dL_draws_309 : decode cL_draws 309 = .ok (.invokestatic 25, 3) := by decide +kernel
theorem dL_draws_312 : decode cL_draws 312 = .ok (.iastore, 1) := by decide +kernel
theorem dL_draws_313 : decode cL_draws 313 = .ok (.aload_n 1, 1) := by decide +kernel
theorem dL_draws_314 : decode cL_draws 314 = .ok (.bipush 39, 2) := by decide +kernel
theorem dL_draws_316 : decode cL_draws 316 = .ok (.iconst 2, 1) := by decide +kernel
theorem dL_draws_317 : decode cL_draws 317 = .ok (.iload_n 3, 1) := by decide +kernel
theorem dL_draws_318 : decode cL_draws 318 = .ok (.imul, 1) := by decide +kernel
theorem dL_draws_319 : decode cL_draws 319 = .ok (.iadd, 1) := by decide +kernel
theorem dL_draws_320 : decode cL_draws 320 = .ok (.iload 4, 2) := by decide +kernel
theorem dL_draws_322 : decode cL_draws 322 = .ok (.iconst 3, 1) := by decide +kernel
theorem dL_draws_323 : decode cL_draws 323 = .ok (.ishr, 1) := by decide +kernel
theorem dL_draws_324 : decode cL_draws 324 = .ok (.iconst 4, 1) := by decide +kernel
theorem dL_draws_325 : decode cL_draws 325 = .ok (.invokestatic 25, 3) := by decide +kernel
theorem dL_draws_328 : decode cL_draws 328 = .ok (.ifCond .ne 7, 3) := by decide +kernel
theorem dL_draws_331 : decode cL_draws 331 = .ok (.iconst 1, 1) := by decide +kernel
theorem dL_draws_332 : decode cL_draws 332 = .ok (.goto 4, 3) := by decide +kernel
theorem dL_draws_335 : decode cL_draws 335 = .ok (.iconst 0, 1) := by decide +kernel
theorem dL_draws_336 : decode cL_draws 336 = .ok (.iastore, 1) := by decide +kernel
theorem dL_draws_337 : decode cL_draws 337 = .ok (.iinc 3 1, 3) := by decide +kernel
theorem dL_draws_340 : decode cL_draws 340 = .ok (.goto (-60), 3) := by decide +kernel
theorem dL_draws_343 : decode cL_draws 343 = .ok (.return_, 1) := by decide +kernel
theorem dL_lays_0 : decode cL_lays 0 = .ok (.aload_n 0, 1) := by decide +kernel
theorem dL_lays_1 : decode cL_lays 1 = .ok (.invokevirtual 29, 3) := by decide +kernel
theorem dL_lays_4 : decode cL_lays 4 = .ok (.istore_n 2, 1) := by decide +kernel
theorem dL_lays_5 : decode cL_lays 5 = .ok (.iconst 0, 1) := by decide +kernel
theorem dL_lays_6 : decode cL_lays 6 = .ok (.istore_n 3, 1) := by decide +kernel
theorem dL_lays_7 : decode cL_lays 7 = .ok (.iload_n 3, 1) := by decide +kernel
theorem dL_lays_8 : decode cL_lays 8 = .ok (.aload_n 1, 1) := by decide +kernel
theorem dL_lays_9 : decode cL_lays 9 = .ok (.iconst 0, 1) := by decide +kernel
theorem dL_lays_10 : decode cL_lays 10 = .ok (.iaload, 1) := by decide +kernel
theorem dL_lays_11 : decode cL_lays 11 = .ok (.if_icmp .ge 24, 3) := by decide +kernel
theorem dL_lays_14 : decode cL_lays 14 = .ok (.aload_n 0, 1) := by decide +kernel
theorem dL_lays_15 : decode cL_lays 15 = .ok (.bipush 115, 2) := by decide +kernel
theorem dL_lays_17 : decode cL_lays 17 = .ok (.iconst 4, 1) := by decide +kernel
theorem dL_lays_18 : decode cL_lays 18 = .ok (.aload_n 1, 1) := by decide +kernel
theorem dL_lays_19 : decode cL_lays 19 = .ok (.bipush 6, 2) := by decide +kernel
theorem dL_lays_21 : decode cL_lays 21 = .ok (.iconst 4, 1) := by decide +kernel
theorem dL_lays_22 : decode cL_lays 22 = .ok (.iload_n 3, 1) := by decide +kernel
theorem dL_lays_23 : decode cL_lays 23 = .ok (.imul, 1) := by decide +kernel
theorem dL_lays_24 : decode cL_lays 24 = .ok (.iadd, 1) := by decide +kernel
theorem dL_lays_25 : decode cL_lays 25 = .ok (.invokestatic 33, 3) := by decide +kernel
theorem dL_lays_28 : decode cL_lays 28 = .ok (.istore_n 2, 1) := by decide +kernel
theorem dL_lays_29 : decode cL_lays 29 = .ok (.iinc 3 1, 3) := by decide +kernel
theorem dL_lays_32 : decode cL_lays 32 = .ok (.goto (-25), 3) := by decide +kernel
theorem dL_lays_35 : decode cL_lays 35 = .ok (.iconst 0, 1) := by decide +kernel
theorem dL_lays_36 : decode cL_lays 36 = .ok (.istore_n 3, 1) := by decide +kernel
theorem dL_lays_37 : decode cL_lays 37 = .ok (.iload_n 3, 1) := by decide +kernel
theorem dL_lays_38 : decode cL_lays 38 = .ok (.aload_n 1, 1) := by decide +kernel
theorem dL_lays_39 : decode cL_lays 39 = .ok (.iconst 1, 1) := by decide +kernel
theorem dL_lays_40 : decode cL_lays 40 = .ok (.iaload, 1) := by decide +kernel
theorem dL_lays_41 : decode cL_lays 41 = .ok (.if_icmp .ge 24, 3) := by decide +kernel
theorem dL_lays_44 : decode cL_lays 44 = .ok (.aload_n 0, 1) := by decide +kernel
theorem dL_lays_45 : decode cL_lays 45 = .ok (.bipush 97, 2) := by decide +kernel
theorem dL_lays_47 : decode cL_lays 47 = .ok (.iconst 4, 1) := by decide +kernel
theorem dL_lays_48 : decode cL_lays 48 = .ok (.aload_n 1, 1) := by decide +kernel
theorem dL_lays_49 : decode cL_lays 49 = .ok (.bipush 22, 2) := by decide +kernel
theorem dL_lays_51 : decode cL_lays 51 = .ok (.iconst 4, 1) := by decide +kernel
theorem dL_lays_52 : decode cL_lays 52 = .ok (.iload_n 3, 1) := by decide +kernel
theorem dL_lays_53 : decode cL_lays 53 = .ok (.imul, 1) := by decide +kernel
theorem dL_lays_54 : decode cL_lays 54 = .ok (.iadd, 1) := by decide +kernel
theorem dL_lays_55 : decode cL_lays 55 = .ok (.invokestatic 33, 3) := by decide +kernel
theorem dL_lays_58 : decode cL_lays 58 = .ok (.istore_n 2, 1) := by decide +kernel
theorem dL_lays_59 : decode cL_lays 59 = .ok (.iinc 3 1, 3) := by decide +kernel
theorem dL_lays_62 : decode cL_lays 62 = .ok (.goto (-25), 3) := by decide +kernel
theorem dL_lays_65 : decode cL_lays 65 = .ok (.iconst 0, 1) := by decide +kernel
theorem dL_lays_66 : decode cL_lays 66 = .ok (.istore_n 3, 1) := by decide +kernel
theorem dL_lays_67 : decode cL_lays 67 = .ok (.iload_n 3, 1) := by decide +kernel
theorem dL_lays_68 : decode cL_lays 68 = .ok (.aload_n 1, 1) := by decide +kernel
theorem dL_lays_69 : decode cL_lays 69 = .ok (.iconst 2, 1) := by decide +kernel
theorem dL_lays_70 : decode cL_lays 70 = .ok (.iaload, 1) := by decide +kernel
theorem dL_lays_71 : decode cL_lays 71 = .ok (.if_icmp .ge 24, 3) := by decide +kernel
theorem dL_lays_74 : decode cL_lays 74 = .ok (.aload_n 0, 1) := by decide +kernel
theorem dL_lays_75 : decode cL_lays 75 = .ok (.bipush 116, 2) := by decide +kernel
theorem dL_lays_77 : decode cL_lays 77 = .ok (.iconst 2, 1) := by decide +kernel
theorem dL_lays_78 : decode cL_lays 78 = .ok (.aload_n 1, 1) := by decide +kernel
theorem dL_lays_79 : decode cL_lays 79 = .ok (.bipush 38, 2) := by decide +kernel
theorem dL_lays_81 : decode cL_lays 81 = .ok (.iconst 2, 1) := by decide +kernel
theorem dL_lays_82 : decode cL_lays 82 = .ok (.iload_n 3, 1) := by decide +kernel
theorem dL_lays_83 : decode cL_lays 83 = .ok (.imul, 1) := by decide +kernel
theorem dL_lays_84 : decode cL_lays 84 = .ok (.iadd, 1) := by decide +kernel
theorem dL_lays_85 : decode cL_lays 85 = .ok (.invokestatic 33, 3) := by decide +kernel
theorem dL_lays_88 : decode cL_lays 88 = .ok (.istore_n 2, 1) := by decide +kernel
theorem dL_lays_89 : decode cL_lays 89 = .ok (.iinc 3 1, 3) := by decide +kernel
theorem dL_lays_92 : decode cL_lays 92 = .ok (.goto (-25), 3) := by decide +kernel
theorem dL_lays_95 : decode cL_lays 95 = .ok (.aload_n 0, 1) := by decide +kernel
theorem dL_lays_96 : decode cL_lays 96 = .ok (.bipush 99, 2) := by decide +kernel
theorem dL_lays_98 : decode cL_lays 98 = .ok (.iconst 1, 1) := by decide +kernel
theorem dL_lays_99 : decode cL_lays 99 = .ok (.aload_n 1, 1) := by decide +kernel
theorem dL_lays_100 : decode cL_lays 100 = .ok (.iconst 3, 1) := by decide +kernel
theorem dL_lays_101 : decode cL_lays 101 = .ok (.invokestatic 33, 3) := by decide +kernel
theorem dL_lays_104 : decode cL_lays 104 = .ok (.aload_n 0, 1) := by decide +kernel
theorem dL_lays_105 : decode cL_lays 105 = .ok (.bipush 112, 2) := by decide +kernel
theorem dL_lays_107 : decode cL_lays 107 = .ok (.iconst 2, 1) := by decide +kernel
theorem dL_lays_108 : decode cL_lays 108 = .ok (.aload_n 1, 1) := by decide +kernel
theorem dL_lays_109 : decode cL_lays 109 = .ok (.iconst 4, 1) := by decide +kernel
theorem dL_lays_110 : decode cL_lays 110 = .ok (.invokestatic 33, 3) := by decide +kernel
theorem dL_lays_113 : decode cL_lays 113 = .ok (.iadd, 1) := by decide +kernel
theorem dL_lays_114 : decode cL_lays 114 = .ok (.istore_n 2, 1) := by decide +kernel
theorem dL_lays_115 : decode cL_lays 115 = .ok (.iload_n 2, 1) := by decide +kernel
theorem dL_lays_116 : decode cL_lays 116 = .ok (.ifCond .le 10, 3) := by decide +kernel
theorem dL_lays_119 : decode cL_lays 119 = .ok (.aload_n 0, 1) := by decide +kernel
theorem dL_lays_120 : decode cL_lays 120 = .ok (.invokevirtual 37, 3) := by decide +kernel
theorem dL_lays_123 : decode cL_lays 123 = .ok (.goto 5, 3) := by decide +kernel
theorem dL_lays_126 : decode cL_lays 126 = .ok (.bipush (-9), 2) := by decide +kernel
theorem dL_lays_128 : decode cL_lays 128 = .ok (.ireturn, 1) := by decide +kernel
theorem dL_people_0 : decode cL_people 0 = .ok (.iconst 0, 1) := by decide +kernel
theorem dL_people_1 : decode cL_people 1 = .ok (.istore_n 1, 1) := by decide +kernel
theorem dL_people_2 : decode cL_people 2 = .ok (.iconst 0, 1) := by decide +kernel
theorem dL_people_3 : decode cL_people 3 = .ok (.istore_n 2, 1) := by decide +kernel
theorem dL_people_4 : decode cL_people 4 = .ok (.iload_n 2, 1) := by decide +kernel
theorem dL_people_5 : decode cL_people 5 = .ok (.aload_n 0, 1) := by decide +kernel
theorem dL_people_6 : decode cL_people 6 = .ok (.iconst 0, 1) := by decide +kernel
theorem dL_people_7 : decode cL_people 7 = .ok (.iaload, 1) := by decide +kernel
theorem dL_people_8 : decode cL_people 8 = .ok (.if_icmp .ge 20, 3) := by decide +kernel
theorem dL_people_11 : decode cL_people 11 = .ok (.iload_n 1, 1) := by decide +kernel
theorem dL_people_12 : decode cL_people 12 = .ok (.aload_n 0, 1) := by decide +kernel
theorem dL_people_13 : decode cL_people 13 = .ok (.bipush 6, 2) := by decide +kernel
theorem dL_people_15 : decode cL_people 15 = .ok (.iconst 4, 1) := by decide +kernel
theorem dL_people_16 : decode cL_people 16 = .ok (.iload_n 2, 1) := by decide +kernel
theorem dL_people_17 : decode cL_people 17 = .ok (.imul, 1) := by decide +kernel
theorem dL_people_18 : decode cL_people 18 = .ok (.iadd, 1) := by decide +kernel
theorem dL_people_19 : decode cL_people 19 = .ok (.iaload, 1) := by decide +kernel
theorem dL_people_20 : decode cL_people 20 = .ok (.iadd, 1) := by decide +kernel
theorem dL_people_21 : decode cL_people 21 = .ok (.istore_n 1, 1) := by decide +kernel
theorem dL_people_22 : decode cL_people 22 = .ok (.iinc 2 1, 3) := by decide +kernel
theorem dL_people_25 : decode cL_people 25 = .ok (.goto (-21), 3) := by decide +kernel
theorem dL_people_28 : decode cL_people 28 = .ok (.iload_n 1, 1) := by decide +kernel
theorem dL_people_29 : decode cL_people 29 = .ok (.ireturn, 1) := by decide +kernel
theorem dL_law_0 : decode cL_law 0 = .ok (.new 10, 3) := by decide +kernel
theorem dL_law_3 : decode cL_law 3 = .ok (.dup, 1) := by decide +kernel
theorem dL_law_4 : decode cL_law 4 = .ok (.invokespecial 62, 3) := by decide +kernel
theorem dL_law_7 : decode cL_law 7 = .ok (.astore_n 1, 1) := by decide +kernel
theorem dL_law_8 : decode cL_law 8 = .ok (.bipush 46, 2) := by decide +kernel
theorem dL_law_10 : decode cL_law 10 = .ok (.newarray .int, 2) := by decide +kernel
theorem dL_law_12 : decode cL_law 12 = .ok (.astore_n 2, 1) := by decide +kernel
theorem dL_law_13 : decode cL_law 13 = .ok (.aload_n 0, 1) := by decide +kernel
theorem dL_law_14 : decode cL_law 14 = .ok (.aload_n 2, 1) := by decide +kernel
theorem dL_law_15 : decode cL_law 15 = .ok (.invokestatic 63, 3) := by decide +kernel
theorem dL_law_18 : decode cL_law 18 = .ok (.aload_n 2, 1) := by decide +kernel
theorem dL_law_19 : decode cL_law 19 = .ok (.invokestatic 67, 3) := by decide +kernel
theorem dL_law_22 : decode cL_law 22 = .ok (.istore_n 3, 1) := by decide +kernel
theorem dL_law_23 : decode cL_law 23 = .ok (.aload_n 1, 1) := by decide +kernel
theorem dL_law_24 : decode cL_law 24 = .ok (.aload_n 2, 1) := by decide +kernel
theorem dL_law_25 : decode cL_law 25 = .ok (.invokestatic 71, 3) := by decide +kernel
theorem dL_law_28 : decode cL_law 28 = .ok (.iload_n 3, 1) := by decide +kernel
theorem dL_law_29 : decode cL_law 29 = .ok (.if_icmp .eq 5, 3) := by decide +kernel
theorem dL_law_32 : decode cL_law 32 = .ok (.iconst 0, 1) := by decide +kernel
theorem dL_law_33 : decode cL_law 33 = .ok (.ireturn, 1) := by decide +kernel
theorem dL_law_34 : decode cL_law 34 = .ok (.iconst 0, 1) := by decide +kernel
theorem dL_law_35 : decode cL_law 35 = .ok (.istore 4, 2) := by decide +kernel
theorem dL_law_37 : decode cL_law 37 = .ok (.iload 4, 2) := by decide +kernel
theorem dL_law_39 : decode cL_law 39 = .ok (.aload_n 2, 1) := by decide +kernel
theorem dL_law_40 : decode cL_law 40 = .ok (.iconst 0, 1) := by decide +kernel
theorem dL_law_41 : decode cL_law 41 = .ok (.iaload, 1) := by decide +kernel
theorem dL_law_42 : decode cL_law 42 = .ok (.if_icmp .ge 262, 3) := by decide +kernel
theorem dL_law_45 : decode cL_law 45 = .ok (.iconst 0, 1) := by decide +kernel
theorem dL_law_46 : decode cL_law 46 = .ok (.istore 5, 2) := by decide +kernel
theorem dL_law_48 : decode cL_law 48 = .ok (.iload 5, 2) := by decide +kernel
theorem dL_law_50 : decode cL_law 50 = .ok (.aload_n 2, 1) := by decide +kernel
theorem dL_law_51 : decode cL_law 51 = .ok (.iconst 1, 1) := by decide +kernel
theorem dL_law_52 : decode cL_law 52 = .ok (.iaload, 1) := by decide +kernel
theorem dL_law_53 : decode cL_law 53 = .ok (.if_icmp .ge 245, 3) := by decide +kernel
theorem dL_law_56 : decode cL_law 56 = .ok (.aload_n 1, 1) := by decide +kernel
theorem dL_law_57 : decode cL_law 57 = .ok (.iload 4, 2) := by decide +kernel
theorem dL_law_59 : decode cL_law 59 = .ok (.iload 5, 2) := by decide +kernel
theorem dL_law_61 : decode cL_law 61 = .ok (.iconst 0, 1) := by decide +kernel
theorem dL_law_62 : decode cL_law 62 = .ok (.iconst 0, 1) := by decide +kernel
theorem dL_law_63 : decode cL_law 63 = .ok (.invokevirtual 75, 3) := by decide +kernel
theorem dL_law_66 : decode cL_law 66 = .ok (.aload_n 1, 1) := by decide +kernel
theorem dL_law_67 : decode cL_law 67 = .ok (.iload 4, 2) := by decide +kernel
theorem dL_law_69 : decode cL_law 69 = .ok (.iload 5, 2) := by decide +kernel
theorem dL_law_71 : decode cL_law 71 = .ok (.iconst 1, 1) := by decide +kernel
theorem dL_law_72 : decode cL_law 72 = .ok (.iconst 0, 1) := by decide +kernel
theorem dL_law_73 : decode cL_law 73 = .ok (.invokevirtual 75, 3) := by decide +kernel
theorem dL_law_76 : decode cL_law 76 = .ok (.if_icmp .lt 214, 3) := by decide +kernel
theorem dL_law_79 : decode cL_law 79 = .ok (.aload_n 1, 1) := by decide +kernel
theorem dL_law_80 : decode cL_law 80 = .ok (.iload 4, 2) := by decide +kernel
theorem dL_law_82 : decode cL_law 82 = .ok (.iload 5, 2) := by decide +kernel
theorem dL_law_84 : decode cL_law 84 = .ok (.iconst 0, 1) := by decide +kernel
theorem dL_law_85 : decode cL_law 85 = .ok (.iconst 0, 1) := by decide +kernel
theorem dL_law_86 : decode cL_law 86 = .ok (.invokevirtual 75, 3) := by decide +kernel
theorem dL_law_89 : decode cL_law 89 = .ok (.aload_n 1, 1) := by decide +kernel
theorem dL_law_90 : decode cL_law 90 = .ok (.iload 4, 2) := by decide +kernel
theorem dL_law_92 : decode cL_law 92 = .ok (.iload 5, 2) := by decide +kernel
theorem dL_law_94 : decode cL_law 94 = .ok (.iconst 3, 1) := by decide +kernel
theorem dL_law_95 : decode cL_law 95 = .ok (.iconst 0, 1) := by decide +kernel
theorem dL_law_96 : decode cL_law 96 = .ok (.invokevirtual 75, 3) := by decide +kernel
theorem dL_law_99 : decode cL_law 99 = .ok (.if_icmp .ne 191, 3) := by decide +kernel
theorem dL_law_102 : decode cL_law 102 = .ok (.aload_n 1, 1) := by decide +kernel
theorem dL_law_103 : decode cL_law 103 = .ok (.iload 4, 2) := by decide +kernel
theorem dL_law_105 : decode cL_law 105 = .ok (.iload 5, 2) := by decide +kernel
theorem dL_law_107 : decode cL_law 107 = .ok (.iconst 2, 1) := by decide +kernel
theorem dL_law_108 : decode cL_law 108 = .ok (.iconst 0, 1) := by decide +kernel
theorem dL_law_109 : decode cL_law 109 = .ok (.invokevirtual 75, 3) := by decide +kernel
theorem dL_law_112 : decode cL_law 112 = .ok (.ifCond .ne 178, 3) := by decide +kernel
theorem dL_law_115 : decode cL_law 115 = .ok (.aload_n 1, 1) := by decide +kernel
theorem dL_law_116 : decode cL_law 116 = .ok (.iload 4, 2) := by decide +kernel
theorem dL_law_118 : decode cL_law 118 = .ok (.iload 5, 2) := by decide +kernel
theorem dL_law_120 : decode cL_law 120 = .ok (.iconst 3, 1) := by decide +kernel
theorem dL_law_121 : decode cL_law 121 = .ok (.iconst 1, 1) := by decide +kernel
theorem dL_law_122 : decode cL_law 122 = .ok (.invokevirtual 75, 3) := by decide +kernel
theorem dL_law_125 : decode cL_law 125 = .ok (.ifCond .ne 165, 3) := by decide +kernel
theorem dL_law_128 : decode cL_law 128 = .ok (.aload_n 1, 1) := by decide +kernel
theorem dL_law_129 : decode cL_law 129 = .ok (.iload 4, 2) := by decide +kernel
theorem dL_law_131 : decode cL_law 131 = .ok (.iload 5, 2) := by decide +kernel
theorem dL_law_133 : decode cL_law 133 = .ok (.iconst 0, 1) := by decide +kernel
theorem dL_law_134 : decode cL_law 134 = .ok (.iconst 1, 1) := by decide +kernel
theorem dL_law_135 : decode cL_law 135 = .ok (.invokevirtual 75, 3) := by decide +kernel
theorem dL_law_138 : decode cL_law 138 = .ok (.aload_n 1, 1) := by decide +kernel
theorem dL_law_139 : decode cL_law 139 = .ok (.iload 4, 2) := by decide +kernel
theorem dL_law_141 : decode cL_law 141 = .ok (.iload 5, 2) := by decide +kernel
theorem dL_law_143 : decode cL_law 143 = .ok (.iconst 1, 1) := by decide +kernel
theorem dL_law_144 : decode cL_law 144 = .ok (.iconst 1, 1) := by decide +kernel
theorem dL_law_145 : decode cL_law 145 = .ok (.invokevirtual 75, 3) := by decide +kernel
theorem dL_law_148 : decode cL_law 148 = .ok (.if_icmp .lt 142, 3) := by decide +kernel
theorem dL_law_151 : decode cL_law 151 = .ok (.aload_n 1, 1) := by decide +kernel
theorem dL_law_152 : decode cL_law 152 = .ok (.iload 4, 2) := by decide +kernel
theorem dL_law_154 : decode cL_law 154 = .ok (.iload 5, 2) := by decide +kernel
theorem dL_law_156 : decode cL_law 156 = .ok (.iconst 3, 1) := by decide +kernel
theorem dL_law_157 : decode cL_law 157 = .ok (.iconst 2, 1) := by decide +kernel
theorem dL_law_158 : decode cL_law 158 = .ok (.invokevirtual 75, 3) := by decide +kernel
theorem dL_law_161 : decode cL_law 161 = .ok (.bipush 10, 2) := by decide +kernel
theorem dL_law_163 : decode cL_law 163 = .ok (.aload_n 1, 1) := by decide +kernel
theorem dL_law_164 : decode cL_law 164 = .ok (.iload 4, 2) := by decide +kernel
theorem dL_law_166 : decode cL_law 166 = .ok (.iload 5, 2) := by decide +kernel
theorem dL_law_168 : decode cL_law 168 = .ok (.iconst 3, 1) := by decide +kernel
theorem dL_law_169 : decode cL_law 169 = .ok (.iconst 0, 1) := by decide +kernel
theorem dL_law_170 : decode cL_law 170 = .ok (.invokevirtual 75, 3) := by decide +kernel
theorem dL_law_173 : decode cL_law 173 = .ok (.imul, 1) := by decide +kernel
theorem dL_law_174 : decode cL_law 174 = .ok (.if_icmp .ne 116, 3) := by decide +kernel
theorem dL_law_177 : decode cL_law 177 = .ok (.aload_n 1, 1) := by decide +kernel
theorem dL_law_178 : decode cL_law 178 = .ok (.iload 4, 2) := by decide +kernel
theorem dL_law_180 : decode cL_law 180 = .ok (.iload 5, 2) := by decide +kernel
theorem dL_law_182 : decode cL_law 182 = .ok (.iconst 0, 1) := by decide +kernel
theorem dL_law_183 : decode cL_law 183 = .ok (.iconst 2, 1) := by decide +kernel
theorem dL_law_184 : decode cL_law 184 = .ok (.invokevirtual 75, 3) := by decide +kernel
theorem dL_law_187 : decode cL_law 187 = .ok (.aload_n 1, 1) := by decide +kernel
theorem dL_law_188 : decode cL_law 188 = .ok (.iload 4, 2) := by decide +kernel
theorem dL_law_190 : decode cL_law 190 = .ok (.iload 5, 2) := by decide +kernel
theorem dL_law_192 : decode cL_law 192 = .ok (.iconst 1, 1) := by decide +kernel
theorem dL_law_193 : decode cL_law 193 = .ok (.iconst 2, 1) := by decide +kernel
theorem dL_law_194 : decode cL_law 194 = .ok (.invokevirtual 75, 3) := by decide +kernel
theorem dL_law_197 : decode cL_law 197 = .ok (.if_icmp .lt 93, 3) := by decide +kernel
theorem dL_law_200 : decode cL_law 200 = .ok (.aload_n 1, 1) := by decide +kernel
theorem dL_law_201 : decode cL_law 201 = .ok (.iload 4, 2) := by decide +kernel
theorem dL_law_203 : decode cL_law 203 = .ok (.iload 5, 2) := by decide +kernel
theorem dL_law_205 : decode cL_law 205 = .ok (.iconst 0, 1) := by decide +kernel
theorem dL_law_206 : decode cL_law 206 = .ok (.iconst 2, 1) := by decide +kernel
theorem dL_law_207 : decode cL_law 207 = .ok (.invokevirtual 75, 3) := by decide +kernel
theorem dL_law_210 : decode cL_law 210 = .ok (.bipush 100, 2) := by decide +kernel
theorem dL_law_212 : decode cL_law 212 = .ok (.if_icmp .gt 78, 3) := by decide +kernel
theorem dL_law_215 : decode cL_law 215 = .ok (.aload_n 1, 1) := by decide +kernel
theorem dL_law_216 : decode cL_law 216 = .ok (.iload 4, 2) := by decide +kernel
theorem dL_law_218 : decode cL_law 218 = .ok (.iload 5, 2) := by decide +kernel
theorem dL_law_220 : decode cL_law 220 = .ok (.iconst 0, 1) := by decide +kernel
theorem dL_law_221 : decode cL_law 221 = .ok (.invokevirtual 78, 3) := by decide +kernel
theorem dL_law_224 : decode cL_law 224 = .ok (.aload_n 2, 1) := by decide +kernel
theorem dL_law_225 : decode cL_law 225 = .ok (.iconst 4, 1) := by decide +kernel
theorem dL_law_226 : decode cL_law 226 = .ok (.iaload, 1) := by decide +kernel
theorem dL_law_227 : decode cL_law 227 = .ok (.iconst 2, 1) := by decide +kernel
theorem dL_law_228 : decode cL_law 228 = .ok (.idiv, 1) := by decide +kernel
theorem dL_law_229 : decode cL_law 229 = .ok (.if_icmp .gt 61, 3) := by decide +kernel
theorem dL_law_232 : decode cL_law 232 = .ok (.aload_n 1, 1) := by decide +kernel
theorem dL_law_233 : decode cL_law 233 = .ok (.iload 5, 2) := by decide +kernel
theorem dL_law_235 : decode cL_law 235 = .ok (.iconst 0, 1) := by decide +kernel
theorem dL_law_236 : decode cL_law 236 = .ok (.invokevirtual 82, 3) := by decide +kernel
theorem dL_law_239 : decode cL_law 239 = .ok (.bipush 100, 2) := by decide +kernel
theorem dL_law_241 : decode cL_law 241 = .ok (.if_icmp .lt 49, 3) := by decide +kernel
theorem dL_law_244 : decode cL_law 244 = .ok (.aload_n 1, 1) := by decide +kernel
theorem dL_law_245 : decode cL_law 245 = .ok (.iload 5, 2) := by decide +kernel
theorem dL_law_247 : decode cL_law 247 = .ok (.invokevirtual 85, 3) := by decide +kernel
theorem dL_law_250 : decode cL_law 250 = .ok (.sipush 1000, 3) := by decide +kernel
theorem dL_law_253 : decode cL_law 253 = .ok (.if_icmp .lt 37, 3) := by decide +kernel
theorem dL_law_256 : decode cL_law 256 = .ok (.aload_n 1, 1) := by decide +kernel
theorem dL_law_257 : decode cL_law 257 = .ok (.iload 5, 2) := by decide +kernel
theorem dL_law_259 : decode cL_law 259 = .ok (.iconst 0, 1) := by decide +kernel
theorem dL_law_260 : decode cL_law 260 = .ok (.invokevirtual 82, 3) := by decide +kernel
theorem dL_law_263 : decode cL_law 263 = .ok (.bipush 100, 2) := by decide +kernel
theorem dL_law_265 : decode cL_law 265 = .ok (.isub, 1) := by decide +kernel
theorem dL_law_266 : decode cL_law 266 = .ok (.aload_n 1, 1) := by decide +kernel
theorem dL_law_267 : decode cL_law 267 = .ok (.iload 4, 2) := by decide +kernel
theorem dL_law_269 : decode cL_law 269 = .ok (.iload 5, 2) := by decide +kernel
theorem dL_law_271 : decode cL_law 271 = .ok (.iconst 0, 1) := by decide +kernel
theorem dL_law_272 : decode cL_law 272 = .ok (.iconst 2, 1) := by decide +kernel
theorem dL_law_273 : decode cL_law 273 = .ok (.invokevirtual 75, 3) := by decide +kernel
theorem dL_law_276 : decode cL_law 276 = .ok (.aload_n 1, 1) := by decide +kernel
theorem dL_law_277 : decode cL_law 277 = .ok (.iload 4, 2) := by decide +kernel
theorem dL_law_279 : decode cL_law 279 = .ok (.iload 5, 2) := by decide +kernel
theorem dL_law_281 : decode cL_law 281 = .ok (.iconst 1, 1) := by decide +kernel
theorem dL_law_282 : decode cL_law 282 = .ok (.iconst 2, 1) := by decide +kernel
theorem dL_law_283 : decode cL_law 283 = .ok (.invokevirtual 75, 3) := by decide +kernel
theorem dL_law_286 : decode cL_law 286 = .ok (.isub, 1) := by decide +kernel
theorem dL_law_287 : decode cL_law 287 = .ok (.if_icmp .ge 5, 3) := by decide +kernel
theorem dL_law_290 : decode cL_law 290 = .ok (.iconst 0, 1) := by decide +kernel
theorem dL_law_291 : decode cL_law 291 = .ok (.ireturn, 1) := by decide +kernel
theorem dL_law_292 : decode cL_law 292 = .ok (.iinc 5 1, 3) := by decide +kernel
theorem dL_law_295 : decode cL_law 295 = .ok (.goto (-247), 3) := by decide +kernel
theorem dL_law_298 : decode cL_law 298 = .ok (.iinc 4 1, 3) := by decide +kernel
theorem dL_law_301 : decode cL_law 301 = .ok (.goto (-264), 3) := by decide +kernel
theorem dL_law_304 : decode cL_law 304 = .ok (.bipush 10, 2) := by decide +kernel
theorem dL_law_306 : decode cL_law 306 = .ok (.istore 4, 2) := by decide +kernel
theorem dL_law_308 : decode cL_law 308 = .ok (.iconst 0, 1) := by decide +kernel
theorem dL_law_309 : decode cL_law 309 = .ok (.istore 5, 2) := by decide +kernel
theorem dL_law_311 : decode cL_law 311 = .ok (.iconst 0, 1) := by decide +kernel
theorem dL_law_312 : decode cL_law 312 = .ok (.istore 6, 2) := by decide +kernel
theorem dL_law_314 : decode cL_law 314 = .ok (.iload 6, 2) := by decide +kernel
theorem dL_law_316 : decode cL_law 316 = .ok (.aload_n 2, 1) := by decide +kernel
theorem dL_law_317 : decode cL_law 317 = .ok (.iconst 0, 1) := by decide +kernel
theorem dL_law_318 : decode cL_law 318 = .ok (.iaload, 1) := by decide +kernel
theorem dL_law_319 : decode cL_law 319 = .ok (.if_icmp .ge 69, 3) := by decide +kernel
theorem dL_law_322 : decode cL_law 322 = .ok (.aload_n 2, 1) := by decide +kernel
theorem dL_law_323 : decode cL_law 323 = .ok (.bipush 7, 2) := by decide +kernel
theorem dL_law_325 : decode cL_law 325 = .ok (.iconst 4, 1) := by decide +kernel
theorem dL_law_326 : decode cL_law 326 = .ok (.iload 6, 2) := by decide +kernel
theorem dL_law_328 : decode cL_law 328 = .ok (.imul, 1) := by decide +kernel
theorem dL_law_329 : decode cL_law 329 = .ok (.iadd, 1) := by decide +kernel
theorem dL_law_330 : decode cL_law 330 = .ok (.iaload, 1) := by decide +kernel
theorem dL_law_331 : decode cL_law 331 = .ok (.iload 4, 2) := by decide +kernel
theorem dL_law_333 : decode cL_law 333 = .ok (.if_icmp .ge 15, 3) := by decide +kernel
theorem dL_law_336 : decode cL_law 336 = .ok (.aload_n 2, 1) := by decide +kernel
theorem dL_law_337 : decode cL_law 337 = .ok (.bipush 7, 2) := by decide +kernel
theorem dL_law_339 : decode cL_law 339 = .ok (.iconst 4, 1) := by decide +kernel
theorem dL_law_340 : decode cL_law 340 = .ok (.iload 6, 2) := by decide +kernel
theorem dL_law_342 : decode cL_law 342 = .ok (.imul, 1) := by decide +kernel
theorem dL_law_343 : decode cL_law 343 = .ok (.iadd, 1) := by decide +kernel
theorem dL_law_344 : decode cL_law 344 = .ok (.iaload, 1) := by decide +kernel
theorem dL_law_345 : decode cL_law 345 = .ok (.goto 5, 3) := by decide +kernel
theorem dL_law_348 : decode cL_law 348 = .ok (.iload 4, 2) := by decide +kernel
theorem dL_law_350 : decode cL_law 350 = .ok (.istore 4, 2) := by decide +kernel
theorem dL_law_352 : decode cL_law 352 = .ok (.aload_n 2, 1) := by decide +kernel
theorem dL_law_353 : decode cL_law 353 = .ok (.bipush 7, 2) := by decide +kernel
theorem dL_law_355 : decode cL_law 355 = .ok (.iconst 4, 1) := by decide +kernel
theorem dL_law_356 : decode cL_law 356 = .ok (.iload 6, 2) := by decide +kernel
theorem dL_law_358 : decode cL_law 358 = .ok (.imul, 1) := by decide +kernel
theorem dL_law_359 : decode cL_law 359 = .ok (.iadd, 1) := by decide +kernel
theorem dL_law_360 : decode cL_law 360 = .ok (.iaload, 1) := by decide +kernel
theorem dL_law_361 : decode cL_law 361 = .ok (.iload 5, 2) := by decide +kernel
theorem dL_law_363 : decode cL_law 363 = .ok (.if_icmp .le 15, 3) := by decide +kernel
theorem dL_law_366 : decode cL_law 366 = .ok (.aload_n 2, 1) := by decide +kernel
theorem dL_law_367 : decode cL_law 367 = .ok (.bipush 7, 2) := by decide +kernel
theorem dL_law_369 : decode cL_law 369 = .ok (.iconst 4, 1) := by decide +kernel
theorem dL_law_370 : decode cL_law 370 = .ok (.iload 6, 2) := by decide +kernel
theorem dL_law_372 : decode cL_law 372 = .ok (.imul, 1) := by decide +kernel
theorem dL_law_373 : decode cL_law 373 = .ok (.iadd, 1) := by decide +kernel
theorem dL_law_374 : decode cL_law 374 = .ok (.iaload, 1) := by decide +kernel
theorem dL_law_375 : decode cL_law 375 = .ok (.goto 5, 3) := by decide +kernel
theorem dL_law_378 : decode cL_law 378 = .ok (.iload 5, 2) := by decide +kernel
theorem dL_law_380 : decode cL_law 380 = .ok (.istore 5, 2) := by decide +kernel
theorem dL_law_382 : decode cL_law 382 = .ok (.iinc 6 1, 3) := by decide +kernel
theorem dL_law_385 : decode cL_law 385 = .ok (.goto (-71), 3) := by decide +kernel
theorem dL_law_388 : decode cL_law 388 = .ok (.aload_n 1, 1) := by decide +kernel
theorem dL_law_389 : decode cL_law 389 = .ok (.iconst 0, 1) := by decide +kernel
theorem dL_law_390 : decode cL_law 390 = .ok (.invokevirtual 88, 3) := by decide +kernel
theorem dL_law_393 : decode cL_law 393 = .ok (.sipush 1000, 3) := by decide +kernel
theorem dL_law_396 : decode cL_law 396 = .ok (.iload 4, 2) := by decide +kernel
theorem dL_law_398 : decode cL_law 398 = .ok (.imul, 1) := by decide +kernel
theorem dL_law_399 : decode cL_law 399 = .ok (.if_icmp .lt 27, 3) := by decide +kernel
theorem dL_law_402 : decode cL_law 402 = .ok (.aload_n 1, 1) := by decide +kernel
theorem dL_law_403 : decode cL_law 403 = .ok (.iconst 0, 1) := by decide +kernel
theorem dL_law_404 : decode cL_law 404 = .ok (.invokevirtual 88, 3) := by decide +kernel
theorem dL_law_407 : decode cL_law 407 = .ok (.sipush 1000, 3) := by decide +kernel
theorem dL_law_410 : decode cL_law 410 = .ok (.iload 5, 2) := by decide +kernel
theorem dL_law_412 : decode cL_law 412 = .ok (.imul, 1) := by decide +kernel
theorem dL_law_413 : decode cL_law 413 = .ok (.if_icmp .gt 13, 3) := by decide +kernel
theorem dL_law_416 : decode cL_law 416 = .ok (.aload_n 1, 1) := by decide +kernel
theorem dL_law_417 : decode cL_law 417 = .ok (.invokevirtual 91, 3) := by decide +kernel
theorem dL_law_420 : decode cL_law 420 = .ok (.aload_n 2, 1) := by decide +kernel
theorem dL_law_421 : decode cL_law 421 = .ok (.iconst 2, 1) := by decide +kernel
theorem dL_law_422 : decode cL_law 422 = .ok (.iaload, 1) := by decide +kernel
theorem dL_law_423 : decode cL_law 423 = .ok (.if_icmp .eq 5, 3) := by decide +kernel
theorem dL_law_426 : decode cL_law 426 = .ok (.iconst 0, 1) := by decide +kernel
theorem dL_law_427 : decode cL_law 427 = .ok (.ireturn, 1) := by decide +kernel
theorem dL_law_428 : decode cL_law 428 = .ok (.aload_n 1, 1) := by decide +kernel
theorem dL_law_429 : decode cL_law 429 = .ok (.iconst (-1), 1) := by decide +kernel
theorem dL_law_430 : decode cL_law 430 = .ok (.invokevirtual 94, 3) := by decide +kernel
theorem dL_law_433 : decode cL_law 433 = .ok (.istore 6, 2) := by decide +kernel
theorem dL_law_435 : decode cL_law 435 = .ok (.iconst 0, 1) := by decide +kernel
theorem dL_law_436 : decode cL_law 436 = .ok (.istore 7, 2) := by decide +kernel
theorem dL_law_438 : decode cL_law 438 = .ok (.iload 7, 2) := by decide +kernel
theorem dL_law_440 : decode cL_law 440 = .ok (.aload_n 2, 1) := by decide +kernel
theorem dL_law_441 : decode cL_law 441 = .ok (.iconst 2, 1) := by decide +kernel
theorem dL_law_442 : decode cL_law 442 = .ok (.iaload, 1) := by decide +kernel
theorem dL_law_443 : decode cL_law 443 = .ok (.if_icmp .ge 115, 3) := by decide +kernel
theorem dL_law_446 : decode cL_law 446 = .ok (.aload_n 1, 1) := by decide +kernel
theorem dL_law_447 : decode cL_law 447 = .ok (.aload_n 2, 1) := by decide +kernel
theorem dL_law_448 : decode cL_law 448 = .ok (.bipush 38, 2) := by decide +kernel
theorem dL_law_450 : decode cL_law 450 = .ok (.iconst 2, 1) := by decide +kernel
theorem dL_law_451 : decode cL_law 451 = .ok (.iload 7, 2) := by decide +kernel
theorem dL_law_453 : decode cL_law 453 = .ok (.imul, 1) := by decide +kernel
theorem dL_law_454 : decode cL_law 454 = .ok (.iadd, 1) := by decide +kernel
theorem dL_law_455 : decode cL_law 455 = .ok (.iaload, 1) := by decide +kernel
theorem dL_law_456 : decode cL_law 456 = .ok (.aload_n 2, 1) := by decide +kernel
theorem dL_law_457 : decode cL_law 457 = .ok (.bipush 39, 2) := by decide +kernel
theorem dL_law_459 : decode cL_law 459 = .ok (.iconst 2, 1) := by decide +kernel
theorem dL_law_460 : decode cL_law 460 = .ok (.iload 7, 2) := by decide +kernel
theorem dL_law_462 : decode cL_law 462 = .ok (.imul, 1) := by decide +kernel
theorem dL_law_463 : decode cL_law 463 = .ok (.iadd, 1) := by decide +kernel
theorem dL_law_464 : decode cL_law 464 = .ok (.iaload, 1) := by decide +kernel
theorem dL_law_465 : decode cL_law 465 = .ok (.invokevirtual 96, 3) := by decide +kernel
theorem dL_law_468 : decode cL_law 468 = .ok (.iload 7, 2) := by decide +kernel
theorem dL_law_470 : decode cL_law 470 = .ok (.iconst 1, 1) := by decide +kernel
theorem dL_law_471 : decode cL_law 471 = .ok (.iadd, 1) := by decide +kernel
theorem dL_law_472 : decode cL_law 472 = .ok (.if_icmp .ne 13, 3) := by decide +kernel
theorem dL_law_475 : decode cL_law 475 = .ok (.aload_n 1, 1) := by decide +kernel
theorem dL_law_476 : decode cL_law 476 = .ok (.iconst (-1), 1) := by decide +kernel
theorem dL_law_477 : decode cL_law 477 = .ok (.invokevirtual 94, 3) := by decide +kernel
theorem dL_law_480 : decode cL_law 480 = .ok (.iload 6, 2) := by decide +kernel
theorem dL_law_482 : decode cL_law 482 = .ok (.if_icmp .le 5, 3) := by decide +kernel
theorem dL_law_485 : decode cL_law 485 = .ok (.iconst 0, 1) := by decide +kernel
theorem dL_law_486 : decode cL_law 486 = .ok (.ireturn, 1) := by decide +kernel
theorem dL_law_487 : decode cL_law 487 = .ok (.aload_n 1, 1) := by decide +kernel
theorem dL_law_488 : decode cL_law 488 = .ok (.iconst (-1), 1) := by decide +kernel
theorem dL_law_489 : decode cL_law 489 = .ok (.invokevirtual 94, 3) := by decide +kernel
theorem dL_law_492 : decode cL_law 492 = .ok (.istore 6, 2) := by decide +kernel
theorem dL_law_494 : decode cL_law 494 = .ok (.iload 6, 2) := by decide +kernel
theorem dL_law_496 : decode cL_law 496 = .ok (.ifCond .le 34, 3) := by decide +kernel
theorem dL_law_499 : decode cL_law 499 = .ok (.aload_n 1, 1) := by decide +kernel
theorem dL_law_500 : decode cL_law 500 = .ok (.iconst 1, 1) := by decide +kernel
theorem dL_law_501 : decode cL_law 501 = .ok (.invokevirtual 88, 3) := by decide +kernel
theorem dL_law_504 : decode cL_law 504 = .ok (.sipush 1000, 3) := by decide +kernel
theorem dL_law_507 : decode cL_law 507 = .ok (.iload 4, 2) := by decide +kernel
theorem dL_law_509 : decode cL_law 509 = .ok (.imul, 1) := by decide +kernel
theorem dL_law_510 : decode cL_law 510 = .ok (.if_icmp .lt 40, 3) := by decide +kernel
theorem dL_law_513 : decode cL_law 513 = .ok (.aload_n 1, 1) := by decide +kernel
theorem dL_law_514 : decode cL_law 514 = .ok (.iconst 1, 1) := by decide +kernel
theorem dL_law_515 : decode cL_law 515 = .ok (.invokevirtual 88, 3) := by decide +kernel
theorem dL_law_518 : decode cL_law 518 = .ok (.sipush 1000, 3) := by decide +kernel
theorem dL_law_521 : decode cL_law 521 = .ok (.iload 5, 2) := by decide +kernel
theorem dL_law_523 : decode cL_law 523 = .ok (.imul, 1) := by decide +kernel
theorem dL_law_524 : decode cL_law 524 = .ok (.if_icmp .le 28, 3) := by decide +kernel
theorem dL_law_527 : decode cL_law 527 = .ok (.goto 23, 3) := by decide +kernel
theorem dL_law_530 : decode cL_law 530 = .ok (.aload_n 1, 1) := by decide +kernel
theorem dL_law_531 : decode cL_law 531 = .ok (.iconst 1, 1) := by decide +kernel
theorem dL_law_532 : decode cL_law 532 = .ok (.invokevirtual 88, 3) := by decide +kernel
theorem dL_law_535 : decode cL_law 535 = .ok (.bipush (-4), 2) := by decide +kernel
theorem dL_law_537 : decode cL_law 537 = .ok (.if_icmp .ne 13, 3) := by decide +kernel
theorem dL_law_540 : decode cL_law 540 = .ok (.aload_n 1, 1) := by decide +kernel
theorem dL_law_541 : decode cL_law 541 = .ok (.iconst 0, 1) := by decide +kernel
theorem dL_law_542 : decode cL_law 542 = .ok (.invokevirtual 99, 3) := by decide +kernel
theorem dL_law_545 : decode cL_law 545 = .ok (.bipush (-4), 2) := by decide +kernel
theorem dL_law_547 : decode cL_law 547 = .ok (.if_icmp .eq 5, 3) := by decide +kernel
theorem dL_law_550 : decode cL_law 550 = .ok (.iconst 0, 1) := by decide +kernel
theorem dL_law_551 : decode cL_law 551 = .ok (.ireturn, 1) := by decide +kernel
theorem dL_law_552 : decode cL_law 552 = .ok (.iinc 7 1, 3) := by decide +kernel
theorem dL_law_555 : decode cL_law 555 = .ok (.goto (-117), 3) := by decide +kernel
theorem dL_law_558 : decode cL_law 558 = .ok (.aload_n 0, 1) := by decide +kernel
theorem dL_law_559 : decode cL_law 559 = .ok (.bipush 14, 2) := by decide +kernel
theorem dL_law_561 : decode cL_law 561 = .ok (.invokestatic 19, 3) := by decide +kernel
theorem dL_law_564 : decode cL_law 564 = .ok (.bipush 13, 2) := by decide +kernel
theorem dL_law_566 : decode cL_law 566 = .ok (.invokestatic 25, 3) := by decide +kernel
theorem dL_law_569 : decode cL_law 569 = .ok (.istore 7, 2) := by decide +kernel
theorem dL_law_571 : decode cL_law 571 = .ok (.aload_n 2, 1) := by decide +kernel
theorem dL_law_572 : decode cL_law 572 = .ok (.iconst 2, 1) := by decide +kernel
theorem dL_law_573 : decode cL_law 573 = .ok (.iaload, 1) := by decide +kernel
theorem dL_law_574 : decode cL_law 574 = .ok (.ifCond .le 74, 3) := by decide +kernel
theorem dL_law_577 : decode cL_law 577 = .ok (.aload_n 2, 1) := by decide +kernel
theorem dL_law_578 : decode cL_law 578 = .ok (.iconst 2, 1) := by decide +kernel
theorem dL_law_579 : decode cL_law 579 = .ok (.iaload, 1) := by decide +kernel
theorem dL_law_580 : decode cL_law 580 = .ok (.iconst 3, 1) := by decide +kernel
theorem dL_law_581 : decode cL_law 581 = .ok (.if_icmp .ge 67, 3) := by decide +kernel
theorem dL_law_584 : decode cL_law 584 = .ok (.iconst 0, 1) := by decide +kernel
theorem dL_law_585 : decode cL_law 585 = .ok (.istore 8, 2) := by decide +kernel
theorem dL_law_587 : decode cL_law 587 = .ok (.iconst 0, 1) := by decide +kernel
theorem dL_law_588 : decode cL_law 588 = .ok (.istore 9, 2) := by decide +kernel
theorem dL_law_590 : decode cL_law 590 = .ok (.iload 9, 2) := by decide +kernel
theorem dL_law_592 : decode cL_law 592 = .ok (.aload_n 2, 1) := by decide +kernel
theorem dL_law_593 : decode cL_law 593 = .ok (.iconst 2, 1) := by decide +kernel
theorem dL_law_594 : decode cL_law 594 = .ok (.iaload, 1) := by decide +kernel
theorem dL_law_595 : decode cL_law 595 = .ok (.if_icmp .ge 30, 3) := by decide +kernel
theorem dL_law_598 : decode cL_law 598 = .ok (.iload 8, 2) := by decide +kernel
theorem dL_law_600 : decode cL_law 600 = .ok (.aload_n 2, 1) := by decide +kernel
theorem dL_law_601 : decode cL_law 601 = .ok (.bipush 25, 2) := by decide +kernel
theorem dL_law_603 : decode cL_law 603 = .ok (.iconst 4, 1) := by decide +kernel
theorem dL_law_604 : decode cL_law 604 = .ok (.aload_n 2, 1) := by decide +kernel
theorem dL_law_605 : decode cL_law 605 = .ok (.bipush 38, 2) := by decide +kernel
theorem dL_law_607 : decode cL_law 607 = .ok (.iconst 2, 1) := by decide +kernel
theorem dL_law_608 : decode cL_law 608 = .ok (.iload 9, 2) := by decide +kernel
theorem dL_law_610 : decode cL_law 610 = .ok (.imul, 1) := by decide +kernel
theorem dL_law_611 : decode cL_law 611 = .ok (.iadd, 1) := by decide +kernel
theorem dL_law_612 : decode cL_law 612 = .ok (.iaload, 1) := by decide +kernel
theorem dL_law_613 : decode cL_law 613 = .ok (.imul, 1) := by decide +kernel
theorem dL_law_614 : decode cL_law 614 = .ok (.iadd, 1) := by decide +kernel
theorem dL_law_615 : decode cL_law 615 = .ok (.iaload, 1) := by decide +kernel
theorem dL_law_616 : decode cL_law 616 = .ok (.iadd, 1) := by decide +kernel
theorem dL_law_617 : decode cL_law 617 = .ok (.istore 8, 2) := by decide +kernel
theorem dL_law_619 : decode cL_law 619 = .ok (.iinc 9 1, 3) := by decide +kernel
theorem dL_law_622 : decode cL_law 622 = .ok (.goto (-32), 3) := by decide +kernel
theorem dL_law_625 : decode cL_law 625 = .ok (.aload_n 1, 1) := by decide +kernel
theorem dL_law_626 : decode cL_law 626 = .ok (.aload_n 2, 1) := by decide +kernel
theorem dL_law_627 : decode cL_law 627 = .ok (.iconst 2, 1) := by decide +kernel
theorem dL_law_628 : decode cL_law 628 = .ok (.iaload, 1) := by decide +kernel
theorem dL_law_629 : decode cL_law 629 = .ok (.iload 8, 2) := by decide +kernel
theorem dL_law_631 : decode cL_law 631 = .ok (.iload 7, 2) := by decide +kernel
theorem dL_law_633 : decode cL_law 633 = .ok (.iconst (-1), 1) := by decide +kernel
theorem dL_law_634 : decode cL_law 634 = .ok (.invokevirtual 102, 3) := by decide +kernel
theorem dL_law_637 : decode cL_law 637 = .ok (.aload_n 1, 1) := by decide +kernel
theorem dL_law_638 : decode cL_law 638 = .ok (.iload 7, 2) := by decide +kernel
theorem dL_law_640 : decode cL_law 640 = .ok (.invokevirtual 105, 3) := by decide +kernel
theorem dL_law_643 : decode cL_law 643 = .ok (.if_icmp .ge 5, 3) := by decide +kernel
theorem dL_law_646 : decode cL_law 646 = .ok (.iconst 0, 1) := by decide +kernel
theorem dL_law_647 : decode cL_law 647 = .ok (.ireturn, 1) := by decide +kernel
theorem dL_law_648 : decode cL_law 648 = .ok (.aload_n 1, 1) := by decide +kernel
theorem dL_law_649 : decode cL_law 649 = .ok (.iconst 1, 1) := by decide +kernel
theorem dL_law_650 : decode cL_law 650 = .ok (.bipush 30, 2) := by decide +kernel
theorem dL_law_652 : decode cL_law 652 = .ok (.iload 7, 2) := by decide +kernel
theorem dL_law_654 : decode cL_law 654 = .ok (.iconst 0, 1) := by decide +kernel
theorem dL_law_655 : decode cL_law 655 = .ok (.invokevirtual 102, 3) := by decide +kernel
theorem dL_law_658 : decode cL_law 658 = .ok (.istore 8, 2) := by decide +kernel
theorem dL_law_660 : decode cL_law 660 = .ok (.iload 8, 2) := by decide +kernel
theorem dL_law_662 : decode cL_law 662 = .ok (.ifCond .lt 40, 3) := by decide +kernel
theorem dL_law_665 : decode cL_law 665 = .ok (.iload 8, 2) := by decide +kernel
theorem dL_law_667 : decode cL_law 667 = .ok (.iconst 2, 1) := by decide +kernel
theorem dL_law_668 : decode cL_law 668 = .ok (.aload_n 2, 1) := by decide +kernel
theorem dL_law_669 : decode cL_law 669 = .ok (.iconst 1, 1) := by decide +kernel
theorem dL_law_670 : decode cL_law 670 = .ok (.iaload, 1) := by decide +kernel
theorem dL_law_671 : decode cL_law 671 = .ok (.imul, 1) := by decide +kernel
theorem dL_law_672 : decode cL_law 672 = .ok (.if_icmp .ge 30, 3) := by decide +kernel
theorem dL_law_675 : decode cL_law 675 = .ok (.aload_n 1, 1) := by decide +kernel
theorem dL_law_676 : decode cL_law 676 = .ok (.iconst 1, 1) := by decide +kernel
theorem dL_law_677 : decode cL_law 677 = .ok (.bipush 30, 2) := by decide +kernel
theorem dL_law_679 : decode cL_law 679 = .ok (.iload 7, 2) := by decide +kernel
theorem dL_law_681 : decode cL_law 681 = .ok (.iconst (-1), 1) := by decide +kernel
theorem dL_law_682 : decode cL_law 682 = .ok (.invokevirtual 102, 3) := by decide +kernel
theorem dL_law_685 : decode cL_law 685 = .ok (.ifCond .lt 17, 3) := by decide +kernel
theorem dL_law_688 : decode cL_law 688 = .ok (.aload_n 1, 1) := by decide +kernel
theorem dL_law_689 : decode cL_law 689 = .ok (.iconst 1, 1) := by decide +kernel
theorem dL_law_690 : decode cL_law 690 = .ok (.iconst 0, 1) := by decide +kernel
theorem dL_law_691 : decode cL_law 691 = .ok (.iload 7, 2) := by decide +kernel
theorem dL_law_693 : decode cL_law 693 = .ok (.iconst (-1), 1) := by decide +kernel
theorem dL_law_694 : decode cL_law 694 = .ok (.invokevirtual 102, 3) := by decide +kernel
theorem dL_law_697 : decode cL_law 697 = .ok (.bipush (-4), 2) := by decide +kernel
theorem dL_law_699 : decode cL_law 699 = .ok (.if_icmp .eq 5, 3) := by decide +kernel
theorem dL_law_702 : decode cL_law 702 = .ok (.iconst 0, 1) := by decide +kernel
theorem dL_law_703 : decode cL_law 703 = .ok (.ireturn, 1) := by decide +kernel
theorem dL_law_704 : decode cL_law 704 = .ok (.aload_n 1, 1) := by decide +kernel
theorem dL_law_705 : decode cL_law 705 = .ok (.iconst 1, 1) := by decide +kernel
theorem dL_law_706 : decode cL_law 706 = .ok (.invokevirtual 108, 3) := by decide +kernel
theorem dL_law_709 : decode cL_law 709 = .ok (.ldc2_w 111, 3) := by decide +kernel
theorem dL_law_712 : decode cL_law 712 = .ok (.lcmp, 1) := by decide +kernel
theorem dL_law_713 : decode cL_law 713 = .ok (.ifCond .eq 27, 3) := by decide +kernel
theorem dL_law_716 : decode cL_law 716 = .ok (.aload_n 1, 1) := by decide +kernel
theorem dL_law_717 : decode cL_law 717 = .ok (.iconst 0, 1) := by decide +kernel
theorem dL_law_718 : decode cL_law 718 = .ok (.invokevirtual 108, 3) := by decide +kernel
theorem dL_law_721 : decode cL_law 721 = .ok (.lconst 0, 1) := by decide +kernel
theorem dL_law_722 : decode cL_law 722 = .ok (.lcmp, 1) := by decide +kernel
theorem dL_law_723 : decode cL_law 723 = .ok (.ifCond .lt 71, 3) := by decide +kernel
theorem dL_law_726 : decode cL_law 726 = .ok (.aload_n 1, 1) := by decide +kernel
theorem dL_law_727 : decode cL_law 727 = .ok (.iconst 0, 1) := by decide +kernel
theorem dL_law_728 : decode cL_law 728 = .ok (.invokevirtual 108, 3) := by decide +kernel
theorem dL_law_731 : decode cL_law 731 = .ok (.aload_n 1, 1) := by decide +kernel
theorem dL_law_732 : decode cL_law 732 = .ok (.iconst 1, 1) := by decide +kernel
theorem dL_law_733 : decode cL_law 733 = .ok (.invokevirtual 108, 3) := by decide +kernel
theorem dL_law_736 : decode cL_law 736 = .ok (.lcmp, 1) := by decide +kernel
theorem dL_law_737 : decode cL_law 737 = .ok (.ifCond .gt 57, 3) := by decide +kernel
theorem dL_law_740 : decode cL_law 740 = .ok (.aload_n 2, 1) := by decide +kernel
theorem dL_law_741 : decode cL_law 741 = .ok (.iconst 0, 1) := by decide +kernel
theorem dL_law_742 : decode cL_law 742 = .ok (.iaload, 1) := by decide +kernel
theorem dL_law_743 : decode cL_law 743 = .ok (.iconst 1, 1) := by decide +kernel
theorem dL_law_744 : decode cL_law 744 = .ok (.if_icmp .ne 13, 3) := by decide +kernel
theorem dL_law_747 : decode cL_law 747 = .ok (.aload_n 1, 1) := by decide +kernel
theorem dL_law_748 : decode cL_law 748 = .ok (.iconst 0, 1) := by decide +kernel
theorem dL_law_749 : decode cL_law 749 = .ok (.invokevirtual 108, 3) := by decide +kernel
theorem dL_law_752 : decode cL_law 752 = .ok (.lconst 0, 1) := by decide +kernel
theorem dL_law_753 : decode cL_law 753 = .ok (.lcmp, 1) := by decide +kernel
theorem dL_law_754 : decode cL_law 754 = .ok (.ifCond .gt 40, 3) := by decide +kernel
theorem dL_law_757 : decode cL_law 757 = .ok (.aload_n 2, 1) := by decide +kernel
theorem dL_law_758 : decode cL_law 758 = .ok (.iconst 1, 1) := by decide +kernel
theorem dL_law_759 : decode cL_law 759 = .ok (.iaload, 1) := by decide +kernel
theorem dL_law_760 : decode cL_law 760 = .ok (.iconst 1, 1) := by decide +kernel
theorem dL_law_761 : decode cL_law 761 = .ok (.if_icmp .le 7, 3) := by decide +kernel
theorem dL_law_764 : decode cL_law 764 = .ok (.iconst 1, 1) := by decide +kernel
theorem dL_law_765 : decode cL_law 765 = .ok (.goto 4, 3) := by decide +kernel
theorem dL_law_768 : decode cL_law 768 = .ok (.iconst 0, 1) := by decide +kernel
theorem dL_law_769 : decode cL_law 769 = .ok (.aload_n 1, 1) := by decide +kernel
theorem dL_law_770 : decode cL_law 770 = .ok (.invokevirtual 113, 3) := by decide +kernel
theorem dL_law_773 : decode cL_law 773 = .ok (.ifCond .lt 7, 3) := by decide +kernel
theorem dL_law_776 : decode cL_law 776 = .ok (.iconst 1, 1) := by decide +kernel
theorem dL_law_777 : decode cL_law 777 = .ok (.goto 4, 3) := by decide +kernel
theorem dL_law_780 : decode cL_law 780 = .ok (.iconst 0, 1) := by decide +kernel
theorem dL_law_781 : decode cL_law 781 = .ok (.if_icmp .ne 13, 3) := by decide +kernel
theorem dL_law_784 : decode cL_law 784 = .ok (.aload_n 1, 1) := by decide +kernel
theorem dL_law_785 : decode cL_law 785 = .ok (.invokevirtual 113, 3) := by decide +kernel
theorem dL_law_788 : decode cL_law 788 = .ok (.aload_n 2, 1) := by decide +kernel
theorem dL_law_789 : decode cL_law 789 = .ok (.iconst 1, 1) := by decide +kernel
theorem dL_law_790 : decode cL_law 790 = .ok (.iaload, 1) := by decide +kernel
theorem dL_law_791 : decode cL_law 791 = .ok (.if_icmp .lt 5, 3) := by decide +kernel
theorem dL_law_794 : decode cL_law 794 = .ok (.iconst 0, 1) := by decide +kernel
theorem dL_law_795 : decode cL_law 795 = .ok (.ireturn, 1) := by decide +kernel
theorem dL_law_796 : decode cL_law 796 = .ok (.iconst 0, 1) := by decide +kernel
theorem dL_law_797 : decode cL_law 797 = .ok (.istore 9, 2) := by decide +kernel
theorem dL_law_799 : decode cL_law 799 = .ok (.iload 9, 2) := by decide +kernel
theorem dL_law_801 : decode cL_law 801 = .ok (.iconst 4, 1) := by decide +kernel
theorem dL_law_802 : decode cL_law 802 = .ok (.if_icmp .ge 184, 3) := by decide +kernel
theorem dL_law_805 : decode cL_law 805 = .ok (.aload_n 0, 1) := by decide +kernel
theorem dL_law_806 : decode cL_law 806 = .ok (.bipush 15, 2) := by decide +kernel
theorem dL_law_808 : decode cL_law 808 = .ok (.iload 9, 2) := by decide +kernel
theorem dL_law_810 : decode cL_law 810 = .ok (.iadd, 1) := by decide +kernel
theorem dL_law_811 : decode cL_law 811 = .ok (.invokestatic 19, 3) := by decide +kernel
theorem dL_law_814 : decode cL_law 814 = .ok (.sipush 10000, 3) := by decide +kernel
theorem dL_law_817 : decode cL_law 817 = .ok (.invokestatic 25, 3) := by decide +kernel
theorem dL_law_820 : decode cL_law 820 = .ok (.istore 10, 2) := by decide +kernel
theorem dL_law_822 : decode cL_law 822 = .ok (.aload_n 1, 1) := by decide +kernel
theorem dL_law_823 : decode cL_law 823 = .ok (.iload 10, 2) := by decide +kernel
theorem dL_law_825 : decode cL_law 825 = .ok (.iconst 0, 1) := by decide +kernel
theorem dL_law_826 : decode cL_law 826 = .ok (.invokevirtual 116, 3) := by decide +kernel
theorem dL_law_829 : decode cL_law 829 = .ok (.istore 11, 2) := by decide +kernel
theorem dL_law_831 : decode cL_law 831 = .ok (.iconst (-1), 1) := by decide +kernel
theorem dL_law_832 : decode cL_law 832 = .ok (.istore 12, 2) := by decide +kernel
theorem dL_law_834 : decode cL_law 834 = .ok (.iconst 0, 1) := by decide +kernel
theorem dL_law_835 : decode cL_law 835 = .ok (.istore 13, 2) := by decide +kernel
theorem dL_law_837 : decode cL_law 837 = .ok (.iload 13, 2) := by decide +kernel
theorem dL_law_839 : decode cL_law 839 = .ok (.iload 11, 2) := by decide +kernel
theorem dL_law_841 : decode cL_law 841 = .ok (.if_icmp .ge 38, 3) := by decide +kernel
theorem dL_law_844 : decode cL_law 844 = .ok (.aload_n 1, 1) := by decide +kernel
theorem dL_law_845 : decode cL_law 845 = .ok (.iload 10, 2) := by decide +kernel
theorem dL_law_847 : decode cL_law 847 = .ok (.iload 13, 2) := by decide +kernel
theorem dL_law_849 : decode cL_law 849 = .ok (.invokevirtual 119, 3) := by decide +kernel
theorem dL_law_852 : decode cL_law 852 = .ok (.istore 14, 2) := by decide +kernel
theorem dL_law_854 : decode cL_law 854 = .ok (.iload 14, 2) := by decide +kernel
theorem dL_law_856 : decode cL_law 856 = .ok (.iload 12, 2) := by decide +kernel
theorem dL_law_858 : decode cL_law 858 = .ok (.if_icmp .le 9, 3) := by decide +kernel
theorem dL_law_861 : decode cL_law 861 = .ok (.iload 14, 2) := by decide +kernel
theorem dL_law_863 : decode cL_law 863 = .ok (.iload_n 3, 1) := by decide +kernel
theorem dL_law_864 : decode cL_law 864 = .ok (.if_icmp .lt 5, 3) := by decide +kernel
theorem dL_law_867 : decode cL_law 867 = .ok (.iconst 0, 1) := by decide +kernel
theorem dL_law_868 : decode cL_law 868 = .ok (.ireturn, 1) := by decide +kernel
theorem dL_law_869 : decode cL_law 869 = .ok (.iload 14, 2) := by decide +kernel
theorem dL_law_871 : decode cL_law 871 = .ok (.istore 12, 2) := by decide +kernel
theorem dL_law_873 : decode cL_law 873 = .ok (.iinc 13 1, 3) := by decide +kernel
theorem dL_law_876 : decode cL_law 876 = .ok (.goto (-39), 3) := by decide +kernel
theorem dL_law_879 : decode cL_law 879 = .ok (.aload_n 1, 1) := by decide +kernel
theorem dL_law_880 : decode cL_law 880 = .ok (.iload 10, 2) := by decide +kernel
theorem dL_law_882 : decode cL_law 882 = .ok (.iconst 2, 1) := by decide +kernel
theorem dL_law_883 : decode cL_law 883 = .ok (.invokevirtual 116, 3) := by decide +kernel
theorem dL_law_886 : decode cL_law 886 = .ok (.istore 13, 2) := by decide +kernel
theorem dL_law_888 : decode cL_law 888 = .ok (.iload 11, 2) := by decide +kernel
theorem dL_law_890 : decode cL_law 890 = .ok (.ifCond .lt 88, 3) := by decide +kernel
theorem dL_law_893 : decode cL_law 893 = .ok (.iload 11, 2) := by decide +kernel
theorem dL_law_895 : decode cL_law 895 = .ok (.iload_n 3, 1) := by decide +kernel
theorem dL_law_896 : decode cL_law 896 = .ok (.if_icmp .gt 82, 3) := by decide +kernel
theorem dL_law_899 : decode cL_law 899 = .ok (.aload_n 1, 1) := by decide +kernel
theorem dL_law_900 : decode cL_law 900 = .ok (.iload 10, 2) := by decide +kernel
theorem dL_law_902 : decode cL_law 902 = .ok (.iload 11, 2) := by decide +kernel
theorem dL_law_904 : decode cL_law 904 = .ok (.invokevirtual 119, 3) := by decide +kernel
theorem dL_law_907 : decode cL_law 907 = .ok (.bipush (-4), 2) := by decide +kernel
theorem dL_law_909 : decode cL_law 909 = .ok (.if_icmp .ne 69, 3) := by decide +kernel
theorem dL_law_912 : decode cL_law 912 = .ok (.aload_n 1, 1) := by decide +kernel
theorem dL_law_913 : decode cL_law 913 = .ok (.iload 10, 2) := by decide +kernel
theorem dL_law_915 : decode cL_law 915 = .ok (.iconst 1, 1) := by decide +kernel
theorem dL_law_916 : decode cL_law 916 = .ok (.invokevirtual 116, 3) := by decide +kernel
theorem dL_law_919 : decode cL_law 919 = .ok (.ifCond .lt 59, 3) := by decide +kernel
theorem dL_law_922 : decode cL_law 922 = .ok (.aload_n 1, 1) := by decide +kernel
theorem dL_law_923 : decode cL_law 923 = .ok (.iload 10, 2) := by decide +kernel
theorem dL_law_925 : decode cL_law 925 = .ok (.iconst 1, 1) := by decide +kernel
theorem dL_law_926 : decode cL_law 926 = .ok (.invokevirtual 116, 3) := by decide +kernel
theorem dL_law_929 : decode cL_law 929 = .ok (.iload 11, 2) := by decide +kernel
theorem dL_law_931 : decode cL_law 931 = .ok (.if_icmp .gt 47, 3) := by decide +kernel
theorem dL_law_934 : decode cL_law 934 = .ok (.iload 11, 2) := by decide +kernel
theorem dL_law_936 : decode cL_law 936 = .ok (.bipush 7, 2) := by decide +kernel
theorem dL_law_938 : decode cL_law 938 = .ok (.if_icmp .ge 7, 3) := by decide +kernel
theorem dL_law_941 : decode cL_law 941 = .ok (.iconst 1, 1) := by decide +kernel
theorem dL_law_942 : decode cL_law 942 = .ok (.goto 4, 3) := by decide +kernel
theorem dL_law_945 : decode cL_law 945 = .ok (.iconst 0, 1) := by decide +kernel
theorem dL_law_946 : decode cL_law 946 = .ok (.iload 13, 2) := by decide +kernel
theorem dL_law_948 : decode cL_law 948 = .ok (.ifCond .lt 7, 3) := by decide +kernel
theorem dL_law_951 : decode cL_law 951 = .ok (.iconst 1, 1) := by decide +kernel
theorem dL_law_952 : decode cL_law 952 = .ok (.goto 4, 3) := by decide +kernel
theorem dL_law_955 : decode cL_law 955 = .ok (.iconst 0, 1) := by decide +kernel
theorem dL_law_956 : decode cL_law 956 = .ok (.if_icmp .ne 22, 3) := by decide +kernel
theorem dL_law_959 : decode cL_law 959 = .ok (.iload 13, 2) := by decide +kernel
theorem dL_law_961 : decode cL_law 961 = .ok (.aload_n 2, 1) := by decide +kernel
theorem dL_law_962 : decode cL_law 962 = .ok (.iconst 2, 1) := by decide +kernel
theorem dL_law_963 : decode cL_law 963 = .ok (.iaload, 1) := by decide +kernel
theorem dL_law_964 : decode cL_law 964 = .ok (.if_icmp .gt 14, 3) := by decide +kernel
theorem dL_law_967 : decode cL_law 967 = .ok (.iload_n 3, 1) := by decide +kernel
theorem dL_law_968 : decode cL_law 968 = .ok (.bipush 7, 2) := by decide +kernel
theorem dL_law_970 : decode cL_law 970 = .ok (.if_icmp .ge 10, 3) := by decide +kernel
theorem dL_law_973 : decode cL_law 973 = .ok (.iload 13, 2) := by decide +kernel
theorem dL_law_975 : decode cL_law 975 = .ok (.ifCond .eq 5, 3) := by decide +kernel
theorem dL_law_978 : decode cL_law 978 = .ok (.iconst 0, 1) := by decide +kernel
theorem dL_law_979 : decode cL_law 979 = .ok (.ireturn, 1) := by decide +kernel
theorem dL_law_980 : decode cL_law 980 = .ok (.iinc 9 1, 3) := by decide +kernel
theorem dL_law_983 : decode cL_law 983 = .ok (.goto (-184), 3) := by decide +kernel
theorem dL_law_986 : decode cL_law 986 = .ok (.iconst 0, 1) := by decide +kernel
theorem dL_law_987 : decode cL_law 987 = .ok (.istore 9, 2) := by decide +kernel
theorem dL_law_989 : decode cL_law 989 = .ok (.iconst 0, 1) := by decide +kernel
theorem dL_law_990 : decode cL_law 990 = .ok (.istore 10, 2) := by decide +kernel
theorem dL_law_992 : decode cL_law 992 = .ok (.iload 10, 2) := by decide +kernel
theorem dL_law_994 : decode cL_law 994 = .ok (.iload_n 3, 1) := by decide +kernel
theorem dL_law_995 : decode cL_law 995 = .ok (.if_icmp .gt 23, 3) := by decide +kernel
theorem dL_law_998 : decode cL_law 998 = .ok (.iload 9, 2) := by decide +kernel
theorem dL_law_1000 : decode cL_law 1000 = .ok (.aload_n 1, 1) := by decide +kernel
theorem dL_law_1001 : decode cL_law 1001 = .ok (.aload_n 2, 1) := by decide +kernel
theorem dL_law_1002 : decode cL_law 1002 = .ok (.iconst 4, 1) := by decide +kernel
theorem dL_law_1003 : decode cL_law 1003 = .ok (.iaload, 1) := by decide +kernel
theorem dL_law_1004 : decode cL_law 1004 = .ok (.iload 10, 2) := by decide +kernel
theorem dL_law_1006 : decode cL_law 1006 = .ok (.invokevirtual 122, 3) := by decide +kernel
theorem dL_law_1009 : decode cL_law 1009 = .ok (.iadd, 1) := by decide +kernel
theorem dL_law_1010 : decode cL_law 1010 = .ok (.istore 9, 2) := by decide +kernel
theorem dL_law_1012 : decode cL_law 1012 = .ok (.iinc 10 1, 3) := by decide +kernel
theorem dL_law_1015 : decode cL_law 1015 = .ok (.goto (-23), 3) := by decide +kernel
theorem dL_law_1018 : decode cL_law 1018 = .ok (.iload 9, 2) := by decide +kernel
theorem dL_law_1020 : decode cL_law 1020 = .ok (.bipush 10, 2) := by decide +kernel
theorem dL_law_1022 : decode cL_law 1022 = .ok (.if_icmp .ne 26, 3) := by decide +kernel
theorem dL_law_1025 : decode cL_law 1025 = .ok (.aload_n 1, 1) := by decide +kernel
theorem dL_law_1026 : decode cL_law 1026 = .ok (.iconst 0, 1) := by decide +kernel
theorem dL_law_1027 : decode cL_law 1027 = .ok (.invokevirtual 125, 3) := by decide +kernel
theorem dL_law_1030 : decode cL_law 1030 = .ok (.ldc2_w 128, 3) := by decide +kernel
theorem dL_law_1033 : decode cL_law 1033 = .ok (.lmul, 1) := by decide +kernel
theorem dL_law_1034 : decode cL_law 1034 = .ok (.aload_n 2, 1) := by decide +kernel
theorem dL_law_1035 : decode cL_law 1035 = .ok (.iconst 3, 1) := by decide +kernel
theorem dL_law_1036 : decode cL_law 1036 = .ok (.iaload, 1) := by decide +kernel
theorem dL_law_1037 : decode cL_law 1037 = .ok (.i2l, 1) := by decide +kernel
theorem dL_law_1038 : decode cL_law 1038 = .ok (.aload_n 1, 1) := by decide +kernel
theorem dL_law_1039 : decode cL_law 1039 = .ok (.iconst 1, 1) := by decide +kernel
theorem dL_law_1040 : decode cL_law 1040 = .ok (.invokevirtual 125, 3) := by decide +kernel
theorem dL_law_1043 : decode cL_law 1043 = .ok (.lmul, 1) := by decide +kernel
theorem dL_law_1044 : decode cL_law 1044 = .ok (.lcmp, 1) := by decide +kernel
theorem dL_law_1045 : decode cL_law 1045 = .ok (.ifCond .eq 5, 3) := by decide +kernel
theorem dL_law_1048 : decode cL_law 1048 = .ok (.iconst 0, 1) := by decide +kernel
theorem dL_law_1049 : decode cL_law 1049 = .ok (.ireturn, 1) := by decide +kernel
theorem dL_law_1050 : decode cL_law 1050 = .ok (.aload_n 0, 1) := by decide +kernel
theorem dL_law_1051 : decode cL_law 1051 = .ok (.bipush 19, 2) := by decide +kernel
theorem dL_law_1053 : decode cL_law 1053 = .ok (.invokestatic 19, 3) := by decide +kernel
theorem dL_law_1056 : decode cL_law 1056 = .ok (.aload_n 2, 1) := by decide +kernel
theorem dL_law_1057 : decode cL_law 1057 = .ok (.iconst 1, 1) := by decide +kernel
theorem dL_law_1058 : decode cL_law 1058 = .ok (.iaload, 1) := by decide +kernel
theorem dL_law_1059 : decode cL_law 1059 = .ok (.invokestatic 25, 3) := by decide +kernel
theorem dL_law_1062 : decode cL_law 1062 = .ok (.istore 10, 2) := by decide +kernel
theorem dL_law_1064 : decode cL_law 1064 = .ok (.aload_n 1, 1) := by decide +kernel
theorem dL_law_1065 : decode cL_law 1065 = .ok (.iconst 0, 1) := by decide +kernel
theorem dL_law_1066 : decode cL_law 1066 = .ok (.iload 10, 2) := by decide +kernel
theorem dL_law_1068 : decode cL_law 1068 = .ok (.iconst 0, 1) := by decide +kernel
theorem dL_law_1069 : decode cL_law 1069 = .ok (.iconst 2, 1) := by decide +kernel
theorem dL_law_1070 : decode cL_law 1070 = .ok (.invokevirtual 75, 3) := by decide +kernel
theorem dL_law_1073 : decode cL_law 1073 = .ok (.bipush 10, 2) := by decide +kernel
theorem dL_law_1075 : decode cL_law 1075 = .ok (.idiv, 1) := by decide +kernel
theorem dL_law_1076 : decode cL_law 1076 = .ok (.istore 11, 2) := by decide +kernel
theorem dL_law_1078 : decode cL_law 1078 = .ok (.aload_n 1, 1) := by decide +kernel
theorem dL_law_1079 : decode cL_law 1079 = .ok (.iconst 0, 1) := by decide +kernel
theorem dL_law_1080 : decode cL_law 1080 = .ok (.iload 10, 2) := by decide +kernel
theorem dL_law_1082 : decode cL_law 1082 = .ok (.iconst 2, 1) := by decide +kernel
theorem dL_law_1083 : decode cL_law 1083 = .ok (.iconst 0, 1) := by decide +kernel
theorem dL_law_1084 : decode cL_law 1084 = .ok (.invokevirtual 130, 3) := by decide +kernel
theorem dL_law_1087 : decode cL_law 1087 = .ok (.iconst 1, 1) := by decide +kernel
theorem dL_law_1088 : decode cL_law 1088 = .ok (.if_icmp .ne 167, 3) := by decide +kernel
theorem dL_law_1091 : decode cL_law 1091 = .ok (.iload 11, 2) := by decide +kernel
theorem dL_law_1093 : decode cL_law 1093 = .ok (.bipush 10, 2) := by decide +kernel
theorem dL_law_1095 : decode cL_law 1095 = .ok (.if_icmp .eq 11, 3) := by decide +kernel
theorem dL_law_1098 : decode cL_law 1098 = .ok (.aload_n 2, 1) := by decide +kernel
theorem dL_law_1099 : decode cL_law 1099 = .ok (.iconst 3, 1) := by decide +kernel
theorem dL_law_1100 : decode cL_law 1100 = .ok (.iaload, 1) := by decide +kernel
theorem dL_law_1101 : decode cL_law 1101 = .ok (.bipush 10, 2) := by decide +kernel
theorem dL_law_1103 : decode cL_law 1103 = .ok (.if_icmp .ne 28, 3) := by decide +kernel
theorem dL_law_1106 : decode cL_law 1106 = .ok (.aload_n 1, 1) := by decide +kernel
theorem dL_law_1107 : decode cL_law 1107 = .ok (.iconst 0, 1) := by decide +kernel
theorem dL_law_1108 : decode cL_law 1108 = .ok (.invokevirtual 125, 3) := by decide +kernel
theorem dL_law_1111 : decode cL_law 1111 = .ok (.ldc2_w 111, 3) := by decide +kernel
theorem dL_law_1114 : decode cL_law 1114 = .ok (.lcmp, 1) := by decide +kernel
theorem dL_law_1115 : decode cL_law 1115 = .ok (.ifCond .eq 36, 3) := by decide +kernel
theorem dL_law_1118 : decode cL_law 1118 = .ok (.aload_n 1, 1) := by decide +kernel
theorem dL_law_1119 : decode cL_law 1119 = .ok (.iconst 0, 1) := by decide +kernel
theorem dL_law_1120 : decode cL_law 1120 = .ok (.invokevirtual 125, 3) := by decide +kernel
theorem dL_law_1123 : decode cL_law 1123 = .ok (.lconst 0, 1) := by decide +kernel
theorem dL_law_1124 : decode cL_law 1124 = .ok (.lcmp, 1) := by decide +kernel
theorem dL_law_1125 : decode cL_law 1125 = .ok (.ifCond .ne 130, 3) := by decide +kernel
theorem dL_law_1128 : decode cL_law 1128 = .ok (.goto 23, 3) := by decide +kernel
theorem dL_law_1131 : decode cL_law 1131 = .ok (.aload_n 1, 1) := by decide +kernel
theorem dL_law_1132 : decode cL_law 1132 = .ok (.iconst 0, 1) := by decide +kernel
theorem dL_law_1133 : decode cL_law 1133 = .ok (.invokevirtual 125, 3) := by decide +kernel
theorem dL_law_1136 : decode cL_law 1136 = .ok (.lconst 0, 1) := by decide +kernel
theorem dL_law_1137 : decode cL_law 1137 = .ok (.lcmp, 1) := by decide +kernel
theorem dL_law_1138 : decode cL_law 1138 = .ok (.ifCond .ne 117, 3) := by decide +kernel
theorem dL_law_1141 : decode cL_law 1141 = .ok (.aload_n 1, 1) := by decide +kernel
theorem dL_law_1142 : decode cL_law 1142 = .ok (.iconst 1, 1) := by decide +kernel
theorem dL_law_1143 : decode cL_law 1143 = .ok (.invokevirtual 125, 3) := by decide +kernel
theorem dL_law_1146 : decode cL_law 1146 = .ok (.lconst 1, 1) := by decide +kernel
theorem dL_law_1147 : decode cL_law 1147 = .ok (.lcmp, 1) := by decide +kernel
theorem dL_law_1148 : decode cL_law 1148 = .ok (.ifCond .ne 107, 3) := by decide +kernel
theorem dL_law_1151 : decode cL_law 1151 = .ok (.aload_n 1, 1) := by decide +kernel
theorem dL_law_1152 : decode cL_law 1152 = .ok (.invokevirtual 133, 3) := by decide +kernel
theorem dL_law_1155 : decode cL_law 1155 = .ok (.iconst 1, 1) := by decide +kernel
theorem dL_law_1156 : decode cL_law 1156 = .ok (.if_icmp .ne 99, 3) := by decide +kernel
theorem dL_law_1159 : decode cL_law 1159 = .ok (.aload_n 1, 1) := by decide +kernel
theorem dL_law_1160 : decode cL_law 1160 = .ok (.iconst 0, 1) := by decide +kernel
theorem dL_law_1161 : decode cL_law 1161 = .ok (.iload 10, 2) := by decide +kernel
theorem dL_law_1163 : decode cL_law 1163 = .ok (.iconst 2, 1) := by decide +kernel
theorem dL_law_1164 : decode cL_law 1164 = .ok (.iconst 2, 1) := by decide +kernel
theorem dL_law_1165 : decode cL_law 1165 = .ok (.invokevirtual 130, 3) := by decide +kernel
theorem dL_law_1168 : decode cL_law 1168 = .ok (.iconst 1, 1) := by decide +kernel
theorem dL_law_1169 : decode cL_law 1169 = .ok (.if_icmp .ne 86, 3) := by decide +kernel
theorem dL_law_1172 : decode cL_law 1172 = .ok (.iload 11, 2) := by decide +kernel
theorem dL_law_1174 : decode cL_law 1174 = .ok (.ifCond .ne 42, 3) := by decide +kernel
theorem dL_law_1177 : decode cL_law 1177 = .ok (.aload_n 2, 1) := by decide +kernel
theorem dL_law_1178 : decode cL_law 1178 = .ok (.iconst 3, 1) := by decide +kernel
theorem dL_law_1179 : decode cL_law 1179 = .ok (.iaload, 1) := by decide +kernel
theorem dL_law_1180 : decode cL_law 1180 = .ok (.bipush 10, 2) := by decide +kernel
theorem dL_law_1182 : decode cL_law 1182 = .ok (.if_icmp .ge 34, 3) := by decide +kernel
theorem dL_law_1185 : decode cL_law 1185 = .ok (.aload_n 2, 1) := by decide +kernel
theorem dL_law_1186 : decode cL_law 1186 = .ok (.iconst 3, 1) := by decide +kernel
theorem dL_law_1187 : decode cL_law 1187 = .ok (.iaload, 1) := by decide +kernel
theorem dL_law_1188 : decode cL_law 1188 = .ok (.ifCond .le 28, 3) := by decide +kernel
theorem dL_law_1191 : decode cL_law 1191 = .ok (.aload_n 1, 1) := by decide +kernel
theorem dL_law_1192 : decode cL_law 1192 = .ok (.iconst 0, 1) := by decide +kernel
theorem dL_law_1193 : decode cL_law 1193 = .ok (.invokevirtual 125, 3) := by decide +kernel
theorem dL_law_1196 : decode cL_law 1196 = .ok (.ldc2_w 111, 3) := by decide +kernel
theorem dL_law_1199 : decode cL_law 1199 = .ok (.lcmp, 1) := by decide +kernel
theorem dL_law_1200 : decode cL_law 1200 = .ok (.ifCond .eq 51, 3) := by decide +kernel
theorem dL_law_1203 : decode cL_law 1203 = .ok (.aload_n 1, 1) := by decide +kernel
theorem dL_law_1204 : decode cL_law 1204 = .ok (.iconst 0, 1) := by decide +kernel
theorem dL_law_1205 : decode cL_law 1205 = .ok (.invokevirtual 125, 3) := by decide +kernel
theorem dL_law_1208 : decode cL_law 1208 = .ok (.lconst 0, 1) := by decide +kernel
theorem dL_law_1209 : decode cL_law 1209 = .ok (.lcmp, 1) := by decide +kernel
theorem dL_law_1210 : decode cL_law 1210 = .ok (.ifCond .lt 45, 3) := by decide +kernel
theorem dL_law_1213 : decode cL_law 1213 = .ok (.goto 38, 3) := by decide +kernel
theorem dL_law_1216 : decode cL_law 1216 = .ok (.aload_n 1, 1) := by decide +kernel
theorem dL_law_1217 : decode cL_law 1217 = .ok (.iconst 0, 1) := by decide +kernel
theorem dL_law_1218 : decode cL_law 1218 = .ok (.invokevirtual 125, 3) := by decide +kernel
theorem dL_law_1221 : decode cL_law 1221 = .ok (.ldc2_w 111, 3) := by decide +kernel
theorem dL_law_1224 : decode cL_law 1224 = .ok (.lcmp, 1) := by decide +kernel
theorem dL_law_1225 : decode cL_law 1225 = .ok (.ifCond .eq 26, 3) := by decide +kernel
theorem dL_law_1228 : decode cL_law 1228 = .ok (.aload_n 1, 1) := by decide +kernel
theorem dL_law_1229 : decode cL_law 1229 = .ok (.iconst 0, 1) := by decide +kernel
theorem dL_law_1230 : decode cL_law 1230 = .ok (.invokevirtual 125, 3) := by decide +kernel
theorem dL_law_1233 : decode cL_law 1233 = .ok (.ldc2_w 128, 3) := by decide +kernel
theorem dL_law_1236 : decode cL_law 1236 = .ok (.lmul, 1) := by decide +kernel
theorem dL_law_1237 : decode cL_law 1237 = .ok (.aload_n 2, 1) := by decide +kernel
theorem dL_law_1238 : decode cL_law 1238 = .ok (.iconst 3, 1) := by decide +kernel
theorem dL_law_1239 : decode cL_law 1239 = .ok (.iaload, 1) := by decide +kernel
theorem dL_law_1240 : decode cL_law 1240 = .ok (.i2l, 1) := by decide +kernel
theorem dL_law_1241 : decode cL_law 1241 = .ok (.aload_n 1, 1) := by decide +kernel
theorem dL_law_1242 : decode cL_law 1242 = .ok (.iconst 1, 1) := by decide +kernel
theorem dL_law_1243 : decode cL_law 1243 = .ok (.invokevirtual 125, 3) := by decide +kernel
theorem dL_law_1246 : decode cL_law 1246 = .ok (.lmul, 1) := by decide +kernel
theorem dL_law_1247 : decode cL_law 1247 = .ok (.lcmp, 1) := by decide +kernel
theorem dL_law_1248 : decode cL_law 1248 = .ok (.ifCond .lt 7, 3) := by decide +kernel
theorem dL_law_1251 : decode cL_law 1251 = .ok (.iconst 1, 1) := by decide +kernel
theorem dL_law_1252 : decode cL_law 1252 = .ok (.goto 4, 3) := by decide +kernel
theorem dL_law_1255 : decode cL_law 1255 = .ok (.iconst 0, 1) := by decide +kernel
theorem dL_law_1256 : decode cL_law 1256 = .ok (.ireturn, 1) := by decide +kernel
abbrev vwCl : List vw_C := [(RX0, TX0, 8), (RX1, TX1, 2), (RX2, TX2, 2), (RX3, TX3, 2), (RX4, TX4, 14), (RX5, TX5, 5), (RX6, TX6, 4), (RX7, TX7, 3), (RX8, TX8, 3), (RX9, TX9, 2), (RX10, TX10, 5), (RX11, TX11, 14)]
