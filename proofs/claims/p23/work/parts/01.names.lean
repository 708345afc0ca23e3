-- ===== PART A: goes FIRST, ahead of the names: the tables' words, and 'selects' of the private methods out of them =====
/-- a private method of a class that the tables say can be made, by its rows of tables_1 -/
def lw_okq (q : MethodName × Nat) : Prop := (q.1.cls ≠ "java/lang/invoke/MethodHandle" ∧ q.1.cls ≠ "java/lang/invoke/VarHandle") ∧ Cond.instantiable q.1.cls q.2 ∈ tables_1 ∧ Cond.privateMethod q.1 ∈ tables_1 ∧ Cond.instanceMethod q.1 ∈ tables_1
theorem lw_p0 : lw_okq (⟨"PurrProbates", "daysAsGuardianIfMoved", "(II)I"⟩, 5) := ⟨⟨by decide +kernel, by decide +kernel⟩, List.mem_of_getElem? (i := 10) (by decide +kernel), List.mem_of_getElem? (i := 382) (by decide +kernel), List.mem_of_getElem? (i := 383) (by decide +kernel)⟩
def lw_privs_1 : List (MethodName × Nat) := [(⟨"PurrProbates", "daysAsGuardianIfMoved", "(II)I"⟩, 5)]
theorem lw_r1 : ∀ q ∈ lw_privs_1, lw_okq q := List.forall_mem_cons.mpr ⟨lw_p0, fun _ h => absurd h List.not_mem_nil⟩
def lw_privs : List (MethodName × Nat) := lw_privs_1
def lw_tbl : List Cond := k2_sels lw_privs ++ tables_1
theorem lw_privs_ok : ∀ q ∈ lw_privs, lw_okq q := lw_r1
/-! ===== BEGIN words of one list among another's, by their places ===== -/
theorem goodIn_r {big : List Cond} (ws : List Cond) (ps : List Nat) (hp : ws = ps.filterMap (fun i => big[i]?)) (h : ws.all goodWord = true) : GoodIn big ws := by
  intro w hw
  have h1 := List.all_eq_true.mp h w hw
  rw [hp] at hw
  obtain ⟨i, -, hi⟩ := List.mem_filterMap.mp hw
  have hm : w ∈ big := by first | exact List.mem_of_getElem? hi | exact List.getElem?_mem hi
  exact ⟨hm, good_of_word h1⟩
theorem goodIn_app {big a b : List Cond} (ha : GoodIn big a) (hb : GoodIn big b) : GoodIn big (a ++ b) := fun w h => (List.mem_append.mp h).elim (ha w) (hb w)
theorem goodIn_ca {big a b : List Cond} {c : Cond} (ha : GoodIn big (c :: a)) (hb : GoodIn big b) : GoodIn big (c :: (a ++ b)) := fun w h => (List.mem_cons.mp h).elim (fun e => ha w (List.mem_cons.mpr (Or.inl e))) (fun h => (List.mem_append.mp h).elim (fun h => ha w (List.mem_cons.mpr (Or.inr h))) (hb w))
theorem goodIn_sub {big ws : List Cond} (hm : ∀ w ∈ ws, w ∈ big) (h : ws.all goodWord = true) : GoodIn big ws := fun w hw => ⟨hm w hw, good_of_word (List.all_eq_true.mp h w hw)⟩
/-! ===== END ===== -/

/-! ===== BEGIN printed: names, fields, word lists, decode rows ===== -/
def RX0 : String := "PurrProbates$History"
def TX0 : u_T := fun k => match k with
  | 0 => ("PurrProbates$History", "states", "[LPurrProbates$State;", true)
  | _ => ("PurrProbates$History", "length", "I", false)
def tyX0 : Nat → FieldType := fun k => match k with
  | 0 => .array (.object "PurrProbates$State")
  | _ => .int
abbrev wsX00 : List Cond := u_ws RX0 TX0 2
theorem nmX0 : ∀ a, a < 2 → ∀ b, b < 2 → a ≠ b → (TX0 a).2.1 ≠ (TX0 b).2.1 := by decide +kernel
theorem tyX0_ok : ∀ k, k < 2 → parseFieldDescriptor (TX0 k).2.2.1 = some (tyX0 k) := by decide +kernel
abbrev cX0_init : ByteArray := prog_2_method_1_code
def yX0_init : MethodName := ⟨RX0, "<init>", "()V"⟩
abbrev cX0_record : ByteArray := prog_2_method_2_code
def yX0_record : MethodName := ⟨RX0, "record", "(LPurrProbates$State;)V"⟩
abbrev cX0_dropOldest : ByteArray := prog_2_method_3_code
def yX0_dropOldest : MethodName := ⟨RX0, "dropOldest", "()V"⟩
abbrev cX0_takeBack : ByteArray := prog_2_method_4_code
def yX0_takeBack : MethodName := ⟨RX0, "takeBack", "(LPurrProbates$State;)V"⟩
def RX1 : String := "PurrProbates$Pad"
def TX1 : u_T := fun k => match k with
  | 0 => ("PurrProbates$Pad", "characters", "[C", true)
  | _ => ("PurrProbates$Pad", "length", "I", false)
def tyX1 : Nat → FieldType := fun k => match k with
  | 0 => .array .char
  | _ => .int
abbrev wsX10 : List Cond := u_ws RX1 TX1 2
theorem nmX1 : ∀ a, a < 2 → ∀ b, b < 2 → a ≠ b → (TX1 a).2.1 ≠ (TX1 b).2.1 := by decide +kernel
theorem tyX1_ok : ∀ k, k < 2 → parseFieldDescriptor (TX1 k).2.2.1 = some (tyX1 k) := by decide +kernel
abbrev cX1_init : ByteArray := prog_3_method_1_code
def yX1_init : MethodName := ⟨RX1, "<init>", "()V"⟩
def RX2 : String := "PurrProbates$Person"
def TX2 : u_T := fun k => match k with
  | 0 => ("PurrProbates$Person", "warmth", "I", false)
  | 1 => ("PurrProbates$Person", "share", "I", false)
  | 2 => ("PurrProbates$Person", "scratches", "I", false)
  | 3 => ("PurrProbates$Person", "purse", "I", false)
  | 4 => ("PurrProbates$Person", "purrs", "I", false)
  | _ => ("PurrProbates$Person", "daysAsGuardian", "I", false)
def tyX2 : Nat → FieldType := fun k => match k with
  | 0 => .int
  | 1 => .int
  | 2 => .int
  | 3 => .int
  | 4 => .int
  | _ => .int
abbrev wsX20 : List Cond := u_ws RX2 TX2 6
theorem nmX2 : ∀ a, a < 6 → ∀ b, b < 6 → a ≠ b → (TX2 a).2.1 ≠ (TX2 b).2.1 := by decide +kernel
theorem tyX2_ok : ∀ k, k < 6 → parseFieldDescriptor (TX2 k).2.2.1 = some (tyX2 k) := by decide +kernel
abbrev cX2_init : ByteArray := prog_4_method_1_code
def yX2_init : MethodName := ⟨RX2, "<init>", "()V"⟩
abbrev cX2_copyFrom : ByteArray := prog_4_method_2_code
def yX2_copyFrom : MethodName := ⟨RX2, "copyFrom", "(LPurrProbates$Person;)V"⟩
abbrev cX2_begin : ByteArray := prog_4_method_3_code
def yX2_begin : MethodName := ⟨RX2, "begin", "(II)V"⟩
def RX3 : String := "PurrProbates$State"
def TX3 : u_T := fun k => match k with
  | 0 => ("PurrProbates$State", "settings", "[I", true)
  | 1 => ("PurrProbates$State", "people", "[LPurrProbates$Person;", true)
  | 2 => ("PurrProbates$State", "size", "I", false)
  | 3 => ("PurrProbates$State", "mood", "I", false)
  | 4 => ("PurrProbates$State", "guardian", "I", false)
  | 5 => ("PurrProbates$State", "turn", "I", false)
  | 6 => ("PurrProbates$State", "estate", "I", false)
  | 7 => ("PurrProbates$State", "days", "I", false)
  | 8 => ("PurrProbates$State", "scratches", "I", false)
  | 9 => ("PurrProbates$State", "purrs", "I", false)
  | 10 => ("PurrProbates$State", "deposed", "I", false)
  | 11 => ("PurrProbates$State", "fed", "I", false)
  | _ => ("PurrProbates$State", "given", "I", false)
def tyX3 : Nat → FieldType := fun k => match k with
  | 0 => .array .int
  | 1 => .array (.object "PurrProbates$Person")
  | 2 => .int
  | 3 => .int
  | 4 => .int
  | 5 => .int
  | 6 => .int
  | 7 => .int
  | 8 => .int
  | 9 => .int
  | 10 => .int
  | 11 => .int
  | _ => .int
abbrev wsX30 : List Cond := u_ws RX3 TX3 13
theorem nmX3 : ∀ a, a < 13 → ∀ b, b < 13 → a ≠ b → (TX3 a).2.1 ≠ (TX3 b).2.1 := by decide +kernel
theorem tyX3_ok : ∀ k, k < 13 → parseFieldDescriptor (TX3 k).2.2.1 = some (tyX3 k) := by decide +kernel
abbrev cX3_init : ByteArray := prog_5_method_1_code
def yX3_init : MethodName := ⟨RX3, "<init>", "()V"⟩
abbrev cX3_copyFrom : ByteArray := prog_5_method_2_code
def yX3_copyFrom : MethodName := ⟨RX3, "copyFrom", "(LPurrProbates$State;)V"⟩
abbrev cX3_at : ByteArray := prog_5_method_3_code
def yX3_at : MethodName := ⟨RX3, "at", "(I)LPurrProbates$Person;"⟩
abbrev cX3_behind : ByteArray := prog_5_method_4_code
def yX3_behind : MethodName := ⟨RX3, "behind", "(I)I"⟩
abbrev cX3_isBarred : ByteArray := prog_5_method_5_code
def yX3_isBarred : MethodName := ⟨RX3, "isBarred", "(LPurrProbates$Person;)Z"⟩
abbrev cX3_score : ByteArray := prog_5_method_6_code
def yX3_score : MethodName := ⟨RX3, "score", "(LPurrProbates$Person;)I"⟩
abbrev cX3_barredPeople : ByteArray := prog_5_method_7_code
def yX3_barredPeople : MethodName := ⟨RX3, "barredPeople", "()I"⟩
abbrev cX3_allPurses : ByteArray := prog_5_method_8_code
def yX3_allPurses : MethodName := ⟨RX3, "allPurses", "()I"⟩
abbrev cX3_admit : ByteArray := prog_5_method_9_code
def yX3_admit : MethodName := ⟨RX3, "\x61dmit", "(II)V"⟩
abbrev cX3_relocate : ByteArray := prog_5_method_10_code
def yX3_relocate : MethodName := ⟨RX3, "relocate", "(II)V"⟩
abbrev cX3_placeAfterMove : ByteArray := prog_5_method_11_code
def yX3_placeAfterMove : MethodName := ⟨RX3, "placeAfterMove", "(III)I"⟩
abbrev cX3_leaveWithoutGuardian : ByteArray := prog_5_method_12_code
def yX3_leaveWithoutGuardian : MethodName := ⟨RX3, "leaveWithoutGuardian", "(I)V"⟩
abbrev cX3_depose : ByteArray := prog_5_method_13_code
def yX3_depose : MethodName := ⟨RX3, "depose", "(I)V"⟩
abbrev cX3_scratch : ByteArray := prog_5_method_14_code
def yX3_scratch : MethodName := ⟨RX3, "scratch", "(LPurrProbates$Person;)V"⟩
abbrev cX3_mayAppeal : ByteArray := prog_5_method_15_code
def yX3_mayAppeal : MethodName := ⟨RX3, "mayAppeal", "(I)Z"⟩
abbrev cX3_hearAppeal : ByteArray := prog_5_method_16_code
def yX3_hearAppeal : MethodName := ⟨RX3, "hearAppeal", "(I)Z"⟩
abbrev cX3_liveDays : ByteArray := prog_5_method_17_code
def yX3_liveDays : MethodName := ⟨RX3, "liveDays", "(I)V"⟩
abbrev cX3_liveDay : ByteArray := prog_5_method_18_code
def yX3_liveDay : MethodName := ⟨RX3, "liveDay", "()I"⟩
abbrev cX3_holdOutHand : ByteArray := prog_5_method_19_code
def yX3_holdOutHand : MethodName := ⟨RX3, "holdOutHand", "()I"⟩
abbrev cX3_nextHand : ByteArray := prog_5_method_20_code
def yX3_nextHand : MethodName := ⟨RX3, "nextHand", "()I"⟩
abbrev cX3_endMonth : ByteArray := prog_5_method_21_code
def yX3_endMonth : MethodName := ⟨RX3, "endMonth", "()V"⟩
abbrev cX3_draw : ByteArray := prog_5_method_22_code
def yX3_draw : MethodName := ⟨RX3, "draw", "(I)I"⟩
def RX4 : String := "PurrProbates"
def TX4 : u_T := fun k => match k with
  | 0 => ("PurrProbates", "now", "LPurrProbates$State;", true)
  | 1 => ("PurrProbates", "trial", "LPurrProbates$State;", true)
  | 2 => ("PurrProbates", "history", "LPurrProbates$History;", true)
  | 3 => ("PurrProbates", "slots", "[LPurrProbates$State;", true)
  | _ => ("PurrProbates", "pad", "LPurrProbates$Pad;", true)
def tyX4 : Nat → FieldType := fun k => match k with
  | 0 => .object "PurrProbates$State"
  | 1 => .object "PurrProbates$State"
  | 2 => .object "PurrProbates$History"
  | 3 => .array (.object "PurrProbates$State")
  | _ => .object "PurrProbates$Pad"
abbrev wsX40 : List Cond := u_ws RX4 TX4 5
theorem nmX4 : ∀ a, a < 5 → ∀ b, b < 5 → a ≠ b → (TX4 a).2.1 ≠ (TX4 b).2.1 := by decide +kernel
theorem tyX4_ok : ∀ k, k < 5 → parseFieldDescriptor (TX4 k).2.2.1 = some (tyX4 k) := by decide +kernel
abbrev cX4_init : ByteArray := prog_1_method_1_code
def yX4_init : MethodName := ⟨RX4, "<init>", "()V"⟩
abbrev cX4_set : ByteArray := prog_1_method_2_code
def yX4_set : MethodName := ⟨RX4, "set", "(II)I"⟩
abbrev cX4_add : ByteArray := prog_1_method_3_code
def yX4_add : MethodName := ⟨RX4, "add", "(II)I"⟩
abbrev cX4_move : ByteArray := prog_1_method_5_code
def yX4_move : MethodName := ⟨RX4, "move", "(II)I"⟩
abbrev cX4_stepDown : ByteArray := prog_1_method_6_code
def yX4_stepDown : MethodName := ⟨RX4, "stepDown", "()I"⟩
abbrev cX4_appeal : ByteArray := prog_1_method_7_code
def yX4_appeal : MethodName := ⟨RX4, "appeal", "(I)I"⟩
abbrev cX4_give : ByteArray := prog_1_method_8_code
def yX4_give : MethodName := ⟨RX4, "give", "(I)I"⟩
abbrev cX4_pass : ByteArray := prog_1_method_9_code
def yX4_pass : MethodName := ⟨RX4, "pass", "(I)I"⟩
abbrev cX4_person : ByteArray := prog_1_method_10_code
def yX4_person : MethodName := ⟨RX4, "person", "(II)I"⟩
abbrev cX4_count : ByteArray := prog_1_method_11_code
def yX4_count : MethodName := ⟨RX4, "count", "(I)I"⟩
abbrev cX4_next : ByteArray := prog_1_method_12_code
def yX4_next : MethodName := ⟨RX4, "next", "(I)I"⟩
abbrev cX4_untilEmpty : ByteArray := prog_1_method_13_code
def yX4_untilEmpty : MethodName := ⟨RX4, "untilEmpty", "()I"⟩
abbrev cX4_ifPassed : ByteArray := prog_1_method_14_code
def yX4_ifPassed : MethodName := ⟨RX4, "ifPassed", "(II)I"⟩
abbrev cX4_bestPlace : ByteArray := prog_1_method_15_code
def yX4_bestPlace : MethodName := ⟨RX4, "bestPlace", "(II)I"⟩
abbrev cX4_undo : ByteArray := prog_1_method_19_code
def yX4_undo : MethodName := ⟨RX4, "undo", "()I"⟩
abbrev cX4_save : ByteArray := prog_1_method_20_code
def yX4_save : MethodName := ⟨RX4, "save", "(I)I"⟩
abbrev cX4_restore : ByteArray := prog_1_method_21_code
def yX4_restore : MethodName := ⟨RX4, "restore", "(I)I"⟩
abbrev cX4_isSetting : ByteArray := prog_1_method_22_code
def yX4_isSetting : MethodName := ⟨RX4, "isSetting", "(I)Z"⟩
abbrev cX4_isSlot : ByteArray := prog_1_method_23_code
def yX4_isSlot : MethodName := ⟨RX4, "isSlot", "(I)Z"⟩
abbrev cX4_daysAsGuardianIfMoved : ByteArray := prog_1_method_24_code
def yX4_daysAsGuardianIfMoved : MethodName := ⟨RX4, "daysAsGuardianIfMoved", "(II)I"⟩
def RX5 : String := "PurrProbatesModel"
def TX5 : u_T := fun k => match k with
  | _ => ("", "", "", false)
def tyX5 : Nat → FieldType := fun k => match k with
  | _ => .int
abbrev wsX50 : List Cond := u_ws RX5 TX5 0
theorem nmX5 : ∀ a, a < 0 → ∀ b, b < 0 → a ≠ b → (TX5 a).2.1 ≠ (TX5 b).2.1 := by decide +kernel
theorem tyX5_ok : ∀ k, k < 0 → parseFieldDescriptor (TX5 k).2.2.1 = some (tyX5 k) := by decide +kernel
def RJx8e188 : String := "java/lang/Cloneable"
def TJx8e188 : u_T := fun k => match k with
  | _ => ("", "", "", false)
def tyJx8e188 : Nat → FieldType := fun k => match k with
  | _ => .int
abbrev wsJx8e1880 : List Cond := u_ws RJx8e188 TJx8e188 0
theorem nmJx8e188 : ∀ a, a < 0 → ∀ b, b < 0 → a ≠ b → (TJx8e188 a).2.1 ≠ (TJx8e188 b).2.1 := by decide +kernel
theorem tyJx8e188_ok : ∀ k, k < 0 → parseFieldDescriptor (TJx8e188 k).2.2.1 = some (tyJx8e188 k) := by decide +kernel
def RJ6 : String := "java/lang/Integer"
def TJ6 : u_T := fun k => match k with
  | _ => ("", "", "", false)
def tyJ6 : Nat → FieldType := fun k => match k with
  | _ => .int
abbrev wsJ60 : List Cond := u_ws RJ6 TJ6 0
theorem nmJ6 : ∀ a, a < 0 → ∀ b, b < 0 → a ≠ b → (TJ6 a).2.1 ≠ (TJ6 b).2.1 := by decide +kernel
theorem tyJ6_ok : ∀ k, k < 0 → parseFieldDescriptor (TJ6 k).2.2.1 = some (tyJ6 k) := by decide +kernel
abbrev cJ6_compare_7cf53 : ByteArray := prog_9_method_40_code
def yJ6_compare_7cf53 : MethodName := ⟨RJ6, "compare", "(II)I"⟩
def RJ9 : String := "java/lang/Math"
def TJ9 : u_T := fun k => match k with
  | _ => ("", "", "", false)
def tyJ9 : Nat → FieldType := fun k => match k with
  | _ => .int
abbrev wsJ90 : List Cond := u_ws RJ9 TJ9 0
theorem nmJ9 : ∀ a, a < 0 → ∀ b, b < 0 → a ≠ b → (TJ9 a).2.1 ≠ (TJ9 b).2.1 := by decide +kernel
theorem tyJ9_ok : ∀ k, k < 0 → parseFieldDescriptor (TJ9 k).2.2.1 = some (tyJ9 k) := by decide +kernel
abbrev cJ9_abs_0f7a4 : ByteArray := prog_10_method_59_code
def yJ9_abs_0f7a4 : MethodName := ⟨RJ9, "abs", "(I)I"⟩
abbrev cJ9_max_7cf53 : ByteArray := prog_10_method_65_code
def yJ9_max_7cf53 : MethodName := ⟨RJ9, "max", "(II)I"⟩
abbrev cJ9_min_7cf53 : ByteArray := prog_10_method_69_code
def yJ9_min_7cf53 : MethodName := ⟨RJ9, "min", "(II)I"⟩
def RJ10 : String := "java/lang/System"
def TJ10 : u_T := fun k => match k with
  | _ => ("", "", "", false)
def tyJ10 : Nat → FieldType := fun k => match k with
  | _ => .int
abbrev wsJ100 : List Cond := u_ws RJ10 TJ10 0
theorem nmJ10 : ∀ a, a < 0 → ∀ b, b < 0 → a ≠ b → (TJ10 a).2.1 ≠ (TJ10 b).2.1 := by decide +kernel
theorem tyJ10_ok : ∀ k, k < 0 → parseFieldDescriptor (TJ10 k).2.2.1 = some (tyJ10 k) := by decide +kernel
def RL : String := "PurrProbatesLaw"
abbrev cL_cell : ByteArray := method_2_code
def yL_cell : MethodName := ⟨RL, "cell", "([II)I"⟩
abbrev cL_low : ByteArray := method_3_code
def yL_low : MethodName := ⟨RL, "low", "(II)I"⟩
abbrev cL_areAll : ByteArray := method_4_code
def yL_areAll : MethodName := ⟨RL, "areAll", "(LPurrProbates;)Z"⟩
abbrev cL_isDay : ByteArray := method_5_code
def yL_isDay : MethodName := ⟨RL, "isDay", "(LPurrProbates;)Z"⟩
abbrev cL_areDays : ByteArray := method_6_code
def yL_areDays : MethodName := ⟨RL, "areDays", "(LPurrProbates;I)Z"⟩
abbrev cL_isAppeal : ByteArray := method_7_code
def yL_isAppeal : MethodName := ⟨RL, "isAppeal", "(LPurrProbates;I)Z"⟩
abbrev cL_isBest : ByteArray := method_8_code
def yL_isBest : MethodName := ⟨RL, "isBest", "(LPurrProbates;I)Z"⟩
abbrev cL_isMoved : ByteArray := method_9_code
def yL_isMoved : MethodName := ⟨RL, "isMoved", "(LPurrProbates;II)Z"⟩
abbrev cL_does : ByteArray := method_10_code
def yL_does : MethodName := ⟨RL, "does", "(LPurrProbates;II)Z"⟩
abbrev cL_law : ByteArray := code
def yL_law : MethodName := ⟨RL, "law", "([I)Z"⟩
abbrev vwCl : List vw_C := [(RX0, TX0, 2), (RX1, TX1, 2), (RX2, TX2, 6), (RX3, TX3, 13), (RX4, TX4, 5)]
