section
-- ===== PART A: goes FIRST, ahead of the names: the tables' words, and 'selects' of the private methods out of them =====
/-- a private method of a class that the tables say can be made, by its rows of tables_1 -/
def lw_okq (q : MethodName × Nat) : Prop := (q.1.cls ≠ "java/lang/invoke/MethodHandle" ∧ q.1.cls ≠ "java/lang/invoke/VarHandle") ∧ Cond.instantiable q.1.cls q.2 ∈ tables_1 ∧ Cond.privateMethod q.1 ∈ tables_1 ∧ Cond.instanceMethod q.1 ∈ tables_1
theorem lw_p0 : lw_okq (⟨"PurrProbates", "daysAsGuardianIfMoved", "(II)I"⟩, 5) := ⟨⟨by decide +kernel, by decide +kernel⟩, List.mem_of_getElem? (i := 10) (by decide +kernel), List.mem_of_getElem? (i := 382) (by decide +kernel), List.mem_of_getElem? (i := 383) (by decide +kernel)⟩
def lw_privs_1 : List (MethodName × Nat) := [(⟨"PurrProbates", "daysAsGuardianIfMoved", "(II)I"⟩, 5)]
theorem lw_r1 : ∀ q ∈ lw_privs_1, lw_okq q := List.forall_mem_cons.mpr ⟨lw_p0, fun _ h => absurd h List.not_mem_nil⟩
def lw_privs : List (MethodName × Nat) := lw_privs_1
def lw_tbl : List Cond := k2_sels lw_privs ++ tables_1
theorem lw_privs_ok : ∀ q ∈ lw_privs, lw_okq q := lw_r1
/-! ===== BEGIN words of one list among another's, by their places ===== -/
theorem goodIn_r {big : List Cond} (ws : List Cond) (ps : List Nat) (hp : ws = ps.filterMap (fun i => big[i]?)) (h : ws.all goodWord = true) : GoodIn big ws := by
  intro w hw
  have h1 := List.all_eq_true.mp h w hw
  rw [hp] at hw
  obtain ⟨i, -, hi⟩ := List.mem_filterMap.mp hw
  have hm : w ∈ big := by first | exact List.mem_of_getElem? hi | exact List.getElem?_mem hi
  exact ⟨hm, good_of_word h1⟩
theorem goodIn_app {big a b : List Cond} (ha : GoodIn big a) (hb : GoodIn big b) : GoodIn big (a ++ b) := fun w h => (List.mem_append.mp h).elim (ha w) (hb w)
theorem goodIn_ca {big a b : List Cond} {c : Cond} (ha : GoodIn big (c :: a)) (hb : GoodIn big b) : GoodIn big (c :: (a ++ b)) := fun w h => (List.mem_cons.mp h).elim (fun e => ha w (List.mem_cons.mpr (Or.inl e))) (fun h => (List.mem_append.mp h).elim (fun h => ha w (List.mem_cons.mpr (Or.inr h))) (hb w))
theorem goodIn_sub {big ws : List Cond} (hm : ∀ w ∈ ws, w ∈ big) (h : ws.all goodWord = true) : GoodIn big ws := fun w hw => ⟨hm w hw, good_of_word (List.all_eq_true.mp h w hw)⟩
/-! ===== END ===== -/

/-! ===== BEGIN printed: names, fields, word lists, decode rows ===== -/
def RX0 : String := "PurrProbates$History"
def TX0 : u_T := fun k => match k with
  | 0 => ("PurrProbates$History", "states", "[LPurrProbates$State;", true)
  | _ => ("PurrProbates$History", "length", "I", false)
def tyX0 : Nat → FieldType := fun k => match k with
  | 0 => .array (.object "PurrProbates$State")
  | _ => .int
abbrev wsX00 : List Cond := u_ws RX0 TX0 2
theorem nmX0 : ∀ a, a < 2 → ∀ b, b < 2 → a ≠ b → (TX0 a).2.1 ≠ (TX0 b).2.1 := by decide +kernel
theorem tyX0_ok : ∀ k, k < 2 → parseFieldDescriptor (TX0 k).2.2.1 = some (tyX0 k) := by decide +kernel
abbrev cX0_init : ByteArray := prog_2_method_1_code
def yX0_init : MethodName := ⟨RX0, "<init>", "()V"⟩
abbrev cX0_record : ByteArray := prog_2_method_2_code
def yX0_record : MethodName := ⟨RX0, "record", "(LPurrProbates$State;)V"⟩
abbrev cX0_dropOldest : ByteArray := prog_2_method_3_code
def yX0_dropOldest : MethodName := ⟨RX0, "dropOldest", "()V"⟩
abbrev cX0_takeBack : ByteArray := prog_2_method_4_code
def yX0_takeBack : MethodName := ⟨RX0, "takeBack", "(LPurrProbates$State;)V"⟩
def RX1 : String := "PurrProbates$Pad"
def TX1 : u_T := fun k => match k with
  | 0 => ("PurrProbates$Pad", "characters", "[C", true)
  | _ => ("PurrProbates$Pad", "length", "I", false)
def tyX1 : Nat → FieldType := fun k => match k with
  | 0 => .array .char
  | _ => .int
abbrev wsX10 : List Cond := u_ws RX1 TX1 2
theorem nmX1 : ∀ a, a < 2 → ∀ b, b < 2 → a ≠ b → (TX1 a).2.1 ≠ (TX1 b).2.1 := by decide +kernel
theorem tyX1_ok : ∀ k, k < 2 → parseFieldDescriptor (TX1 k).2.2.1 = some (tyX1 k) := by decide +kernel
abbrev cX1_init : ByteArray := prog_3_method_1_code
def yX1_init : MethodName := ⟨RX1, "<init>", "()V"⟩
def RX2 : String := "PurrProbates$Person"
def TX2 : u_T := fun k => match k with
  | 0 => ("PurrProbates$Person", "warmth", "I", false)
  | 1 => ("PurrProbates$Person", "share", "I", false)
  | 2 => ("PurrProbates$Person", "scratches", "I", false)
  | 3 => ("PurrProbates$Person", "purse", "I", false)
  | 4 => ("PurrProbates$Person", "purrs", "I", false)
  | _ => ("PurrProbates$Person", "daysAsGuardian", "I", false)
def tyX2 : Nat → FieldType := fun k => match k with
  | 0 => .int
  | 1 => .int
  | 2 => .int
  | 3 => .int
  | 4 => .int
  | _ => .int
abbrev wsX20 : List Cond := u_ws RX2 TX2 6
theorem nmX2 : ∀ a, a < 6 → ∀ b, b < 6 → a ≠ b → (TX2 a).2.1 ≠ (TX2 b).2.1 := by decide +kernel
theorem tyX2_ok : ∀ k, k < 6 → parseFieldDescriptor (TX2 k).2.2.1 = some (tyX2 k) := by decide +kernel
abbrev cX2_init : ByteArray := prog_4_method_1_code
def yX2_init : MethodName := ⟨RX2, "<init>", "()V"⟩
abbrev cX2_copyFrom : ByteArray := prog_4_method_2_code
def yX2_copyFrom : MethodName := ⟨RX2, "copyFrom", "(LPurrProbates$Person;)V"⟩
abbrev cX2_begin : ByteArray := prog_4_method_3_code
def yX2_begin : MethodName := ⟨RX2, "begin", "(II)V"⟩
def RX3 : String := "PurrProbates$State"
def TX3 : u_T := fun k => match k with
  | 0 => ("PurrProbates$State", "settings", "[I", true)
  | 1 => ("PurrProbates$State", "people", "[LPurrProbates$Person;", true)
  | 2 => ("PurrProbates$State", "size", "I", false)
  | 3 => ("PurrProbates$State", "mood", "I", false)
  | 4 => ("PurrProbates$State", "guardian", "I", false)
  | 5 => ("PurrProbates$State", "turn", "I", false)
  | 6 => ("PurrProbates$State", "estate", "I", false)
  | 7 => ("PurrProbates$State", "days", "I", false)
  | 8 => ("PurrProbates$State", "scratches", "I", false)
  | 9 => ("PurrProbates$State", "purrs", "I", false)
  | 10 => ("PurrProbates$State", "deposed", "I", false)
  | 11 => ("PurrProbates$State", "fed", "I", false)
  | _ => ("PurrProbates$State", "given", "I", false)
def tyX3 : Nat → FieldType := fun k => match k with
  | 0 => .array .int
  | 1 => .array (.object "PurrProbates$Person")
  | 2 => .int
  | 3 => .int
  | 4 => .int
  | 5 => .int
  | 6 => .int
  | 7 => .int
  | 8 => .int
  | 9 => .int
  | 10 => .int
  | 11 => .int
  | _ => .int
abbrev wsX30 : List Cond := u_ws RX3 TX3 13
theorem nmX3 : ∀ a, a < 13 → ∀ b, b < 13 → a ≠ b → (TX3 a).2.1 ≠ (TX3 b).2.1 := by decide +kernel
theorem tyX3_ok : ∀ k, k < 13 → parseFieldDescriptor (TX3 k).2.2.1 = some (tyX3 k) := by decide +kernel
abbrev cX3_init : ByteArray := prog_5_method_1_code
def yX3_init : MethodName := ⟨RX3, "<init>", "()V"⟩
abbrev cX3_copyFrom : ByteArray := prog_5_method_2_code
def yX3_copyFrom : MethodName := ⟨RX3, "copyFrom", "(LPurrProbates$State;)V"⟩
abbrev cX3_at : ByteArray := prog_5_method_3_code
def yX3_at : MethodName := ⟨RX3, "at", "(I)LPurrProbates$Person;"⟩
abbrev cX3_behind : ByteArray := prog_5_method_4_code
def yX3_behind : MethodName := ⟨RX3, "behind", "(I)I"⟩
abbrev cX3_isBarred : ByteArray := prog_5_method_5_code
def yX3_isBarred : MethodName := ⟨RX3, "isBarred", "(LPurrProbates$Person;)Z"⟩
abbrev cX3_score : ByteArray := prog_5_method_6_code
def yX3_score : MethodName := ⟨RX3, "score", "(LPurrProbates$Person;)I"⟩
abbrev cX3_barredPeople : ByteArray := prog_5_method_7_code
def yX3_barredPeople : MethodName := ⟨RX3, "barredPeople", "()I"⟩
abbrev cX3_allPurses : ByteArray := prog_5_method_8_code
def yX3_allPurses : MethodName := ⟨RX3, "allPurses", "()I"⟩
abbrev cX3_admit : ByteArray := prog_5_method_9_code
def yX3_admit : MethodName := ⟨RX3, "\x61dmit", "(II)V"⟩
abbrev cX3_relocate : ByteArray := prog_5_method_10_code
def yX3_relocate : MethodName := ⟨RX3, "relocate", "(II)V"⟩
abbrev cX3_placeAfterMove : ByteArray := prog_5_method_11_code
def yX3_placeAfterMove : MethodName := ⟨RX3, "placeAfterMove", "(III)I"⟩
abbrev cX3_leaveWithoutGuardian : ByteArray := prog_5_method_12_code
def yX3_leaveWithoutGuardian : MethodName := ⟨RX3, "leaveWithoutGuardian", "(I)V"⟩
abbrev cX3_depose : ByteArray := prog_5_method_13_code
def yX3_depose : MethodName := ⟨RX3, "depose", "(I)V"⟩
abbrev cX3_scratch : ByteArray := prog_5_method_14_code
def yX3_scratch : MethodName := ⟨RX3, "scratch", "(LPurrProbates$Person;)V"⟩
abbrev cX3_mayAppeal : ByteArray := prog_5_method_15_code
def yX3_mayAppeal : MethodName := ⟨RX3, "mayAppeal", "(I)Z"⟩
abbrev cX3_hearAppeal : ByteArray := prog_5_method_16_code
def yX3_hearAppeal : MethodName := ⟨RX3, "hearAppeal", "(I)Z"⟩
abbrev cX3_liveDays : ByteArray := prog_5_method_17_code
def yX3_liveDays : MethodName := ⟨RX3, "liveDays", "(I)V"⟩
abbrev cX3_liveDay : ByteArray := prog_5_method_18_code
def yX3_liveDay : MethodName := ⟨RX3, "liveDay", "()I"⟩
abbrev cX3_holdOutHand : ByteArray := prog_5_method_19_code
def yX3_holdOutHand : MethodName := ⟨RX3, "holdOutHand", "()I"⟩
abbrev cX3_nextHand : ByteArray := prog_5_method_20_code
def yX3_nextHand : MethodName := ⟨RX3, "nextHand", "()I"⟩
abbrev cX3_endMonth : ByteArray := prog_5_method_21_code
def yX3_endMonth : MethodName := ⟨RX3, "endMonth", "()V"⟩
abbrev cX3_draw : ByteArray := prog_5_method_22_code
def yX3_draw : MethodName := ⟨RX3, "draw", "(I)I"⟩
def RX4 : String := "PurrProbates"
def TX4 : u_T := fun k => match k with
  | 0 => ("PurrProbates", "now", "LPurrProbates$State;", true)
  | 1 => ("PurrProbates", "trial", "LPurrProbates$State;", true)
  | 2 => ("PurrProbates", "history", "LPurrProbates$History;", true)
  | 3 => ("PurrProbates", "slots", "[LPurrProbates$State;", true)
  | _ => ("PurrProbates", "pad", "LPurrProbates$Pad;", true)
def tyX4 : Nat → FieldType := fun k => match k with
  | 0 => .object "PurrProbates$State"
  | 1 => .object "PurrProbates$State"
  | 2 => .object "PurrProbates$History"
  | 3 => .array (.object "PurrProbates$State")
  | _ => .object "PurrProbates$Pad"
abbrev wsX40 : List Cond := u_ws RX4 TX4 5
theorem nmX4 : ∀ a, a < 5 → ∀ b, b < 5 → a ≠ b → (TX4 a).2.1 ≠ (TX4 b).2.1 := by decide +kernel
theorem tyX4_ok : ∀ k, k < 5 → parseFieldDescriptor (TX4 k).2.2.1 = some (tyX4 k) := by decide +kernel
abbrev cX4_init : ByteArray := prog_1_method_1_code
def yX4_init : MethodName := ⟨RX4, "<init>", "()V"⟩
abbrev cX4_set : ByteArray := prog_1_method_2_code
def yX4_set : MethodName := ⟨RX4, "set", "(II)I"⟩
abbrev cX4_add : ByteArray := prog_1_method_3_code
def yX4_add : MethodName := ⟨RX4, "add", "(II)I"⟩
abbrev cX4_move : ByteArray := prog_1_method_5_code
def yX4_move : MethodName := ⟨RX4, "move", "(II)I"⟩
abbrev cX4_stepDown : ByteArray := prog_1_method_6_code
def yX4_stepDown : MethodName := ⟨RX4, "stepDown", "()I"⟩
abbrev cX4_appeal : ByteArray := prog_1_method_7_code
def yX4_appeal : MethodName := ⟨RX4, "appeal", "(I)I"⟩
abbrev cX4_give : ByteArray := prog_1_method_8_code
def yX4_give : MethodName := ⟨RX4, "give", "(I)I"⟩
abbrev cX4_pass : ByteArray := prog_1_method_9_code
def yX4_pass : MethodName := ⟨RX4, "pass", "(I)I"⟩
abbrev cX4_person : ByteArray := prog_1_method_10_code
def yX4_person : MethodName := ⟨RX4, "person", "(II)I"⟩
abbrev cX4_count : ByteArray := prog_1_method_11_code
def yX4_count : MethodName := ⟨RX4, "count", "(I)I"⟩
abbrev cX4_next : ByteArray := prog_1_method_12_code
def yX4_next : MethodName := ⟨RX4, "next", "(I)I"⟩
abbrev cX4_untilEmpty : ByteArray := prog_1_method_13_code
def yX4_untilEmpty : MethodName := ⟨RX4, "untilEmpty", "()I"⟩
abbrev cX4_ifPassed : ByteArray := prog_1_method_14_code
def yX4_ifPassed : MethodName := ⟨RX4, "ifPassed", "(II)I"⟩
abbrev cX4_bestPlace : ByteArray := prog_1_method_15_code
def yX4_bestPlace : MethodName := ⟨RX4, "bestPlace", "(II)I"⟩
abbrev cX4_undo : ByteArray := prog_1_method_19_code
def yX4_undo : MethodName := ⟨RX4, "undo", "()I"⟩
abbrev cX4_save : ByteArray := prog_1_method_20_code
def yX4_save : MethodName := ⟨RX4, "save", "(I)I"⟩
abbrev cX4_restore : ByteArray := prog_1_method_21_code
def yX4_restore : MethodName := ⟨RX4, "restore", "(I)I"⟩
abbrev cX4_isSetting : ByteArray := prog_1_method_22_code
def yX4_isSetting : MethodName := ⟨RX4, "isSetting", "(I)Z"⟩
abbrev cX4_isSlot : ByteArray := prog_1_method_23_code
def yX4_isSlot : MethodName := ⟨RX4, "isSlot", "(I)Z"⟩
abbrev cX4_daysAsGuardianIfMoved : ByteArray := prog_1_method_24_code
def yX4_daysAsGuardianIfMoved : MethodName := ⟨RX4, "daysAsGuardianIfMoved", "(II)I"⟩
def RX5 : String := "PurrProbatesModel"
def TX5 : u_T := fun k => match k with
  | _ => ("", "", "", false)
def tyX5 : Nat → FieldType := fun k => match k with
  | _ => .int
abbrev wsX50 : List Cond := u_ws RX5 TX5 0
theorem nmX5 : ∀ a, a < 0 → ∀ b, b < 0 → a ≠ b → (TX5 a).2.1 ≠ (TX5 b).2.1 := by decide +kernel
theorem tyX5_ok : ∀ k, k < 0 → parseFieldDescriptor (TX5 k).2.2.1 = some (tyX5 k) := by decide +kernel
def RJx8e188 : String := "java/lang/Cloneable"
def TJx8e188 : u_T := fun k => match k with
  | _ => ("", "", "", false)
def tyJx8e188 : Nat → FieldType := fun k => match k with
  | _ => .int
abbrev wsJx8e1880 : List Cond := u_ws RJx8e188 TJx8e188 0
theorem nmJx8e188 : ∀ a, a < 0 → ∀ b, b < 0 → a ≠ b → (TJx8e188 a).2.1 ≠ (TJx8e188 b).2.1 := by decide +kernel
theorem tyJx8e188_ok : ∀ k, k < 0 → parseFieldDescriptor (TJx8e188 k).2.2.1 = some (tyJx8e188 k) := by decide +kernel
def RJ6 : String := "java/lang/Integer"
def TJ6 : u_T := fun k => match k with
  | _ => ("", "", "", false)
def tyJ6 : Nat → FieldType := fun k => match k with
  | _ => .int
abbrev wsJ60 : List Cond := u_ws RJ6 TJ6 0
theorem nmJ6 : ∀ a, a < 0 → ∀ b, b < 0 → a ≠ b → (TJ6 a).2.1 ≠ (TJ6 b).2.1 := by decide +kernel
theorem tyJ6_ok : ∀ k, k < 0 → parseFieldDescriptor (TJ6 k).2.2.1 = some (tyJ6 k) := by decide +kernel
abbrev cJ6_compare_7cf53 : ByteArray := prog_9_method_40_code
def yJ6_compare_7cf53 : MethodName := ⟨RJ6, "compare", "(II)I"⟩
def RJ9 : String := "java/lang/Math"
def TJ9 : u_T := fun k => match k with
  | _ => ("", "", "", false)
def tyJ9 : Nat → FieldType := fun k => match k with
  | _ => .int
abbrev wsJ90 : List Cond := u_ws RJ9 TJ9 0
theorem nmJ9 : ∀ a, a < 0 → ∀ b, b < 0 → a ≠ b → (TJ9 a).2.1 ≠ (TJ9 b).2.1 := by decide +kernel
theorem tyJ9_ok : ∀ k, k < 0 → parseFieldDescriptor (TJ9 k).2.2.1 = some (tyJ9 k) := by decide +kernel
abbrev cJ9_abs_0f7a4 : ByteArray := prog_10_method_59_code
def yJ9_abs_0f7a4 : MethodName := ⟨RJ9, "abs", "(I)I"⟩
abbrev cJ9_max_7cf53 : ByteArray := prog_10_method_65_code
def yJ9_max_7cf53 : MethodName := ⟨RJ9, "max", "(II)I"⟩
abbrev cJ9_min_7cf53 : ByteArray := prog_10_method_69_code
def yJ9_min_7cf53 : MethodName := ⟨RJ9, "min", "(II)I"⟩
def RJ10 : String := "java/lang/System"
def TJ10 : u_T := fun k => match k with
  | _ => ("", "", "", false)
def tyJ10 : Nat → FieldType := fun k => match k with
  | _ => .int
abbrev wsJ100 : List Cond := u_ws RJ10 TJ10 0
theorem nmJ10 : ∀ a, a < 0 → ∀ b, b < 0 → a ≠ b → (TJ10 a).2.1 ≠ (TJ10 b).2.1 := by decide +kernel
theorem tyJ10_ok : ∀ k, k < 0 → parseFieldDescriptor (TJ10 k).2.2.1 = some (tyJ10 k) := by decide +kernel
def RL : String := "PurrProbatesLaw"
abbrev cL_cell : ByteArray := method_2_code
def yL_cell : MethodName := ⟨RL, "cell", "([II)I"⟩
abbrev cL_low : ByteArray := method_3_code
def yL_low : MethodName := ⟨RL, "low", "(II)I"⟩
abbrev cL_areAll : ByteArray := method_4_code
def yL_areAll : MethodName := ⟨RL, "areAll", "(LPurrProbates;)Z"⟩
abbrev cL_isDay : ByteArray := method_5_code
def yL_isDay : MethodName := ⟨RL, "isDay", "(LPurrProbates;)Z"⟩
abbrev cL_areDays : ByteArray := method_6_code
def yL_areDays : MethodName := ⟨RL, "areDays", "(LPurrProbates;I)Z"⟩
abbrev cL_isAppeal : ByteArray := method_7_code
def yL_isAppeal : MethodName := ⟨RL, "isAppeal", "(LPurrProbates;I)Z"⟩
abbrev cL_isBest : ByteArray := method_8_code
def yL_isBest : MethodName := ⟨RL, "isBest", "(LPurrProbates;I)Z"⟩
abbrev cL_isMoved : ByteArray := method_9_code
def yL_isMoved : MethodName := ⟨RL, "isMoved", "(LPurrProbates;II)Z"⟩
abbrev cL_does : ByteArray := method_10_code
def yL_does : MethodName := ⟨RL, "does", "(LPurrProbates;II)Z"⟩
abbrev cL_law : ByteArray := code
def yL_law : MethodName := ⟨RL, "law", "([I)Z"⟩
abbrev vwCl : List vw_C := [(RX0, TX0, 2), (RX1, TX1, 2), (RX2, TX2, 6), (RX3, TX3, 13), (RX4, TX4, 5)]
end
section
theorem dX0_init_0 : decode cX0_init 0 = .ok (.aload_n 0, 1) := by decide +kernel
theorem dX0_init_1 : decode cX0_init 1 = .ok (.invokespecial 3, 3) := by decide +kernel
theorem dX0_init_4 : decode cX0_init 4 = .ok (.aload_n 0, 1) := by decide +kernel
theorem dX0_init_5 : decode cX0_init 5 = .ok (.bipush 6, 2) := by decide +kernel
theorem dX0_init_7 : decode cX0_init 7 = .ok (.anewarray 9, 3) := by decide +kernel
theorem dX0_init_10 : decode cX0_init 10 = .ok (.putfield 11, 3) := by decide +kernel
theorem dX0_init_13 : decode cX0_init 13 = .ok (.aload_n 0, 1) := by decide +kernel
theorem dX0_init_14 : decode cX0_init 14 = .ok (.iconst 0, 1) := by decide +kernel
theorem dX0_init_15 : decode cX0_init 15 = .ok (.putfield 17, 3) := by decide +kernel
theorem dX0_init_18 : decode cX0_init 18 = .ok (.iconst 0, 1) := by decide +kernel
theorem dX0_init_19 : decode cX0_init 19 = .ok (.istore_n 1, 1) := by decide +kernel
theorem dX0_init_20 : decode cX0_init 20 = .ok (.iload_n 1, 1) := by decide +kernel
theorem dX0_init_21 : decode cX0_init 21 = .ok (.bipush 6, 2) := by decide +kernel
theorem dX0_init_23 : decode cX0_init 23 = .ok (.if_icmp .ge 22, 3) := by decide +kernel
theorem dX0_init_26 : decode cX0_init 26 = .ok (.aload_n 0, 1) := by decide +kernel
theorem dX0_init_27 : decode cX0_init 27 = .ok (.getfield 11, 3) := by decide +kernel
theorem dX0_init_30 : decode cX0_init 30 = .ok (.iload_n 1, 1) := by decide +kernel
theorem dX0_init_31 : decode cX0_init 31 = .ok (.new 9, 3) := by decide +kernel
theorem dX0_init_34 : decode cX0_init 34 = .ok (.dup, 1) := by decide +kernel
theorem dX0_init_35 : decode cX0_init 35 = .ok (.invokespecial 21, 3) := by decide +kernel
theorem dX0_init_38 : decode cX0_init 38 = .ok (.aastore, 1) := by decide +kernel
theorem dX0_init_39 : decode cX0_init 39 = .ok (.iinc 1 1, 3) := by decide +kernel
theorem dX0_init_42 : decode cX0_init 42 = .ok (.goto (-22), 3) := by decide +kernel
theorem dX0_init_45 : decode cX0_init 45 = .ok (.return_, 1) := by decide +kernel
theorem dX0_record_0 : decode cX0_record 0 = .ok (.aload_n 0, 1) := by decide +kernel
theorem dX0_record_1 : decode cX0_record 1 = .ok (.getfield 17, 3) := by decide +kernel
theorem dX0_record_4 : decode cX0_record 4 = .ok (.bipush 6, 2) := by decide +kernel
theorem dX0_record_6 : decode cX0_record 6 = .ok (.if_icmp .lt 7, 3) := by decide +kernel
theorem dX0_record_9 : decode cX0_record 9 = .ok (.aload_n 0, 1) := by decide +kernel
theorem dX0_record_10 : decode cX0_record 10 = .ok (.invokevirtual 22, 3) := by decide +kernel
theorem dX0_record_13 : decode cX0_record 13 = .ok (.aload_n 0, 1) := by decide +kernel
theorem dX0_record_14 : decode cX0_record 14 = .ok (.getfield 17, 3) := by decide +kernel
theorem dX0_record_17 : decode cX0_record 17 = .ok (.ifCond .lt 47, 3) := by decide +kernel
theorem dX0_record_20 : decode cX0_record 20 = .ok (.aload_n 0, 1) := by decide +kernel
theorem dX0_record_21 : decode cX0_record 21 = .ok (.getfield 17, 3) := by decide +kernel
theorem dX0_record_24 : decode cX0_record 24 = .ok (.bipush 6, 2) := by decide +kernel
theorem dX0_record_26 : decode cX0_record 26 = .ok (.if_icmp .ge 38, 3) := by decide +kernel
theorem dX0_record_29 : decode cX0_record 29 = .ok (.aload_n 0, 1) := by decide +kernel
theorem dX0_record_30 : decode cX0_record 30 = .ok (.getfield 11, 3) := by decide +kernel
theorem dX0_record_33 : decode cX0_record 33 = .ok (.aload_n 0, 1) := by decide +kernel
theorem dX0_record_34 : decode cX0_record 34 = .ok (.getfield 17, 3) := by decide +kernel
theorem dX0_record_37 : decode cX0_record 37 = .ok (.aaload, 1) := by decide +kernel
theorem dX0_record_38 : decode cX0_record 38 = .ok (.ifnull 26, 3) := by decide +kernel
theorem dX0_record_41 : decode cX0_record 41 = .ok (.aload_n 0, 1) := by decide +kernel
theorem dX0_record_42 : decode cX0_record 42 = .ok (.getfield 11, 3) := by decide +kernel
theorem dX0_record_45 : decode cX0_record 45 = .ok (.aload_n 0, 1) := by decide +kernel
theorem dX0_record_46 : decode cX0_record 46 = .ok (.getfield 17, 3) := by decide +kernel
theorem dX0_record_49 : decode cX0_record 49 = .ok (.aaload, 1) := by decide +kernel
theorem dX0_record_50 : decode cX0_record 50 = .ok (.aload_n 1, 1) := by decide +kernel
theorem dX0_record_51 : decode cX0_record 51 = .ok (.invokevirtual 25, 3) := by decide +kernel
theorem dX0_record_54 : decode cX0_record 54 = .ok (.aload_n 0, 1) := by decide +kernel
theorem dX0_record_55 : decode cX0_record 55 = .ok (.dup, 1) := by decide +kernel
theorem dX0_record_56 : decode cX0_record 56 = .ok (.getfield 17, 3) := by decide +kernel
theorem dX0_record_59 : decode cX0_record 59 = .ok (.iconst 1, 1) := by decide +kernel
theorem dX0_record_60 : decode cX0_record 60 = .ok (.iadd, 1) := by decide +kernel
theorem dX0_record_61 : decode cX0_record 61 = .ok (.putfield 17, 3) := by decide +kernel
theorem dX0_record_64 : decode cX0_record 64 = .ok (.return_, 1) := by decide +kernel
theorem dX0_dropOldest_0 : decode cX0_dropOldest 0 = .ok (.aload_n 0, 1) := by decide +kernel
theorem dX0_dropOldest_1 : decode cX0_dropOldest 1 = .ok (.getfield 11, 3) := by decide +kernel
theorem dX0_dropOldest_4 : decode cX0_dropOldest 4 = .ok (.iconst 0, 1) := by decide +kernel
theorem dX0_dropOldest_5 : decode cX0_dropOldest 5 = .ok (.aaload, 1) := by decide +kernel
theorem dX0_dropOldest_6 : decode cX0_dropOldest 6 = .ok (.astore_n 1, 1) := by decide +kernel
theorem dX0_dropOldest_7 : decode cX0_dropOldest 7 = .ok (.iconst 1, 1) := by decide +kernel
theorem dX0_dropOldest_8 : decode cX0_dropOldest 8 = .ok (.istore_n 2, 1) := by decide +kernel
theorem dX0_dropOldest_9 : decode cX0_dropOldest 9 = .ok (.iload_n 2, 1) := by decide +kernel
theorem dX0_dropOldest_10 : decode cX0_dropOldest 10 = .ok (.bipush 6, 2) := by decide +kernel
theorem dX0_dropOldest_12 : decode cX0_dropOldest 12 = .ok (.if_icmp .ge 23, 3) := by decide +kernel
theorem dX0_dropOldest_15 : decode cX0_dropOldest 15 = .ok (.aload_n 0, 1) := by decide +kernel
theorem dX0_dropOldest_16 : decode cX0_dropOldest 16 = .ok (.getfield 11, 3) := by decide +kernel
theorem dX0_dropOldest_19 : decode cX0_dropOldest 19 = .ok (.iload_n 2, 1) := by decide +kernel
theorem dX0_dropOldest_20 : decode cX0_dropOldest 20 = .ok (.iconst 1, 1) := by decide +kernel
theorem dX0_dropOldest_21 : decode cX0_dropOldest 21 = .ok (.isub, 1) := by decide +kernel
theorem dX0_dropOldest_22 : decode cX0_dropOldest 22 = .ok (.aload_n 0, 1) := by decide +kernel
theorem dX0_dropOldest_23 : decode cX0_dropOldest 23 = .ok (.getfield 11, 3) := by decide +kernel
theorem dX0_dropOldest_26 : decode cX0_dropOldest 26 = .ok (.iload_n 2, 1) := by decide +kernel
theorem dX0_dropOldest_27 : decode cX0_dropOldest 27 = .ok (.aaload, 1) := by decide +kernel
theorem dX0_dropOldest_28 : decode cX0_dropOldest 28 = .ok (.aastore, 1) := by decide +kernel
theorem dX0_dropOldest_29 : decode cX0_dropOldest 29 = .ok (.iinc 2 1, 3) := by decide +kernel
theorem dX0_dropOldest_32 : decode cX0_dropOldest 32 = .ok (.goto (-23), 3) := by decide +kernel
theorem dX0_dropOldest_35 : decode cX0_dropOldest 35 = .ok (.aload_n 0, 1) := by decide +kernel
theorem dX0_dropOldest_36 : decode cX0_dropOldest 36 = .ok (.getfield 11, 3) := by decide +kernel
theorem dX0_dropOldest_39 : decode cX0_dropOldest 39 = .ok (.iconst 5, 1) := by decide +kernel
theorem dX0_dropOldest_40 : decode cX0_dropOldest 40 = .ok (.aload_n 1, 1) := by decide +kernel
theorem dX0_dropOldest_41 : decode cX0_dropOldest 41 = .ok (.aastore, 1) := by decide +kernel
theorem dX0_dropOldest_42 : decode cX0_dropOldest 42 = .ok (.aload_n 0, 1) := by decide +kernel
theorem dX0_dropOldest_43 : decode cX0_dropOldest 43 = .ok (.iconst 5, 1) := by decide +kernel
theorem dX0_dropOldest_44 : decode cX0_dropOldest 44 = .ok (.putfield 17, 3) := by decide +kernel
theorem dX0_dropOldest_47 : decode cX0_dropOldest 47 = .ok (.return_, 1) := by decide +kernel
theorem dX0_takeBack_0 : decode cX0_takeBack 0 = .ok (.aload_n 0, 1) := by decide +kernel
theorem dX0_takeBack_1 : decode cX0_takeBack 1 = .ok (.getfield 17, 3) := by decide +kernel
theorem dX0_takeBack_4 : decode cX0_takeBack 4 = .ok (.iconst 1, 1) := by decide +kernel
theorem dX0_takeBack_5 : decode cX0_takeBack 5 = .ok (.if_icmp .lt 26, 3) := by decide +kernel
theorem dX0_takeBack_8 : decode cX0_takeBack 8 = .ok (.aload_n 0, 1) := by decide +kernel
theorem dX0_takeBack_9 : decode cX0_takeBack 9 = .ok (.getfield 17, 3) := by decide +kernel
theorem dX0_takeBack_12 : decode cX0_takeBack 12 = .ok (.bipush 6, 2) := by decide +kernel
theorem dX0_takeBack_14 : decode cX0_takeBack 14 = .ok (.if_icmp .gt 17, 3) := by decide +kernel
theorem dX0_takeBack_17 : decode cX0_takeBack 17 = .ok (.aload_n 0, 1) := by decide +kernel
theorem dX0_takeBack_18 : decode cX0_takeBack 18 = .ok (.getfield 11, 3) := by decide +kernel
theorem dX0_takeBack_21 : decode cX0_takeBack 21 = .ok (.aload_n 0, 1) := by decide +kernel
theorem dX0_takeBack_22 : decode cX0_takeBack 22 = .ok (.getfield 17, 3) := by decide +kernel
theorem dX0_takeBack_25 : decode cX0_takeBack 25 = .ok (.iconst 1, 1) := by decide +kernel
theorem dX0_takeBack_26 : decode cX0_takeBack 26 = .ok (.isub, 1) := by decide +kernel
theorem dX0_takeBack_27 : decode cX0_takeBack 27 = .ok (.aaload, 1) := by decide +kernel
theorem dX0_takeBack_28 : decode cX0_takeBack 28 = .ok (.ifnonnull 4, 3) := by decide +kernel
theorem dX0_takeBack_31 : decode cX0_takeBack 31 = .ok (.return_, 1) := by decide +kernel
theorem dX0_takeBack_32 : decode cX0_takeBack 32 = .ok (.aload_n 0, 1) := by decide +kernel
theorem dX0_takeBack_33 : decode cX0_takeBack 33 = .ok (.dup, 1) := by decide +kernel
theorem dX0_takeBack_34 : decode cX0_takeBack 34 = .ok (.getfield 17, 3) := by decide +kernel
theorem dX0_takeBack_37 : decode cX0_takeBack 37 = .ok (.iconst 1, 1) := by decide +kernel
theorem dX0_takeBack_38 : decode cX0_takeBack 38 = .ok (.isub, 1) := by decide +kernel
theorem dX0_takeBack_39 : decode cX0_takeBack 39 = .ok (.putfield 17, 3) := by decide +kernel
theorem dX0_takeBack_42 : decode cX0_takeBack 42 = .ok (.aload_n 1, 1) := by decide +kernel
theorem dX0_takeBack_43 : decode cX0_takeBack 43 = .ok (.aload_n 0, 1) := by decide +kernel
theorem dX0_takeBack_44 : decode cX0_takeBack 44 = .ok (.getfield 11, 3) := by decide +kernel
theorem dX0_takeBack_47 : decode cX0_takeBack 47 = .ok (.aload_n 0, 1) := by decide +kernel
theorem dX0_takeBack_48 : decode cX0_takeBack 48 = .ok (.getfield 17, 3) := by decide +kernel
theorem dX0_takeBack_51 : decode cX0_takeBack 51 = .ok (.aaload, 1) := by decide +kernel
theorem dX0_takeBack_52 : decode cX0_takeBack 52 = .ok (.invokevirtual 25, 3) := by decide +kernel
theorem dX0_takeBack_55 : decode cX0_takeBack 55 = .ok (.return_, 1) := by decide +kernel
theorem dX1_init_0 : decode cX1_init 0 = .ok (.aload_n 0, 1) := by decide +kernel
theorem dX1_init_1 : decode cX1_init 1 = .ok (.invokespecial 3, 3) := by decide +kernel
theorem dX1_init_4 : decode cX1_init 4 = .ok (.aload_n 0, 1) := by decide +kernel
theorem dX1_init_5 : decode cX1_init 5 = .ok (.bipush 60, 2) := by decide +kernel
theorem dX1_init_7 : decode cX1_init 7 = .ok (.newarray .char, 2) := by decide +kernel
theorem dX1_init_9 : decode cX1_init 9 = .ok (.putfield 9, 3) := by decide +kernel
theorem dX1_init_12 : decode cX1_init 12 = .ok (.aload_n 0, 1) := by decide +kernel
theorem dX1_init_13 : decode cX1_init 13 = .ok (.iconst 0, 1) := by decide +kernel
theorem dX1_init_14 : decode cX1_init 14 = .ok (.putfield 15, 3) := by decide +kernel
theorem dX1_init_17 : decode cX1_init 17 = .ok (.return_, 1) := by decide +kernel
theorem dX2_init_0 : decode cX2_init 0 = .ok (.aload_n 0, 1) := by decide +kernel
theorem dX2_init_1 : decode cX2_init 1 = .ok (.invokespecial 1, 3) := by decide +kernel
theorem dX2_init_4 : decode cX2_init 4 = .ok (.return_, 1) := by decide +kernel
theorem dX2_copyFrom_0 : decode cX2_copyFrom 0 = .ok (.aload_n 0, 1) := by decide +kernel
theorem dX2_copyFrom_1 : decode cX2_copyFrom 1 = .ok (.aload_n 1, 1) := by decide +kernel
theorem dX2_copyFrom_2 : decode cX2_copyFrom 2 = .ok (.getfield 7, 3) := by decide +kernel
theorem dX2_copyFrom_5 : decode cX2_copyFrom 5 = .ok (.putfield 7, 3) := by decide +kernel
theorem dX2_copyFrom_8 : decode cX2_copyFrom 8 = .ok (.aload_n 0, 1) := by decide +kernel
theorem dX2_copyFrom_9 : decode cX2_copyFrom 9 = .ok (.aload_n 1, 1) := by decide +kernel
theorem dX2_copyFrom_10 : decode cX2_copyFrom 10 = .ok (.getfield 13, 3) := by decide +kernel
theorem dX2_copyFrom_13 : decode cX2_copyFrom 13 = .ok (.putfield 13, 3) := by decide +kernel
theorem dX2_copyFrom_16 : decode cX2_copyFrom 16 = .ok (.aload_n 0, 1) := by decide +kernel
theorem dX2_copyFrom_17 : decode cX2_copyFrom 17 = .ok (.aload_n 1, 1) := by decide +kernel
theorem dX2_copyFrom_18 : decode cX2_copyFrom 18 = .ok (.getfield 16, 3) := by decide +kernel
theorem dX2_copyFrom_21 : decode cX2_copyFrom 21 = .ok (.putfield 16, 3) := by decide +kernel
theorem dX2_copyFrom_24 : decode cX2_copyFrom 24 = .ok (.aload_n 0, 1) := by decide +kernel
theorem dX2_copyFrom_25 : decode cX2_copyFrom 25 = .ok (.aload_n 1, 1) := by decide +kernel
theorem dX2_copyFrom_26 : decode cX2_copyFrom 26 = .ok (.getfield 19, 3) := by decide +kernel
theorem dX2_copyFrom_29 : decode cX2_copyFrom 29 = .ok (.putfield 19, 3) := by decide +kernel
theorem dX2_copyFrom_32 : decode cX2_copyFrom 32 = .ok (.aload_n 0, 1) := by decide +kernel
theorem dX2_copyFrom_33 : decode cX2_copyFrom 33 = .ok (.aload_n 1, 1) := by decide +kernel
theorem dX2_copyFrom_34 : decode cX2_copyFrom 34 = .ok (.getfield 22, 3) := by decide +kernel
theorem dX2_copyFrom_37 : decode cX2_copyFrom 37 = .ok (.putfield 22, 3) := by decide +kernel
theorem dX2_copyFrom_40 : decode cX2_copyFrom 40 = .ok (.aload_n 0, 1) := by decide +kernel
theorem dX2_copyFrom_41 : decode cX2_copyFrom 41 = .ok (.aload_n 1, 1) := by decide +kernel
theorem dX2_copyFrom_42 : decode cX2_copyFrom 42 = .ok (.getfield 25, 3) := by decide +kernel
theorem dX2_copyFrom_45 : decode cX2_copyFrom 45 = .ok (.putfield 25, 3) := by decide +kernel
theorem dX2_copyFrom_48 : decode cX2_copyFrom 48 = .ok (.return_, 1) := by decide +kernel
theorem dX2_begin_0 : decode cX2_begin 0 = .ok (.aload_n 0, 1) := by decide +kernel
theorem dX2_begin_1 : decode cX2_begin 1 = .ok (.iload_n 1, 1) := by decide +kernel
theorem dX2_begin_2 : decode cX2_begin 2 = .ok (.putfield 7, 3) := by decide +kernel
theorem dX2_begin_5 : decode cX2_begin 5 = .ok (.aload_n 0, 1) := by decide +kernel
theorem dX2_begin_6 : decode cX2_begin 6 = .ok (.iload_n 2, 1) := by decide +kernel
theorem dX2_begin_7 : decode cX2_begin 7 = .ok (.putfield 13, 3) := by decide +kernel
theorem dX2_begin_10 : decode cX2_begin 10 = .ok (.aload_n 0, 1) := by decide +kernel
theorem dX2_begin_11 : decode cX2_begin 11 = .ok (.iconst 0, 1) := by decide +kernel
theorem dX2_begin_12 : decode cX2_begin 12 = .ok (.putfield 16, 3) := by decide +kernel
theorem dX2_begin_15 : decode cX2_begin 15 = .ok (.aload_n 0, 1) := by decide +kernel
theorem dX2_begin_16 : decode cX2_begin 16 = .ok (.iconst 0, 1) := by decide +kernel
theorem dX2_begin_17 : decode cX2_begin 17 = .ok (.putfield 19, 3) := by decide +kernel
theorem dX2_begin_20 : decode cX2_begin 20 = .ok (.aload_n 0, 1) := by decide +kernel
theorem dX2_begin_21 : decode cX2_begin 21 = .ok (.iconst 0, 1) := by decide +kernel
theorem dX2_begin_22 : decode cX2_begin 22 = .ok (.putfield 22, 3) := by decide +kernel
theorem dX2_begin_25 : decode cX2_begin 25 = .ok (.aload_n 0, 1) := by decide +kernel
theorem dX2_begin_26 : decode cX2_begin 26 = .ok (.iconst 0, 1) := by decide +kernel
theorem dX2_begin_27 : decode cX2_begin 27 = .ok (.putfield 25, 3) := by decide +kernel
theorem dX2_begin_30 : decode cX2_begin 30 = .ok (.return_, 1) := by decide +kernel
theorem dX3_init_0 : decode cX3_init 0 = .ok (.aload_n 0, 1) := by decide +kernel
theorem dX3_init_1 : decode cX3_init 1 = .ok (.invokespecial 3, 3) := by decide +kernel
theorem dX3_init_4 : decode cX3_init 4 = .ok (.aload_n 0, 1) := by decide +kernel
theorem dX3_init_5 : decode cX3_init 5 = .ok (.getstatic 9, 3) := by decide +kernel
theorem dX3_init_8 : decode cX3_init 8 = .ok (.invokevirtual 13, 3) := by decide +kernel
theorem dX3_init_11 : decode cX3_init 11 = .ok (.checkcast 14, 3) := by decide +kernel
theorem dX3_init_14 : decode cX3_init 14 = .ok (.putfield 18, 3) := by decide +kernel
theorem dX3_init_17 : decode cX3_init 17 = .ok (.aload_n 0, 1) := by decide +kernel
theorem dX3_init_18 : decode cX3_init 18 = .ok (.bipush 8, 2) := by decide +kernel
theorem dX3_init_20 : decode cX3_init 20 = .ok (.anewarray 23, 3) := by decide +kernel
theorem dX3_init_23 : decode cX3_init 23 = .ok (.putfield 25, 3) := by decide +kernel
theorem dX3_init_26 : decode cX3_init 26 = .ok (.aload_n 0, 1) := by decide +kernel
theorem dX3_init_27 : decode cX3_init 27 = .ok (.iconst 0, 1) := by decide +kernel
theorem dX3_init_28 : decode cX3_init 28 = .ok (.putfield 29, 3) := by decide +kernel
theorem dX3_init_31 : decode cX3_init 31 = .ok (.aload_n 0, 1) := by decide +kernel
theorem dX3_init_32 : decode cX3_init 32 = .ok (.bipush 50, 2) := by decide +kernel
theorem dX3_init_34 : decode cX3_init 34 = .ok (.putfield 33, 3) := by decide +kernel
theorem dX3_init_37 : decode cX3_init 37 = .ok (.aload_n 0, 1) := by decide +kernel
theorem dX3_init_38 : decode cX3_init 38 = .ok (.bipush (-6), 2) := by decide +kernel
theorem dX3_init_40 : decode cX3_init 40 = .ok (.putfield 36, 3) := by decide +kernel
theorem dX3_init_43 : decode cX3_init 43 = .ok (.aload_n 0, 1) := by decide +kernel
theorem dX3_init_44 : decode cX3_init 44 = .ok (.iconst 0, 1) := by decide +kernel
theorem dX3_init_45 : decode cX3_init 45 = .ok (.putfield 39, 3) := by decide +kernel
theorem dX3_init_48 : decode cX3_init 48 = .ok (.aload_n 0, 1) := by decide +kernel
theorem dX3_init_49 : decode cX3_init 49 = .ok (.sipush 1000, 3) := by decide +kernel
theorem dX3_init_52 : decode cX3_init 52 = .ok (.putfield 42, 3) := by decide +kernel
theorem dX3_init_55 : decode cX3_init 55 = .ok (.aload_n 0, 1) := by decide +kernel
theorem dX3_init_56 : decode cX3_init 56 = .ok (.iconst 0, 1) := by decide +kernel
theorem dX3_init_57 : decode cX3_init 57 = .ok (.putfield 45, 3) := by decide +kernel
theorem dX3_init_60 : decode cX3_init 60 = .ok (.aload_n 0, 1) := by decide +kernel
theorem dX3_init_61 : decode cX3_init 61 = .ok (.iconst 0, 1) := by decide +kernel
theorem dX3_init_62 : decode cX3_init 62 = .ok (.putfield 48, 3) := by decide +kernel
theorem dX3_init_65 : decode cX3_init 65 = .ok (.aload_n 0, 1) := by decide +kernel
theorem dX3_init_66 : decode cX3_init 66 = .ok (.iconst 0, 1) := by decide +kernel
theorem dX3_init_67 : decode cX3_init 67 = .ok (.putfield 51, 3) := by decide +kernel
theorem dX3_init_70 : decode cX3_init 70 = .ok (.aload_n 0, 1) := by decide +kernel
theorem dX3_init_71 : decode cX3_init 71 = .ok (.iconst 0, 1) := by decide +kernel
theorem dX3_init_72 : decode cX3_init 72 = .ok (.putfield 54, 3) := by decide +kernel
theorem dX3_init_75 : decode cX3_init 75 = .ok (.aload_n 0, 1) := by decide +kernel
theorem dX3_init_76 : decode cX3_init 76 = .ok (.iconst 0, 1) := by decide +kernel
theorem dX3_init_77 : decode cX3_init 77 = .ok (.putfield 57, 3) := by decide +kernel
theorem dX3_init_80 : decode cX3_init 80 = .ok (.aload_n 0, 1) := by decide +kernel
theorem dX3_init_81 : decode cX3_init 81 = .ok (.iconst 0, 1) := by decide +kernel
theorem dX3_init_82 : decode cX3_init 82 = .ok (.putfield 60, 3) := by decide +kernel
theorem dX3_init_85 : decode cX3_init 85 = .ok (.iconst 0, 1) := by decide +kernel
theorem dX3_init_86 : decode cX3_init 86 = .ok (.istore_n 1, 1) := by decide +kernel
theorem dX3_init_87 : decode cX3_init 87 = .ok (.iload_n 1, 1) := by decide +kernel
theorem dX3_init_88 : decode cX3_init 88 = .ok (.bipush 8, 2) := by decide +kernel
theorem dX3_init_90 : decode cX3_init 90 = .ok (.if_icmp .ge 22, 3) := by decide +kernel
theorem dX3_init_93 : decode cX3_init 93 = .ok (.aload_n 0, 1) := by decide +kernel
theorem dX3_init_94 : decode cX3_init 94 = .ok (.getfield 25, 3) := by decide +kernel
theorem dX3_init_97 : decode cX3_init 97 = .ok (.iload_n 1, 1) := by decide +kernel
theorem dX3_init_98 : decode cX3_init 98 = .ok (.new 23, 3) := by decide +kernel
theorem dX3_init_101 : decode cX3_init 101 = .ok (.dup, 1) := by decide +kernel
theorem dX3_init_102 : decode cX3_init 102 = .ok (.invokespecial 63, 3) := by decide +kernel
theorem dX3_init_105 : decode cX3_init 105 = .ok (.aastore, 1) := by decide +kernel
theorem dX3_init_106 : decode cX3_init 106 = .ok (.iinc 1 1, 3) := by decide +kernel
theorem dX3_init_109 : decode cX3_init 109 = .ok (.goto (-22), 3) := by decide +kernel
theorem dX3_init_112 : decode cX3_init 112 = .ok (.return_, 1) := by decide +kernel
theorem dX3_copyFrom_0 : decode cX3_copyFrom 0 = .ok (.aload_n 1, 1) := by decide +kernel
theorem dX3_copyFrom_1 : decode cX3_copyFrom 1 = .ok (.getfield 18, 3) := by decide +kernel
theorem dX3_copyFrom_4 : decode cX3_copyFrom 4 = .ok (.iconst 0, 1) := by decide +kernel
theorem dX3_copyFrom_5 : decode cX3_copyFrom 5 = .ok (.aload_n 0, 1) := by decide +kernel
theorem dX3_copyFrom_6 : decode cX3_copyFrom 6 = .ok (.getfield 18, 3) := by decide +kernel
theorem dX3_copyFrom_9 : decode cX3_copyFrom 9 = .ok (.iconst 0, 1) := by decide +kernel
theorem dX3_copyFrom_10 : decode cX3_copyFrom 10 = .ok (.getstatic 9, 3) := by decide +kernel
theorem dX3_copyFrom_13 : decode cX3_copyFrom 13 = .ok (.arraylength, 1) := by decide +kernel
theorem dX3_copyFrom_14 : decode cX3_copyFrom 14 = .ok (.invokestatic 64, 3) := by decide +kernel
theorem dX3_copyFrom_17 : decode cX3_copyFrom 17 = .ok (.aload_n 0, 1) := by decide +kernel
theorem dX3_copyFrom_18 : decode cX3_copyFrom 18 = .ok (.aload_n 1, 1) := by decide +kernel
theorem dX3_copyFrom_19 : decode cX3_copyFrom 19 = .ok (.getfield 29, 3) := by decide +kernel
theorem dX3_copyFrom_22 : decode cX3_copyFrom 22 = .ok (.putfield 29, 3) := by decide +kernel
theorem dX3_copyFrom_25 : decode cX3_copyFrom 25 = .ok (.iconst 0, 1) := by decide +kernel
theorem dX3_copyFrom_26 : decode cX3_copyFrom 26 = .ok (.istore_n 2, 1) := by decide +kernel
theorem dX3_copyFrom_27 : decode cX3_copyFrom 27 = .ok (.iload_n 2, 1) := by decide +kernel
theorem dX3_copyFrom_28 : decode cX3_copyFrom 28 = .ok (.bipush 8, 2) := by decide +kernel
theorem dX3_copyFrom_30 : decode cX3_copyFrom 30 = .ok (.if_icmp .ge 37, 3) := by decide +kernel
theorem dX3_copyFrom_33 : decode cX3_copyFrom 33 = .ok (.aload_n 0, 1) := by decide +kernel
theorem dX3_copyFrom_34 : decode cX3_copyFrom 34 = .ok (.iload_n 2, 1) := by decide +kernel
theorem dX3_copyFrom_35 : decode cX3_copyFrom 35 = .ok (.invokevirtual 70, 3) := by decide +kernel
theorem dX3_copyFrom_38 : decode cX3_copyFrom 38 = .ok (.astore_n 3, 1) := by decide +kernel
theorem dX3_copyFrom_39 : decode cX3_copyFrom 39 = .ok (.aload_n 1, 1) := by decide +kernel
theorem dX3_copyFrom_40 : decode cX3_copyFrom 40 = .ok (.iload_n 2, 1) := by decide +kernel
theorem dX3_copyFrom_41 : decode cX3_copyFrom 41 = .ok (.invokevirtual 70, 3) := by decide +kernel
theorem dX3_copyFrom_44 : decode cX3_copyFrom 44 = .ok (.astore 4, 2) := by decide +kernel
theorem dX3_copyFrom_46 : decode cX3_copyFrom 46 = .ok (.aload_n 3, 1) := by decide +kernel
theorem dX3_copyFrom_47 : decode cX3_copyFrom 47 = .ok (.ifnull 14, 3) := by decide +kernel
theorem dX3_copyFrom_50 : decode cX3_copyFrom 50 = .ok (.aload 4, 2) := by decide +kernel
theorem dX3_copyFrom_52 : decode cX3_copyFrom 52 = .ok (.ifnull 9, 3) := by decide +kernel
theorem dX3_copyFrom_55 : decode cX3_copyFrom 55 = .ok (.aload_n 3, 1) := by decide +kernel
theorem dX3_copyFrom_56 : decode cX3_copyFrom 56 = .ok (.aload 4, 2) := by decide +kernel
theorem dX3_copyFrom_58 : decode cX3_copyFrom 58 = .ok (.invokevirtual 74, 3) := by decide +kernel
theorem dX3_copyFrom_61 : decode cX3_copyFrom 61 = .ok (.iinc 2 1, 3) := by decide +kernel
theorem dX3_copyFrom_64 : decode cX3_copyFrom 64 = .ok (.goto (-37), 3) := by decide +kernel
theorem dX3_copyFrom_67 : decode cX3_copyFrom 67 = .ok (.aload_n 0, 1) := by decide +kernel
theorem dX3_copyFrom_68 : decode cX3_copyFrom 68 = .ok (.aload_n 1, 1) := by decide +kernel
theorem dX3_copyFrom_69 : decode cX3_copyFrom 69 = .ok (.getfield 33, 3) := by decide +kernel
theorem dX3_copyFrom_72 : decode cX3_copyFrom 72 = .ok (.putfield 33, 3) := by decide +kernel
theorem dX3_copyFrom_75 : decode cX3_copyFrom 75 = .ok (.aload_n 0, 1) := by decide +kernel
theorem dX3_copyFrom_76 : decode cX3_copyFrom 76 = .ok (.aload_n 1, 1) := by decide +kernel
theorem dX3_copyFrom_77 : decode cX3_copyFrom 77 = .ok (.getfield 36, 3) := by decide +kernel
theorem dX3_copyFrom_80 : decode cX3_copyFrom 80 = .ok (.putfield 36, 3) := by decide +kernel
theorem dX3_copyFrom_83 : decode cX3_copyFrom 83 = .ok (.aload_n 0, 1) := by decide +kernel
theorem dX3_copyFrom_84 : decode cX3_copyFrom 84 = .ok (.aload_n 1, 1) := by decide +kernel
theorem dX3_copyFrom_85 : decode cX3_copyFrom 85 = .ok (.getfield 39, 3) := by decide +kernel
theorem dX3_copyFrom_88 : decode cX3_copyFrom 88 = .ok (.putfield 39, 3) := by decide +kernel
theorem dX3_copyFrom_91 : decode cX3_copyFrom 91 = .ok (.aload_n 0, 1) := by decide +kernel
theorem dX3_copyFrom_92 : decode cX3_copyFrom 92 = .ok (.aload_n 1, 1) := by decide +kernel
theorem dX3_copyFrom_93 : decode cX3_copyFrom 93 = .ok (.getfield 42, 3) := by decide +kernel
theorem dX3_copyFrom_96 : decode cX3_copyFrom 96 = .ok (.putfield 42, 3) := by decide +kernel
theorem dX3_copyFrom_99 : decode cX3_copyFrom 99 = .ok (.aload_n 0, 1) := by decide +kernel
theorem dX3_copyFrom_100 : decode cX3_copyFrom 100 = .ok (.aload_n 1, 1) := by decide +kernel
theorem dX3_copyFrom_101 : decode cX3_copyFrom 101 = .ok (.getfield 45, 3) := by decide +kernel
theorem dX3_copyFrom_104 : decode cX3_copyFrom 104 = .ok (.putfield 45, 3) := by decide +kernel
theorem dX3_copyFrom_107 : decode cX3_copyFrom 107 = .ok (.aload_n 0, 1) := by decide +kernel
theorem dX3_copyFrom_108 : decode cX3_copyFrom 108 = .ok (.aload_n 1, 1) := by decide +kernel
theorem dX3_copyFrom_109 : decode cX3_copyFrom 109 = .ok (.getfield 48, 3) := by decide +kernel
theorem dX3_copyFrom_112 : decode cX3_copyFrom 112 = .ok (.putfield 48, 3) := by decide +kernel
theorem dX3_copyFrom_115 : decode cX3_copyFrom 115 = .ok (.aload_n 0, 1) := by decide +kernel
theorem dX3_copyFrom_116 : decode cX3_copyFrom 116 = .ok (.aload_n 1, 1) := by decide +kernel
theorem dX3_copyFrom_117 : decode cX3_copyFrom 117 = .ok (.getfield 51, 3) := by decide +kernel
theorem dX3_copyFrom_120 : decode cX3_copyFrom 120 = .ok (.putfield 51, 3) := by decide +kernel
theorem dX3_copyFrom_123 : decode cX3_copyFrom 123 = .ok (.aload_n 0, 1) := by decide +kernel
theorem dX3_copyFrom_124 : decode cX3_copyFrom 124 = .ok (.aload_n 1, 1) := by decide +kernel
theorem dX3_copyFrom_125 : decode cX3_copyFrom 125 = .ok (.getfield 54, 3) := by decide +kernel
theorem dX3_copyFrom_128 : decode cX3_copyFrom 128 = .ok (.putfield 54, 3) := by decide +kernel
theorem dX3_copyFrom_131 : decode cX3_copyFrom 131 = .ok (.aload_n 0, 1) := by decide +kernel
theorem dX3_copyFrom_132 : decode cX3_copyFrom 132 = .ok (.aload_n 1, 1) := by decide +kernel
theorem dX3_copyFrom_133 : decode cX3_copyFrom 133 = .ok (.getfield 57, 3) := by decide +kernel
theorem dX3_copyFrom_136 : decode cX3_copyFrom 136 = .ok (.putfield 57, 3) := by decide +kernel
theorem dX3_copyFrom_139 : decode cX3_copyFrom 139 = .ok (.aload_n 0, 1) := by decide +kernel
theorem dX3_copyFrom_140 : decode cX3_copyFrom 140 = .ok (.aload_n 1, 1) := by decide +kernel
theorem dX3_copyFrom_141 : decode cX3_copyFrom 141 = .ok (.getfield 60, 3) := by decide +kernel
theorem dX3_copyFrom_144 : decode cX3_copyFrom 144 = .ok (.putfield 60, 3) := by decide +kernel
theorem dX3_copyFrom_147 : decode cX3_copyFrom 147 = .ok (.return_, 1) := by decide +kernel
theorem dX3_at_0 : decode cX3_at 0 = .ok (.iload_n 1, 1) := by decide +kernel
theorem dX3_at_1 : decode cX3_at 1 = .ok (.ifCond .lt 26, 3) := by decide +kernel
theorem dX3_at_4 : decode cX3_at 4 = .ok (.iload_n 1, 1) := by decide +kernel
theorem dX3_at_5 : decode cX3_at 5 = .ok (.aload_n 0, 1) := by decide +kernel
theorem dX3_at_6 : decode cX3_at 6 = .ok (.getfield 29, 3) := by decide +kernel
theorem dX3_at_9 : decode cX3_at 9 = .ok (.if_icmp .ge 18, 3) := by decide +kernel
theorem dX3_at_12 : decode cX3_at 12 = .ok (.iload_n 1, 1) := by decide +kernel
theorem dX3_at_13 : decode cX3_at 13 = .ok (.bipush 8, 2) := by decide +kernel
theorem dX3_at_15 : decode cX3_at 15 = .ok (.if_icmp .ge 12, 3) := by decide +kernel
theorem dX3_at_18 : decode cX3_at 18 = .ok (.aload_n 0, 1) := by decide +kernel
theorem dX3_at_19 : decode cX3_at 19 = .ok (.getfield 25, 3) := by decide +kernel
theorem dX3_at_22 : decode cX3_at 22 = .ok (.iload_n 1, 1) := by decide +kernel
theorem dX3_at_23 : decode cX3_at 23 = .ok (.aaload, 1) := by decide +kernel
theorem dX3_at_24 : decode cX3_at 24 = .ok (.goto 4, 3) := by decide +kernel
theorem dX3_at_27 : decode cX3_at 27 = .ok (.aconst_null, 1) := by decide +kernel
theorem dX3_at_28 : decode cX3_at 28 = .ok (.areturn, 1) := by decide +kernel
theorem dX3_behind_0 : decode cX3_behind 0 = .ok (.iload_n 1, 1) := by decide +kernel
theorem dX3_behind_1 : decode cX3_behind 1 = .ok (.iconst 1, 1) := by decide +kernel
theorem dX3_behind_2 : decode cX3_behind 2 = .ok (.iadd, 1) := by decide +kernel
theorem dX3_behind_3 : decode cX3_behind 3 = .ok (.aload_n 0, 1) := by decide +kernel
theorem dX3_behind_4 : decode cX3_behind 4 = .ok (.getfield 29, 3) := by decide +kernel
theorem dX3_behind_7 : decode cX3_behind 7 = .ok (.if_icmp .ge 9, 3) := by decide +kernel
theorem dX3_behind_10 : decode cX3_behind 10 = .ok (.iload_n 1, 1) := by decide +kernel
theorem dX3_behind_11 : decode cX3_behind 11 = .ok (.iconst 1, 1) := by decide +kernel
theorem dX3_behind_12 : decode cX3_behind 12 = .ok (.iadd, 1) := by decide +kernel
theorem dX3_behind_13 : decode cX3_behind 13 = .ok (.goto 4, 3) := by decide +kernel
theorem dX3_behind_16 : decode cX3_behind 16 = .ok (.iconst 0, 1) := by decide +kernel
theorem dX3_behind_17 : decode cX3_behind 17 = .ok (.ireturn, 1) := by decide +kernel
theorem dX3_isBarred_0 : decode cX3_isBarred 0 = .ok (.aload_n 1, 1) := by decide +kernel
theorem dX3_isBarred_1 : decode cX3_isBarred 1 = .ok (.getfield 78, 3) := by decide +kernel
theorem dX3_isBarred_4 : decode cX3_isBarred 4 = .ok (.aload_n 0, 1) := by decide +kernel
theorem dX3_isBarred_5 : decode cX3_isBarred 5 = .ok (.getfield 18, 3) := by decide +kernel
theorem dX3_isBarred_8 : decode cX3_isBarred 8 = .ok (.iconst 4, 1) := by decide +kernel
theorem dX3_isBarred_9 : decode cX3_isBarred 9 = .ok (.iaload, 1) := by decide +kernel
theorem dX3_isBarred_10 : decode cX3_isBarred 10 = .ok (.if_icmp .lt 7, 3) := by decide +kernel
theorem dX3_isBarred_13 : decode cX3_isBarred 13 = .ok (.iconst 1, 1) := by decide +kernel
theorem dX3_isBarred_14 : decode cX3_isBarred 14 = .ok (.goto 4, 3) := by decide +kernel
theorem dX3_isBarred_17 : decode cX3_isBarred 17 = .ok (.iconst 0, 1) := by decide +kernel
theorem dX3_isBarred_18 : decode cX3_isBarred 18 = .ok (.ireturn, 1) := by decide +kernel
theorem dX3_score_0 : decode cX3_score 0 = .ok (.aload_n 0, 1) := by decide +kernel
theorem dX3_score_1 : decode cX3_score 1 = .ok (.getfield 33, 3) := by decide +kernel
theorem dX3_score_4 : decode cX3_score 4 = .ok (.iconst 5, 1) := by decide +kernel
theorem dX3_score_5 : decode cX3_score 5 = .ok (.aload_n 1, 1) := by decide +kernel
theorem dX3_score_6 : decode cX3_score 6 = .ok (.getfield 79, 3) := by decide +kernel
theorem dX3_score_9 : decode cX3_score 9 = .ok (.imul, 1) := by decide +kernel
theorem dX3_score_10 : decode cX3_score 10 = .ok (.iadd, 1) := by decide +kernel
theorem dX3_score_11 : decode cX3_score 11 = .ok (.bipush 10, 2) := by decide +kernel
theorem dX3_score_13 : decode cX3_score 13 = .ok (.aload_n 1, 1) := by decide +kernel
theorem dX3_score_14 : decode cX3_score 14 = .ok (.getfield 78, 3) := by decide +kernel
theorem dX3_score_17 : decode cX3_score 17 = .ok (.imul, 1) := by decide +kernel
theorem dX3_score_18 : decode cX3_score 18 = .ok (.isub, 1) := by decide +kernel
theorem dX3_score_19 : decode cX3_score 19 = .ok (.ireturn, 1) := by decide +kernel
theorem dX3_barredPeople_0 : decode cX3_barredPeople 0 = .ok (.iconst 0, 1) := by decide +kernel
theorem dX3_barredPeople_1 : decode cX3_barredPeople 1 = .ok (.istore_n 1, 1) := by decide +kernel
theorem dX3_barredPeople_2 : decode cX3_barredPeople 2 = .ok (.iconst 0, 1) := by decide +kernel
theorem dX3_barredPeople_3 : decode cX3_barredPeople 3 = .ok (.istore_n 2, 1) := by decide +kernel
theorem dX3_barredPeople_4 : decode cX3_barredPeople 4 = .ok (.iload_n 2, 1) := by decide +kernel
theorem dX3_barredPeople_5 : decode cX3_barredPeople 5 = .ok (.aload_n 0, 1) := by decide +kernel
theorem dX3_barredPeople_6 : decode cX3_barredPeople 6 = .ok (.getfield 29, 3) := by decide +kernel
theorem dX3_barredPeople_9 : decode cX3_barredPeople 9 = .ok (.if_icmp .ge 30, 3) := by decide +kernel
theorem dX3_barredPeople_12 : decode cX3_barredPeople 12 = .ok (.aload_n 0, 1) := by decide +kernel
theorem dX3_barredPeople_13 : decode cX3_barredPeople 13 = .ok (.iload_n 2, 1) := by decide +kernel
theorem dX3_barredPeople_14 : decode cX3_barredPeople 14 = .ok (.invokevirtual 70, 3) := by decide +kernel
theorem dX3_barredPeople_17 : decode cX3_barredPeople 17 = .ok (.astore_n 3, 1) := by decide +kernel
theorem dX3_barredPeople_18 : decode cX3_barredPeople 18 = .ok (.aload_n 3, 1) := by decide +kernel
theorem dX3_barredPeople_19 : decode cX3_barredPeople 19 = .ok (.ifnull 14, 3) := by decide +kernel
theorem dX3_barredPeople_22 : decode cX3_barredPeople 22 = .ok (.aload_n 0, 1) := by decide +kernel
theorem dX3_barredPeople_23 : decode cX3_barredPeople 23 = .ok (.aload_n 3, 1) := by decide +kernel
theorem dX3_barredPeople_24 : decode cX3_barredPeople 24 = .ok (.invokevirtual 82, 3) := by decide +kernel
theorem dX3_barredPeople_27 : decode cX3_barredPeople 27 = .ok (.ifCond .eq 6, 3) := by decide +kernel
theorem dX3_barredPeople_30 : decode cX3_barredPeople 30 = .ok (.iinc 1 1, 3) := by decide +kernel
theorem dX3_barredPeople_33 : decode cX3_barredPeople 33 = .ok (.iinc 2 1, 3) := by decide +kernel
theorem dX3_barredPeople_36 : decode cX3_barredPeople 36 = .ok (.goto (-32), 3) := by decide +kernel
theorem dX3_barredPeople_39 : decode cX3_barredPeople 39 = .ok (.iload_n 1, 1) := by decide +kernel
theorem dX3_barredPeople_40 : decode cX3_barredPeople 40 = .ok (.ireturn, 1) := by decide +kernel
theorem dX3_allPurses_0 : decode cX3_allPurses 0 = .ok (.iconst 0, 1) := by decide +kernel
theorem dX3_allPurses_1 : decode cX3_allPurses 1 = .ok (.istore_n 1, 1) := by decide +kernel
theorem dX3_allPurses_2 : decode cX3_allPurses 2 = .ok (.iconst 0, 1) := by decide +kernel
theorem dX3_allPurses_3 : decode cX3_allPurses 3 = .ok (.istore_n 2, 1) := by decide +kernel
theorem dX3_allPurses_4 : decode cX3_allPurses 4 = .ok (.iload_n 2, 1) := by decide +kernel
theorem dX3_allPurses_5 : decode cX3_allPurses 5 = .ok (.aload_n 0, 1) := by decide +kernel
theorem dX3_allPurses_6 : decode cX3_allPurses 6 = .ok (.getfield 29, 3) := by decide +kernel
theorem dX3_allPurses_9 : decode cX3_allPurses 9 = .ok (.if_icmp .ge 26, 3) := by decide +kernel
theorem dX3_allPurses_12 : decode cX3_allPurses 12 = .ok (.aload_n 0, 1) := by decide +kernel
theorem dX3_allPurses_13 : decode cX3_allPurses 13 = .ok (.iload_n 2, 1) := by decide +kernel
theorem dX3_allPurses_14 : decode cX3_allPurses 14 = .ok (.invokevirtual 70, 3) := by decide +kernel
theorem dX3_allPurses_17 : decode cX3_allPurses 17 = .ok (.astore_n 3, 1) := by decide +kernel
theorem dX3_allPurses_18 : decode cX3_allPurses 18 = .ok (.aload_n 3, 1) := by decide +kernel
theorem dX3_allPurses_19 : decode cX3_allPurses 19 = .ok (.ifnull 10, 3) := by decide +kernel
theorem dX3_allPurses_22 : decode cX3_allPurses 22 = .ok (.iload_n 1, 1) := by decide +kernel
theorem dX3_allPurses_23 : decode cX3_allPurses 23 = .ok (.aload_n 3, 1) := by decide +kernel
theorem dX3_allPurses_24 : decode cX3_allPurses 24 = .ok (.getfield 86, 3) := by decide +kernel
theorem dX3_allPurses_27 : decode cX3_allPurses 27 = .ok (.iadd, 1) := by decide +kernel
theorem dX3_allPurses_28 : decode cX3_allPurses 28 = .ok (.istore_n 1, 1) := by decide +kernel
theorem dX3_allPurses_29 : decode cX3_allPurses 29 = .ok (.iinc 2 1, 3) := by decide +kernel
theorem dX3_allPurses_32 : decode cX3_allPurses 32 = .ok (.goto (-28), 3) := by decide +kernel
theorem dX3_allPurses_35 : decode cX3_allPurses 35 = .ok (.iload_n 1, 1) := by decide +kernel
theorem dX3_allPurses_36 : decode cX3_allPurses 36 = .ok (.ireturn, 1) := by decide +kernel
theorem dX3_admit_0 : decode cX3_admit 0 = .ok (.aload_n 0, 1) := by decide +kernel
theorem dX3_admit_1 : decode cX3_admit 1 = .ok (.getfield 29, 3) := by decide +kernel
theorem dX3_admit_4 : decode cX3_admit 4 = .ok (.bipush 8, 2) := by decide +kernel
theorem dX3_admit_6 : decode cX3_admit 6 = .ok (.if_icmp .lt 4, 3) := by decide +kernel
theorem dX3_admit_9 : decode cX3_admit 9 = .ok (.return_, 1) := by decide +kernel
theorem dX3_admit_10 : decode cX3_admit 10 = .ok (.aload_n 0, 1) := by decide +kernel
theorem dX3_admit_11 : decode cX3_admit 11 = .ok (.dup, 1) := by decide +kernel
theorem dX3_admit_12 : decode cX3_admit 12 = .ok (.getfield 29, 3) := by decide +kernel
theorem dX3_admit_15 : decode cX3_admit 15 = .ok (.iconst 1, 1) := by decide +kernel
theorem dX3_admit_16 : decode cX3_admit 16 = .ok (.iadd, 1) := by decide +kernel
theorem dX3_admit_17 : decode cX3_admit 17 = .ok (.putfield 29, 3) := by decide +kernel
theorem dX3_admit_20 : decode cX3_admit 20 = .ok (.aload_n 0, 1) := by decide +kernel
theorem dX3_admit_21 : decode cX3_admit 21 = .ok (.aload_n 0, 1) := by decide +kernel
theorem dX3_admit_22 : decode cX3_admit 22 = .ok (.getfield 29, 3) := by decide +kernel
theorem dX3_admit_25 : decode cX3_admit 25 = .ok (.iconst 1, 1) := by decide +kernel
theorem dX3_admit_26 : decode cX3_admit 26 = .ok (.isub, 1) := by decide +kernel
theorem dX3_admit_27 : decode cX3_admit 27 = .ok (.invokevirtual 70, 3) := by decide +kernel
theorem dX3_admit_30 : decode cX3_admit 30 = .ok (.astore_n 3, 1) := by decide +kernel
theorem dX3_admit_31 : decode cX3_admit 31 = .ok (.aload_n 3, 1) := by decide +kernel
theorem dX3_admit_32 : decode cX3_admit 32 = .ok (.ifnull 9, 3) := by decide +kernel
theorem dX3_admit_35 : decode cX3_admit 35 = .ok (.aload_n 3, 1) := by decide +kernel
theorem dX3_admit_36 : decode cX3_admit 36 = .ok (.iload_n 1, 1) := by decide +kernel
theorem dX3_admit_37 : decode cX3_admit 37 = .ok (.iload_n 2, 1) := by decide +kernel
theorem dX3_admit_38 : decode cX3_admit 38 = .ok (.invokevirtual 89, 3) := by decide +kernel
theorem dX3_admit_41 : decode cX3_admit 41 = .ok (.return_, 1) := by decide +kernel
theorem dX3_relocate_0 : decode cX3_relocate 0 = .ok (.aload_n 0, 1) := by decide +kernel
theorem dX3_relocate_1 : decode cX3_relocate 1 = .ok (.iload_n 1, 1) := by decide +kernel
theorem dX3_relocate_2 : decode cX3_relocate 2 = .ok (.invokevirtual 70, 3) := by decide +kernel
theorem dX3_relocate_5 : decode cX3_relocate 5 = .ok (.astore_n 3, 1) := by decide +kernel
theorem dX3_relocate_6 : decode cX3_relocate 6 = .ok (.aload_n 3, 1) := by decide +kernel
theorem dX3_relocate_7 : decode cX3_relocate 7 = .ok (.ifnull 11, 3) := by decide +kernel
theorem dX3_relocate_10 : decode cX3_relocate 10 = .ok (.aload_n 0, 1) := by decide +kernel
theorem dX3_relocate_11 : decode cX3_relocate 11 = .ok (.iload_n 2, 1) := by decide +kernel
theorem dX3_relocate_12 : decode cX3_relocate 12 = .ok (.invokevirtual 70, 3) := by decide +kernel
theorem dX3_relocate_15 : decode cX3_relocate 15 = .ok (.ifnonnull 4, 3) := by decide +kernel
theorem dX3_relocate_18 : decode cX3_relocate 18 = .ok (.return_, 1) := by decide +kernel
theorem dX3_relocate_19 : decode cX3_relocate 19 = .ok (.iload_n 1, 1) := by decide +kernel
theorem dX3_relocate_20 : decode cX3_relocate 20 = .ok (.istore 4, 2) := by decide +kernel
theorem dX3_relocate_22 : decode cX3_relocate 22 = .ok (.iload 4, 2) := by decide +kernel
theorem dX3_relocate_24 : decode cX3_relocate 24 = .ok (.iload_n 2, 1) := by decide +kernel
theorem dX3_relocate_25 : decode cX3_relocate 25 = .ok (.if_icmp .ge 25, 3) := by decide +kernel
theorem dX3_relocate_28 : decode cX3_relocate 28 = .ok (.aload_n 0, 1) := by decide +kernel
theorem dX3_relocate_29 : decode cX3_relocate 29 = .ok (.getfield 25, 3) := by decide +kernel
theorem dX3_relocate_32 : decode cX3_relocate 32 = .ok (.iload 4, 2) := by decide +kernel
theorem dX3_relocate_34 : decode cX3_relocate 34 = .ok (.aload_n 0, 1) := by decide +kernel
theorem dX3_relocate_35 : decode cX3_relocate 35 = .ok (.getfield 25, 3) := by decide +kernel
theorem dX3_relocate_38 : decode cX3_relocate 38 = .ok (.iload 4, 2) := by decide +kernel
theorem dX3_relocate_40 : decode cX3_relocate 40 = .ok (.iconst 1, 1) := by decide +kernel
theorem dX3_relocate_41 : decode cX3_relocate 41 = .ok (.iadd, 1) := by decide +kernel
theorem dX3_relocate_42 : decode cX3_relocate 42 = .ok (.aaload, 1) := by decide +kernel
theorem dX3_relocate_43 : decode cX3_relocate 43 = .ok (.aastore, 1) := by decide +kernel
theorem dX3_relocate_44 : decode cX3_relocate 44 = .ok (.iinc 4 1, 3) := by decide +kernel
theorem dX3_relocate_47 : decode cX3_relocate 47 = .ok (.goto (-25), 3) := by decide +kernel
theorem dX3_relocate_50 : decode cX3_relocate 50 = .ok (.iload_n 1, 1) := by decide +kernel
theorem dX3_relocate_51 : decode cX3_relocate 51 = .ok (.istore 4, 2) := by decide +kernel
theorem dX3_relocate_53 : decode cX3_relocate 53 = .ok (.iload 4, 2) := by decide +kernel
theorem dX3_relocate_55 : decode cX3_relocate 55 = .ok (.iload_n 2, 1) := by decide +kernel
theorem dX3_relocate_56 : decode cX3_relocate 56 = .ok (.if_icmp .le 25, 3) := by decide +kernel
theorem dX3_relocate_59 : decode cX3_relocate 59 = .ok (.aload_n 0, 1) := by decide +kernel
theorem dX3_relocate_60 : decode cX3_relocate 60 = .ok (.getfield 25, 3) := by decide +kernel
theorem dX3_relocate_63 : decode cX3_relocate 63 = .ok (.iload 4, 2) := by decide +kernel
theorem dX3_relocate_65 : decode cX3_relocate 65 = .ok (.aload_n 0, 1) := by decide +kernel
theorem dX3_relocate_66 : decode cX3_relocate 66 = .ok (.getfield 25, 3) := by decide +kernel
theorem dX3_relocate_69 : decode cX3_relocate 69 = .ok (.iload 4, 2) := by decide +kernel
theorem dX3_relocate_71 : decode cX3_relocate 71 = .ok (.iconst 1, 1) := by decide +kernel
theorem dX3_relocate_72 : decode cX3_relocate 72 = .ok (.isub, 1) := by decide +kernel
theorem dX3_relocate_73 : decode cX3_relocate 73 = .ok (.aaload, 1) := by decide +kernel
theorem dX3_relocate_74 : decode cX3_relocate 74 = .ok (.aastore, 1) := by decide +kernel
theorem dX3_relocate_75 : decode cX3_relocate 75 = .ok (.iinc 4 (-1), 3) := by decide +kernel
theorem dX3_relocate_78 : decode cX3_relocate 78 = .ok (.goto (-25), 3) := by decide +kernel
theorem dX3_relocate_81 : decode cX3_relocate 81 = .ok (.aload_n 0, 1) := by decide +kernel
theorem dX3_relocate_82 : decode cX3_relocate 82 = .ok (.getfield 25, 3) := by decide +kernel
theorem dX3_relocate_85 : decode cX3_relocate 85 = .ok (.iload_n 2, 1) := by decide +kernel
theorem dX3_relocate_86 : decode cX3_relocate 86 = .ok (.aload_n 3, 1) := by decide +kernel
theorem dX3_relocate_87 : decode cX3_relocate 87 = .ok (.aastore, 1) := by decide +kernel
theorem dX3_relocate_88 : decode cX3_relocate 88 = .ok (.aload_n 0, 1) := by decide +kernel
theorem dX3_relocate_89 : decode cX3_relocate 89 = .ok (.aload_n 0, 1) := by decide +kernel
theorem dX3_relocate_90 : decode cX3_relocate 90 = .ok (.aload_n 0, 1) := by decide +kernel
theorem dX3_relocate_91 : decode cX3_relocate 91 = .ok (.getfield 36, 3) := by decide +kernel
theorem dX3_relocate_94 : decode cX3_relocate 94 = .ok (.iload_n 1, 1) := by decide +kernel
theorem dX3_relocate_95 : decode cX3_relocate 95 = .ok (.iload_n 2, 1) := by decide +kernel
theorem dX3_relocate_96 : decode cX3_relocate 96 = .ok (.invokevirtual 93, 3) := by decide +kernel
theorem dX3_relocate_99 : decode cX3_relocate 99 = .ok (.putfield 36, 3) := by decide +kernel
theorem dX3_relocate_102 : decode cX3_relocate 102 = .ok (.aload_n 0, 1) := by decide +kernel
theorem dX3_relocate_103 : decode cX3_relocate 103 = .ok (.aload_n 0, 1) := by decide +kernel
theorem dX3_relocate_104 : decode cX3_relocate 104 = .ok (.aload_n 0, 1) := by decide +kernel
theorem dX3_relocate_105 : decode cX3_relocate 105 = .ok (.getfield 39, 3) := by decide +kernel
theorem dX3_relocate_108 : decode cX3_relocate 108 = .ok (.iload_n 1, 1) := by decide +kernel
theorem dX3_relocate_109 : decode cX3_relocate 109 = .ok (.iload_n 2, 1) := by decide +kernel
theorem dX3_relocate_110 : decode cX3_relocate 110 = .ok (.invokevirtual 93, 3) := by decide +kernel
theorem dX3_relocate_113 : decode cX3_relocate 113 = .ok (.putfield 39, 3) := by decide +kernel
theorem dX3_relocate_116 : decode cX3_relocate 116 = .ok (.return_, 1) := by decide +kernel
theorem dX3_placeAfterMove_0 : decode cX3_placeAfterMove 0 = .ok (.iload_n 1, 1) := by decide +kernel
theorem dX3_placeAfterMove_1 : decode cX3_placeAfterMove 1 = .ok (.iload_n 2, 1) := by decide +kernel
theorem dX3_placeAfterMove_2 : decode cX3_placeAfterMove 2 = .ok (.if_icmp .ne 5, 3) := by decide +kernel
theorem dX3_placeAfterMove_5 : decode cX3_placeAfterMove 5 = .ok (.iload_n 3, 1) := by decide +kernel
theorem dX3_placeAfterMove_6 : decode cX3_placeAfterMove 6 = .ok (.ireturn, 1) := by decide +kernel
theorem dX3_placeAfterMove_7 : decode cX3_placeAfterMove 7 = .ok (.iload_n 1, 1) := by decide +kernel
theorem dX3_placeAfterMove_8 : decode cX3_placeAfterMove 8 = .ok (.iload_n 2, 1) := by decide +kernel
theorem dX3_placeAfterMove_9 : decode cX3_placeAfterMove 9 = .ok (.if_icmp .le 12, 3) := by decide +kernel
theorem dX3_placeAfterMove_12 : decode cX3_placeAfterMove 12 = .ok (.iload_n 1, 1) := by decide +kernel
theorem dX3_placeAfterMove_13 : decode cX3_placeAfterMove 13 = .ok (.iload_n 3, 1) := by decide +kernel
theorem dX3_placeAfterMove_14 : decode cX3_placeAfterMove 14 = .ok (.if_icmp .gt 7, 3) := by decide +kernel
theorem dX3_placeAfterMove_17 : decode cX3_placeAfterMove 17 = .ok (.iload_n 1, 1) := by decide +kernel
theorem dX3_placeAfterMove_18 : decode cX3_placeAfterMove 18 = .ok (.iconst 1, 1) := by decide +kernel
theorem dX3_placeAfterMove_19 : decode cX3_placeAfterMove 19 = .ok (.isub, 1) := by decide +kernel
theorem dX3_placeAfterMove_20 : decode cX3_placeAfterMove 20 = .ok (.ireturn, 1) := by decide +kernel
theorem dX3_placeAfterMove_21 : decode cX3_placeAfterMove 21 = .ok (.iload_n 1, 1) := by decide +kernel
theorem dX3_placeAfterMove_22 : decode cX3_placeAfterMove 22 = .ok (.iload_n 2, 1) := by decide +kernel
theorem dX3_placeAfterMove_23 : decode cX3_placeAfterMove 23 = .ok (.if_icmp .ge 12, 3) := by decide +kernel
theorem dX3_placeAfterMove_26 : decode cX3_placeAfterMove 26 = .ok (.iload_n 1, 1) := by decide +kernel
theorem dX3_placeAfterMove_27 : decode cX3_placeAfterMove 27 = .ok (.iload_n 3, 1) := by decide +kernel
theorem dX3_placeAfterMove_28 : decode cX3_placeAfterMove 28 = .ok (.if_icmp .lt 7, 3) := by decide +kernel
theorem dX3_placeAfterMove_31 : decode cX3_placeAfterMove 31 = .ok (.iload_n 1, 1) := by decide +kernel
theorem dX3_placeAfterMove_32 : decode cX3_placeAfterMove 32 = .ok (.iconst 1, 1) := by decide +kernel
theorem dX3_placeAfterMove_33 : decode cX3_placeAfterMove 33 = .ok (.iadd, 1) := by decide +kernel
theorem dX3_placeAfterMove_34 : decode cX3_placeAfterMove 34 = .ok (.ireturn, 1) := by decide +kernel
theorem dX3_placeAfterMove_35 : decode cX3_placeAfterMove 35 = .ok (.iload_n 1, 1) := by decide +kernel
theorem dX3_placeAfterMove_36 : decode cX3_placeAfterMove 36 = .ok (.ireturn, 1) := by decide +kernel
theorem dX3_leaveWithoutGuardian_0 : decode cX3_leaveWithoutGuardian 0 = .ok (.aload_n 0, 1) := by decide +kernel
theorem dX3_leaveWithoutGuardian_1 : decode cX3_leaveWithoutGuardian 1 = .ok (.bipush (-6), 2) := by decide +kernel
theorem dX3_leaveWithoutGuardian_3 : decode cX3_leaveWithoutGuardian 3 = .ok (.putfield 36, 3) := by decide +kernel
theorem dX3_leaveWithoutGuardian_6 : decode cX3_leaveWithoutGuardian 6 = .ok (.aload_n 0, 1) := by decide +kernel
theorem dX3_leaveWithoutGuardian_7 : decode cX3_leaveWithoutGuardian 7 = .ok (.iload_n 1, 1) := by decide +kernel
theorem dX3_leaveWithoutGuardian_8 : decode cX3_leaveWithoutGuardian 8 = .ok (.putfield 39, 3) := by decide +kernel
theorem dX3_leaveWithoutGuardian_11 : decode cX3_leaveWithoutGuardian 11 = .ok (.return_, 1) := by decide +kernel
theorem dX3_depose_0 : decode cX3_depose 0 = .ok (.aload_n 0, 1) := by decide +kernel
theorem dX3_depose_1 : decode cX3_depose 1 = .ok (.iload_n 1, 1) := by decide +kernel
theorem dX3_depose_2 : decode cX3_depose 2 = .ok (.invokevirtual 97, 3) := by decide +kernel
theorem dX3_depose_5 : decode cX3_depose 5 = .ok (.aload_n 0, 1) := by decide +kernel
theorem dX3_depose_6 : decode cX3_depose 6 = .ok (.dup, 1) := by decide +kernel
theorem dX3_depose_7 : decode cX3_depose 7 = .ok (.getfield 54, 3) := by decide +kernel
theorem dX3_depose_10 : decode cX3_depose 10 = .ok (.iconst 1, 1) := by decide +kernel
theorem dX3_depose_11 : decode cX3_depose 11 = .ok (.iadd, 1) := by decide +kernel
theorem dX3_depose_12 : decode cX3_depose 12 = .ok (.putfield 54, 3) := by decide +kernel
theorem dX3_depose_15 : decode cX3_depose 15 = .ok (.return_, 1) := by decide +kernel
theorem dX3_scratch_0 : decode cX3_scratch 0 = .ok (.aload_n 1, 1) := by decide +kernel
theorem dX3_scratch_1 : decode cX3_scratch 1 = .ok (.dup, 1) := by decide +kernel
theorem dX3_scratch_2 : decode cX3_scratch 2 = .ok (.getfield 78, 3) := by decide +kernel
theorem dX3_scratch_5 : decode cX3_scratch 5 = .ok (.iconst 1, 1) := by decide +kernel
theorem dX3_scratch_6 : decode cX3_scratch 6 = .ok (.iadd, 1) := by decide +kernel
theorem dX3_scratch_7 : decode cX3_scratch 7 = .ok (.putfield 78, 3) := by decide +kernel
theorem dX3_scratch_10 : decode cX3_scratch 10 = .ok (.aload_n 0, 1) := by decide +kernel
theorem dX3_scratch_11 : decode cX3_scratch 11 = .ok (.dup, 1) := by decide +kernel
theorem dX3_scratch_12 : decode cX3_scratch 12 = .ok (.getfield 48, 3) := by decide +kernel
theorem dX3_scratch_15 : decode cX3_scratch 15 = .ok (.iconst 1, 1) := by decide +kernel
theorem dX3_scratch_16 : decode cX3_scratch 16 = .ok (.iadd, 1) := by decide +kernel
theorem dX3_scratch_17 : decode cX3_scratch 17 = .ok (.putfield 48, 3) := by decide +kernel
theorem dX3_scratch_20 : decode cX3_scratch 20 = .ok (.return_, 1) := by decide +kernel
theorem dX3_mayAppeal_0 : decode cX3_mayAppeal 0 = .ok (.aload_n 0, 1) := by decide +kernel
theorem dX3_mayAppeal_1 : decode cX3_mayAppeal 1 = .ok (.iload_n 1, 1) := by decide +kernel
theorem dX3_mayAppeal_2 : decode cX3_mayAppeal 2 = .ok (.invokevirtual 70, 3) := by decide +kernel
theorem dX3_mayAppeal_5 : decode cX3_mayAppeal 5 = .ok (.astore_n 2, 1) := by decide +kernel
theorem dX3_mayAppeal_6 : decode cX3_mayAppeal 6 = .ok (.aload_n 2, 1) := by decide +kernel
theorem dX3_mayAppeal_7 : decode cX3_mayAppeal 7 = .ok (.ifnull 45, 3) := by decide +kernel
theorem dX3_mayAppeal_10 : decode cX3_mayAppeal 10 = .ok (.aload_n 0, 1) := by decide +kernel
theorem dX3_mayAppeal_11 : decode cX3_mayAppeal 11 = .ok (.getfield 36, 3) := by decide +kernel
theorem dX3_mayAppeal_14 : decode cX3_mayAppeal 14 = .ok (.bipush (-6), 2) := by decide +kernel
theorem dX3_mayAppeal_16 : decode cX3_mayAppeal 16 = .ok (.if_icmp .eq 36, 3) := by decide +kernel
theorem dX3_mayAppeal_19 : decode cX3_mayAppeal 19 = .ok (.iload_n 1, 1) := by decide +kernel
theorem dX3_mayAppeal_20 : decode cX3_mayAppeal 20 = .ok (.aload_n 0, 1) := by decide +kernel
theorem dX3_mayAppeal_21 : decode cX3_mayAppeal 21 = .ok (.getfield 36, 3) := by decide +kernel
theorem dX3_mayAppeal_24 : decode cX3_mayAppeal 24 = .ok (.if_icmp .eq 28, 3) := by decide +kernel
theorem dX3_mayAppeal_27 : decode cX3_mayAppeal 27 = .ok (.aload_n 0, 1) := by decide +kernel
theorem dX3_mayAppeal_28 : decode cX3_mayAppeal 28 = .ok (.aload_n 2, 1) := by decide +kernel
theorem dX3_mayAppeal_29 : decode cX3_mayAppeal 29 = .ok (.invokevirtual 82, 3) := by decide +kernel
theorem dX3_mayAppeal_32 : decode cX3_mayAppeal 32 = .ok (.ifCond .ne 20, 3) := by decide +kernel
theorem dX3_mayAppeal_35 : decode cX3_mayAppeal 35 = .ok (.aload_n 2, 1) := by decide +kernel
theorem dX3_mayAppeal_36 : decode cX3_mayAppeal 36 = .ok (.getfield 86, 3) := by decide +kernel
theorem dX3_mayAppeal_39 : decode cX3_mayAppeal 39 = .ok (.aload_n 0, 1) := by decide +kernel
theorem dX3_mayAppeal_40 : decode cX3_mayAppeal 40 = .ok (.getfield 18, 3) := by decide +kernel
theorem dX3_mayAppeal_43 : decode cX3_mayAppeal 43 = .ok (.iconst 2, 1) := by decide +kernel
theorem dX3_mayAppeal_44 : decode cX3_mayAppeal 44 = .ok (.iaload, 1) := by decide +kernel
theorem dX3_mayAppeal_45 : decode cX3_mayAppeal 45 = .ok (.if_icmp .lt 7, 3) := by decide +kernel
theorem dX3_mayAppeal_48 : decode cX3_mayAppeal 48 = .ok (.iconst 1, 1) := by decide +kernel
theorem dX3_mayAppeal_49 : decode cX3_mayAppeal 49 = .ok (.goto 4, 3) := by decide +kernel
theorem dX3_mayAppeal_52 : decode cX3_mayAppeal 52 = .ok (.iconst 0, 1) := by decide +kernel
theorem dX3_mayAppeal_53 : decode cX3_mayAppeal 53 = .ok (.ireturn, 1) := by decide +kernel
theorem dX3_hearAppeal_0 : decode cX3_hearAppeal 0 = .ok (.aload_n 0, 1) := by decide +kernel
theorem dX3_hearAppeal_1 : decode cX3_hearAppeal 1 = .ok (.iload_n 1, 1) := by decide +kernel
theorem dX3_hearAppeal_2 : decode cX3_hearAppeal 2 = .ok (.invokevirtual 70, 3) := by decide +kernel
theorem dX3_hearAppeal_5 : decode cX3_hearAppeal 5 = .ok (.astore_n 2, 1) := by decide +kernel
theorem dX3_hearAppeal_6 : decode cX3_hearAppeal 6 = .ok (.aload_n 0, 1) := by decide +kernel
theorem dX3_hearAppeal_7 : decode cX3_hearAppeal 7 = .ok (.aload_n 0, 1) := by decide +kernel
theorem dX3_hearAppeal_8 : decode cX3_hearAppeal 8 = .ok (.getfield 36, 3) := by decide +kernel
theorem dX3_hearAppeal_11 : decode cX3_hearAppeal 11 = .ok (.invokevirtual 70, 3) := by decide +kernel
theorem dX3_hearAppeal_14 : decode cX3_hearAppeal 14 = .ok (.astore_n 3, 1) := by decide +kernel
theorem dX3_hearAppeal_15 : decode cX3_hearAppeal 15 = .ok (.aload_n 2, 1) := by decide +kernel
theorem dX3_hearAppeal_16 : decode cX3_hearAppeal 16 = .ok (.ifnull 7, 3) := by decide +kernel
theorem dX3_hearAppeal_19 : decode cX3_hearAppeal 19 = .ok (.aload_n 3, 1) := by decide +kernel
theorem dX3_hearAppeal_20 : decode cX3_hearAppeal 20 = .ok (.ifnonnull 5, 3) := by decide +kernel
theorem dX3_hearAppeal_23 : decode cX3_hearAppeal 23 = .ok (.iconst 0, 1) := by decide +kernel
theorem dX3_hearAppeal_24 : decode cX3_hearAppeal 24 = .ok (.ireturn, 1) := by decide +kernel
theorem dX3_hearAppeal_25 : decode cX3_hearAppeal 25 = .ok (.aload_n 2, 1) := by decide +kernel
theorem dX3_hearAppeal_26 : decode cX3_hearAppeal 26 = .ok (.dup, 1) := by decide +kernel
theorem dX3_hearAppeal_27 : decode cX3_hearAppeal 27 = .ok (.getfield 86, 3) := by decide +kernel
theorem dX3_hearAppeal_30 : decode cX3_hearAppeal 30 = .ok (.aload_n 0, 1) := by decide +kernel
theorem dX3_hearAppeal_31 : decode cX3_hearAppeal 31 = .ok (.getfield 18, 3) := by decide +kernel
theorem dX3_hearAppeal_34 : decode cX3_hearAppeal 34 = .ok (.iconst 2, 1) := by decide +kernel
theorem dX3_hearAppeal_35 : decode cX3_hearAppeal 35 = .ok (.iaload, 1) := by decide +kernel
theorem dX3_hearAppeal_36 : decode cX3_hearAppeal 36 = .ok (.isub, 1) := by decide +kernel
theorem dX3_hearAppeal_37 : decode cX3_hearAppeal 37 = .ok (.putfield 86, 3) := by decide +kernel
theorem dX3_hearAppeal_40 : decode cX3_hearAppeal 40 = .ok (.aload_n 0, 1) := by decide +kernel
theorem dX3_hearAppeal_41 : decode cX3_hearAppeal 41 = .ok (.dup, 1) := by decide +kernel
theorem dX3_hearAppeal_42 : decode cX3_hearAppeal 42 = .ok (.getfield 42, 3) := by decide +kernel
theorem dX3_hearAppeal_45 : decode cX3_hearAppeal 45 = .ok (.aload_n 0, 1) := by decide +kernel
theorem dX3_hearAppeal_46 : decode cX3_hearAppeal 46 = .ok (.getfield 18, 3) := by decide +kernel
theorem dX3_hearAppeal_49 : decode cX3_hearAppeal 49 = .ok (.iconst 2, 1) := by decide +kernel
theorem dX3_hearAppeal_50 : decode cX3_hearAppeal 50 = .ok (.iaload, 1) := by decide +kernel
theorem dX3_hearAppeal_51 : decode cX3_hearAppeal 51 = .ok (.iadd, 1) := by decide +kernel
theorem dX3_hearAppeal_52 : decode cX3_hearAppeal 52 = .ok (.putfield 42, 3) := by decide +kernel
theorem dX3_hearAppeal_55 : decode cX3_hearAppeal 55 = .ok (.aload_n 0, 1) := by decide +kernel
theorem dX3_hearAppeal_56 : decode cX3_hearAppeal 56 = .ok (.aload_n 2, 1) := by decide +kernel
theorem dX3_hearAppeal_57 : decode cX3_hearAppeal 57 = .ok (.invokevirtual 101, 3) := by decide +kernel
theorem dX3_hearAppeal_60 : decode cX3_hearAppeal 60 = .ok (.aload_n 0, 1) := by decide +kernel
theorem dX3_hearAppeal_61 : decode cX3_hearAppeal 61 = .ok (.aload_n 3, 1) := by decide +kernel
theorem dX3_hearAppeal_62 : decode cX3_hearAppeal 62 = .ok (.invokevirtual 101, 3) := by decide +kernel
theorem dX3_hearAppeal_65 : decode cX3_hearAppeal 65 = .ok (.if_icmp .le 10, 3) := by decide +kernel
theorem dX3_hearAppeal_68 : decode cX3_hearAppeal 68 = .ok (.aload_n 0, 1) := by decide +kernel
theorem dX3_hearAppeal_69 : decode cX3_hearAppeal 69 = .ok (.iload_n 1, 1) := by decide +kernel
theorem dX3_hearAppeal_70 : decode cX3_hearAppeal 70 = .ok (.invokevirtual 105, 3) := by decide +kernel
theorem dX3_hearAppeal_73 : decode cX3_hearAppeal 73 = .ok (.iconst 1, 1) := by decide +kernel
theorem dX3_hearAppeal_74 : decode cX3_hearAppeal 74 = .ok (.ireturn, 1) := by decide +kernel
theorem dX3_hearAppeal_75 : decode cX3_hearAppeal 75 = .ok (.aload_n 0, 1) := by decide +kernel
theorem dX3_hearAppeal_76 : decode cX3_hearAppeal 76 = .ok (.aload_n 2, 1) := by decide +kernel
theorem dX3_hearAppeal_77 : decode cX3_hearAppeal 77 = .ok (.invokevirtual 108, 3) := by decide +kernel
theorem dX3_hearAppeal_80 : decode cX3_hearAppeal 80 = .ok (.iconst 0, 1) := by decide +kernel
theorem dX3_hearAppeal_81 : decode cX3_hearAppeal 81 = .ok (.ireturn, 1) := by decide +kernel
theorem dX3_liveDays_0 : decode cX3_liveDays 0 = .ok (.iconst 0, 1) := by decide +kernel
theorem dX3_liveDays_1 : decode cX3_liveDays 1 = .ok (.istore_n 2, 1) := by decide +kernel
theorem dX3_liveDays_2 : decode cX3_liveDays 2 = .ok (.iload_n 2, 1) := by decide +kernel
theorem dX3_liveDays_3 : decode cX3_liveDays 3 = .ok (.iload_n 1, 1) := by decide +kernel
theorem dX3_liveDays_4 : decode cX3_liveDays 4 = .ok (.if_icmp .ge 14, 3) := by decide +kernel
theorem dX3_liveDays_7 : decode cX3_liveDays 7 = .ok (.aload_n 0, 1) := by decide +kernel
theorem dX3_liveDays_8 : decode cX3_liveDays 8 = .ok (.invokevirtual 111, 3) := by decide +kernel
theorem dX3_liveDays_11 : decode cX3_liveDays 11 = .ok (.pop, 1) := by decide +kernel
theorem dX3_liveDays_12 : decode cX3_liveDays 12 = .ok (.iinc 2 1, 3) := by decide +kernel
theorem dX3_liveDays_15 : decode cX3_liveDays 15 = .ok (.goto (-13), 3) := by decide +kernel
theorem dX3_liveDays_18 : decode cX3_liveDays 18 = .ok (.return_, 1) := by decide +kernel
theorem dX3_liveDay_0 : decode cX3_liveDay 0 = .ok (.aload_n 0, 1) := by decide +kernel
theorem dX3_liveDay_1 : decode cX3_liveDay 1 = .ok (.dup, 1) := by decide +kernel
theorem dX3_liveDay_2 : decode cX3_liveDay 2 = .ok (.getfield 45, 3) := by decide +kernel
theorem dX3_liveDay_5 : decode cX3_liveDay 5 = .ok (.iconst 1, 1) := by decide +kernel
theorem dX3_liveDay_6 : decode cX3_liveDay 6 = .ok (.iadd, 1) := by decide +kernel
theorem dX3_liveDay_7 : decode cX3_liveDay 7 = .ok (.putfield 45, 3) := by decide +kernel
theorem dX3_liveDay_10 : decode cX3_liveDay 10 = .ok (.aload_n 0, 1) := by decide +kernel
theorem dX3_liveDay_11 : decode cX3_liveDay 11 = .ok (.getfield 36, 3) := by decide +kernel
theorem dX3_liveDay_14 : decode cX3_liveDay 14 = .ok (.bipush (-6), 2) := by decide +kernel
theorem dX3_liveDay_16 : decode cX3_liveDay 16 = .ok (.if_icmp .ne 10, 3) := by decide +kernel
theorem dX3_liveDay_19 : decode cX3_liveDay 19 = .ok (.aload_n 0, 1) := by decide +kernel
theorem dX3_liveDay_20 : decode cX3_liveDay 20 = .ok (.invokevirtual 115, 3) := by decide +kernel
theorem dX3_liveDay_23 : decode cX3_liveDay 23 = .ok (.goto 5, 3) := by decide +kernel
theorem dX3_liveDay_26 : decode cX3_liveDay 26 = .ok (.bipush (-6), 2) := by decide +kernel
theorem dX3_liveDay_28 : decode cX3_liveDay 28 = .ok (.istore_n 1, 1) := by decide +kernel
theorem dX3_liveDay_29 : decode cX3_liveDay 29 = .ok (.aload_n 0, 1) := by decide +kernel
theorem dX3_liveDay_30 : decode cX3_liveDay 30 = .ok (.getfield 18, 3) := by decide +kernel
theorem dX3_liveDay_33 : decode cX3_liveDay 33 = .ok (.iconst 3, 1) := by decide +kernel
theorem dX3_liveDay_34 : decode cX3_liveDay 34 = .ok (.iaload, 1) := by decide +kernel
theorem dX3_liveDay_35 : decode cX3_liveDay 35 = .ok (.istore_n 2, 1) := by decide +kernel
theorem dX3_liveDay_36 : decode cX3_liveDay 36 = .ok (.iload_n 2, 1) := by decide +kernel
theorem dX3_liveDay_37 : decode cX3_liveDay 37 = .ok (.ifCond .le 16, 3) := by decide +kernel
theorem dX3_liveDay_40 : decode cX3_liveDay 40 = .ok (.aload_n 0, 1) := by decide +kernel
theorem dX3_liveDay_41 : decode cX3_liveDay 41 = .ok (.getfield 45, 3) := by decide +kernel
theorem dX3_liveDay_44 : decode cX3_liveDay 44 = .ok (.iload_n 2, 1) := by decide +kernel
theorem dX3_liveDay_45 : decode cX3_liveDay 45 = .ok (.irem, 1) := by decide +kernel
theorem dX3_liveDay_46 : decode cX3_liveDay 46 = .ok (.ifCond .ne 7, 3) := by decide +kernel
theorem dX3_liveDay_49 : decode cX3_liveDay 49 = .ok (.aload_n 0, 1) := by decide +kernel
theorem dX3_liveDay_50 : decode cX3_liveDay 50 = .ok (.invokevirtual 118, 3) := by decide +kernel
theorem dX3_liveDay_53 : decode cX3_liveDay 53 = .ok (.aload_n 0, 1) := by decide +kernel
theorem dX3_liveDay_54 : decode cX3_liveDay 54 = .ok (.dup, 1) := by decide +kernel
theorem dX3_liveDay_55 : decode cX3_liveDay 55 = .ok (.getfield 33, 3) := by decide +kernel
theorem dX3_liveDay_58 : decode cX3_liveDay 58 = .ok (.bipush 50, 2) := by decide +kernel
theorem dX3_liveDay_60 : decode cX3_liveDay 60 = .ok (.aload_n 0, 1) := by decide +kernel
theorem dX3_liveDay_61 : decode cX3_liveDay 61 = .ok (.getfield 33, 3) := by decide +kernel
theorem dX3_liveDay_64 : decode cX3_liveDay 64 = .ok (.invokestatic 121, 3) := by decide +kernel
theorem dX3_liveDay_67 : decode cX3_liveDay 67 = .ok (.iadd, 1) := by decide +kernel
theorem dX3_liveDay_68 : decode cX3_liveDay 68 = .ok (.putfield 33, 3) := by decide +kernel
theorem dX3_liveDay_71 : decode cX3_liveDay 71 = .ok (.aload_n 0, 1) := by decide +kernel
theorem dX3_liveDay_72 : decode cX3_liveDay 72 = .ok (.aload_n 0, 1) := by decide +kernel
theorem dX3_liveDay_73 : decode cX3_liveDay 73 = .ok (.getfield 36, 3) := by decide +kernel
theorem dX3_liveDay_76 : decode cX3_liveDay 76 = .ok (.invokevirtual 70, 3) := by decide +kernel
theorem dX3_liveDay_79 : decode cX3_liveDay 79 = .ok (.astore_n 3, 1) := by decide +kernel
theorem dX3_liveDay_80 : decode cX3_liveDay 80 = .ok (.aload_n 3, 1) := by decide +kernel
theorem dX3_liveDay_81 : decode cX3_liveDay 81 = .ok (.ifnull 13, 3) := by decide +kernel
theorem dX3_liveDay_84 : decode cX3_liveDay 84 = .ok (.aload_n 3, 1) := by decide +kernel
theorem dX3_liveDay_85 : decode cX3_liveDay 85 = .ok (.dup, 1) := by decide +kernel
theorem dX3_liveDay_86 : decode cX3_liveDay 86 = .ok (.getfield 127, 3) := by decide +kernel
theorem dX3_liveDay_89 : decode cX3_liveDay 89 = .ok (.iconst 1, 1) := by decide +kernel
theorem dX3_liveDay_90 : decode cX3_liveDay 90 = .ok (.iadd, 1) := by decide +kernel
theorem dX3_liveDay_91 : decode cX3_liveDay 91 = .ok (.putfield 127, 3) := by decide +kernel
theorem dX3_liveDay_94 : decode cX3_liveDay 94 = .ok (.iload_n 1, 1) := by decide +kernel
theorem dX3_liveDay_95 : decode cX3_liveDay 95 = .ok (.ireturn, 1) := by decide +kernel
theorem dX3_holdOutHand_0 : decode cX3_holdOutHand 0 = .ok (.aload_n 0, 1) := by decide +kernel
theorem dX3_holdOutHand_1 : decode cX3_holdOutHand 1 = .ok (.invokevirtual 130, 3) := by decide +kernel
theorem dX3_holdOutHand_4 : decode cX3_holdOutHand 4 = .ok (.istore_n 1, 1) := by decide +kernel
theorem dX3_holdOutHand_5 : decode cX3_holdOutHand 5 = .ok (.aload_n 0, 1) := by decide +kernel
theorem dX3_holdOutHand_6 : decode cX3_holdOutHand 6 = .ok (.iload_n 1, 1) := by decide +kernel
theorem dX3_holdOutHand_7 : decode cX3_holdOutHand 7 = .ok (.invokevirtual 70, 3) := by decide +kernel
theorem dX3_holdOutHand_10 : decode cX3_holdOutHand 10 = .ok (.astore_n 2, 1) := by decide +kernel
theorem dX3_holdOutHand_11 : decode cX3_holdOutHand 11 = .ok (.aload_n 2, 1) := by decide +kernel
theorem dX3_holdOutHand_12 : decode cX3_holdOutHand 12 = .ok (.ifnonnull 6, 3) := by decide +kernel
theorem dX3_holdOutHand_15 : decode cX3_holdOutHand 15 = .ok (.bipush (-6), 2) := by decide +kernel
theorem dX3_holdOutHand_17 : decode cX3_holdOutHand 17 = .ok (.ireturn, 1) := by decide +kernel
theorem dX3_holdOutHand_18 : decode cX3_holdOutHand 18 = .ok (.aload_n 0, 1) := by decide +kernel
theorem dX3_holdOutHand_19 : decode cX3_holdOutHand 19 = .ok (.aload_n 2, 1) := by decide +kernel
theorem dX3_holdOutHand_20 : decode cX3_holdOutHand 20 = .ok (.invokevirtual 101, 3) := by decide +kernel
theorem dX3_holdOutHand_23 : decode cX3_holdOutHand 23 = .ok (.aload_n 0, 1) := by decide +kernel
theorem dX3_holdOutHand_24 : decode cX3_holdOutHand 24 = .ok (.getfield 18, 3) := by decide +kernel
theorem dX3_holdOutHand_27 : decode cX3_holdOutHand 27 = .ok (.iconst 0, 1) := by decide +kernel
theorem dX3_holdOutHand_28 : decode cX3_holdOutHand 28 = .ok (.iaload, 1) := by decide +kernel
theorem dX3_holdOutHand_29 : decode cX3_holdOutHand 29 = .ok (.if_icmp .lt 30, 3) := by decide +kernel
theorem dX3_holdOutHand_32 : decode cX3_holdOutHand 32 = .ok (.aload_n 0, 1) := by decide +kernel
theorem dX3_holdOutHand_33 : decode cX3_holdOutHand 33 = .ok (.iload_n 1, 1) := by decide +kernel
theorem dX3_holdOutHand_34 : decode cX3_holdOutHand 34 = .ok (.putfield 36, 3) := by decide +kernel
theorem dX3_holdOutHand_37 : decode cX3_holdOutHand 37 = .ok (.aload_n 2, 1) := by decide +kernel
theorem dX3_holdOutHand_38 : decode cX3_holdOutHand 38 = .ok (.dup, 1) := by decide +kernel
theorem dX3_holdOutHand_39 : decode cX3_holdOutHand 39 = .ok (.getfield 133, 3) := by decide +kernel
theorem dX3_holdOutHand_42 : decode cX3_holdOutHand 42 = .ok (.iconst 1, 1) := by decide +kernel
theorem dX3_holdOutHand_43 : decode cX3_holdOutHand 43 = .ok (.iadd, 1) := by decide +kernel
theorem dX3_holdOutHand_44 : decode cX3_holdOutHand 44 = .ok (.putfield 133, 3) := by decide +kernel
theorem dX3_holdOutHand_47 : decode cX3_holdOutHand 47 = .ok (.aload_n 0, 1) := by decide +kernel
theorem dX3_holdOutHand_48 : decode cX3_holdOutHand 48 = .ok (.dup, 1) := by decide +kernel
theorem dX3_holdOutHand_49 : decode cX3_holdOutHand 49 = .ok (.getfield 51, 3) := by decide +kernel
theorem dX3_holdOutHand_52 : decode cX3_holdOutHand 52 = .ok (.iconst 1, 1) := by decide +kernel
theorem dX3_holdOutHand_53 : decode cX3_holdOutHand 53 = .ok (.iadd, 1) := by decide +kernel
theorem dX3_holdOutHand_54 : decode cX3_holdOutHand 54 = .ok (.putfield 51, 3) := by decide +kernel
theorem dX3_holdOutHand_57 : decode cX3_holdOutHand 57 = .ok (.iload_n 1, 1) := by decide +kernel
theorem dX3_holdOutHand_58 : decode cX3_holdOutHand 58 = .ok (.ireturn, 1) := by decide +kernel
theorem dX3_holdOutHand_59 : decode cX3_holdOutHand 59 = .ok (.aload_n 0, 1) := by decide +kernel
theorem dX3_holdOutHand_60 : decode cX3_holdOutHand 60 = .ok (.aload_n 2, 1) := by decide +kernel
theorem dX3_holdOutHand_61 : decode cX3_holdOutHand 61 = .ok (.invokevirtual 108, 3) := by decide +kernel
theorem dX3_holdOutHand_64 : decode cX3_holdOutHand 64 = .ok (.aload_n 0, 1) := by decide +kernel
theorem dX3_holdOutHand_65 : decode cX3_holdOutHand 65 = .ok (.iconst 0, 1) := by decide +kernel
theorem dX3_holdOutHand_66 : decode cX3_holdOutHand 66 = .ok (.aload_n 0, 1) := by decide +kernel
theorem dX3_holdOutHand_67 : decode cX3_holdOutHand 67 = .ok (.getfield 33, 3) := by decide +kernel
theorem dX3_holdOutHand_70 : decode cX3_holdOutHand 70 = .ok (.iconst 3, 1) := by decide +kernel
theorem dX3_holdOutHand_71 : decode cX3_holdOutHand 71 = .ok (.isub, 1) := by decide +kernel
theorem dX3_holdOutHand_72 : decode cX3_holdOutHand 72 = .ok (.invokestatic 134, 3) := by decide +kernel
theorem dX3_holdOutHand_75 : decode cX3_holdOutHand 75 = .ok (.putfield 33, 3) := by decide +kernel
theorem dX3_holdOutHand_78 : decode cX3_holdOutHand 78 = .ok (.aload_n 0, 1) := by decide +kernel
theorem dX3_holdOutHand_79 : decode cX3_holdOutHand 79 = .ok (.aload_n 0, 1) := by decide +kernel
theorem dX3_holdOutHand_80 : decode cX3_holdOutHand 80 = .ok (.iload_n 1, 1) := by decide +kernel
theorem dX3_holdOutHand_81 : decode cX3_holdOutHand 81 = .ok (.invokevirtual 139, 3) := by decide +kernel
theorem dX3_holdOutHand_84 : decode cX3_holdOutHand 84 = .ok (.putfield 39, 3) := by decide +kernel
theorem dX3_holdOutHand_87 : decode cX3_holdOutHand 87 = .ok (.bipush (-6), 2) := by decide +kernel
theorem dX3_holdOutHand_89 : decode cX3_holdOutHand 89 = .ok (.ireturn, 1) := by decide +kernel
theorem dX3_nextHand_0 : decode cX3_nextHand 0 = .ok (.aload_n 0, 1) := by decide +kernel
theorem dX3_nextHand_1 : decode cX3_nextHand 1 = .ok (.getfield 39, 3) := by decide +kernel
theorem dX3_nextHand_4 : decode cX3_nextHand 4 = .ok (.istore_n 1, 1) := by decide +kernel
theorem dX3_nextHand_5 : decode cX3_nextHand 5 = .ok (.iconst 0, 1) := by decide +kernel
theorem dX3_nextHand_6 : decode cX3_nextHand 6 = .ok (.istore_n 2, 1) := by decide +kernel
theorem dX3_nextHand_7 : decode cX3_nextHand 7 = .ok (.iload_n 2, 1) := by decide +kernel
theorem dX3_nextHand_8 : decode cX3_nextHand 8 = .ok (.aload_n 0, 1) := by decide +kernel
theorem dX3_nextHand_9 : decode cX3_nextHand 9 = .ok (.getfield 29, 3) := by decide +kernel
theorem dX3_nextHand_12 : decode cX3_nextHand 12 = .ok (.if_icmp .ge 35, 3) := by decide +kernel
theorem dX3_nextHand_15 : decode cX3_nextHand 15 = .ok (.aload_n 0, 1) := by decide +kernel
theorem dX3_nextHand_16 : decode cX3_nextHand 16 = .ok (.iload_n 1, 1) := by decide +kernel
theorem dX3_nextHand_17 : decode cX3_nextHand 17 = .ok (.invokevirtual 70, 3) := by decide +kernel
theorem dX3_nextHand_20 : decode cX3_nextHand 20 = .ok (.astore_n 3, 1) := by decide +kernel
theorem dX3_nextHand_21 : decode cX3_nextHand 21 = .ok (.aload_n 3, 1) := by decide +kernel
theorem dX3_nextHand_22 : decode cX3_nextHand 22 = .ok (.ifnull 13, 3) := by decide +kernel
theorem dX3_nextHand_25 : decode cX3_nextHand 25 = .ok (.aload_n 0, 1) := by decide +kernel
theorem dX3_nextHand_26 : decode cX3_nextHand 26 = .ok (.aload_n 3, 1) := by decide +kernel
theorem dX3_nextHand_27 : decode cX3_nextHand 27 = .ok (.invokevirtual 82, 3) := by decide +kernel
theorem dX3_nextHand_30 : decode cX3_nextHand 30 = .ok (.ifCond .ne 5, 3) := by decide +kernel
theorem dX3_nextHand_33 : decode cX3_nextHand 33 = .ok (.iload_n 1, 1) := by decide +kernel
theorem dX3_nextHand_34 : decode cX3_nextHand 34 = .ok (.ireturn, 1) := by decide +kernel
theorem dX3_nextHand_35 : decode cX3_nextHand 35 = .ok (.aload_n 0, 1) := by decide +kernel
theorem dX3_nextHand_36 : decode cX3_nextHand 36 = .ok (.iload_n 1, 1) := by decide +kernel
theorem dX3_nextHand_37 : decode cX3_nextHand 37 = .ok (.invokevirtual 139, 3) := by decide +kernel
theorem dX3_nextHand_40 : decode cX3_nextHand 40 = .ok (.istore_n 1, 1) := by decide +kernel
theorem dX3_nextHand_41 : decode cX3_nextHand 41 = .ok (.iinc 2 1, 3) := by decide +kernel
theorem dX3_nextHand_44 : decode cX3_nextHand 44 = .ok (.goto (-37), 3) := by decide +kernel
theorem dX3_nextHand_47 : decode cX3_nextHand 47 = .ok (.bipush (-6), 2) := by decide +kernel
theorem dX3_nextHand_49 : decode cX3_nextHand 49 = .ok (.ireturn, 1) := by decide +kernel
theorem dX3_endMonth_0 : decode cX3_endMonth 0 = .ok (.aload_n 0, 1) := by decide +kernel
theorem dX3_endMonth_1 : decode cX3_endMonth 1 = .ok (.aload_n 0, 1) := by decide +kernel
theorem dX3_endMonth_2 : decode cX3_endMonth 2 = .ok (.getfield 36, 3) := by decide +kernel
theorem dX3_endMonth_5 : decode cX3_endMonth 5 = .ok (.invokevirtual 70, 3) := by decide +kernel
theorem dX3_endMonth_8 : decode cX3_endMonth 8 = .ok (.astore_n 1, 1) := by decide +kernel
theorem dX3_endMonth_9 : decode cX3_endMonth 9 = .ok (.aload_n 1, 1) := by decide +kernel
theorem dX3_endMonth_10 : decode cX3_endMonth 10 = .ok (.ifnonnull 25, 3) := by decide +kernel
theorem dX3_endMonth_13 : decode cX3_endMonth 13 = .ok (.aload_n 0, 1) := by decide +kernel
theorem dX3_endMonth_14 : decode cX3_endMonth 14 = .ok (.dup, 1) := by decide +kernel
theorem dX3_endMonth_15 : decode cX3_endMonth 15 = .ok (.getfield 57, 3) := by decide +kernel
theorem dX3_endMonth_18 : decode cX3_endMonth 18 = .ok (.aload_n 0, 1) := by decide +kernel
theorem dX3_endMonth_19 : decode cX3_endMonth 19 = .ok (.aload_n 0, 1) := by decide +kernel
theorem dX3_endMonth_20 : decode cX3_endMonth 20 = .ok (.getfield 18, 3) := by decide +kernel
theorem dX3_endMonth_23 : decode cX3_endMonth 23 = .ok (.iconst 1, 1) := by decide +kernel
theorem dX3_endMonth_24 : decode cX3_endMonth 24 = .ok (.iaload, 1) := by decide +kernel
theorem dX3_endMonth_25 : decode cX3_endMonth 25 = .ok (.iconst 2, 1) := by decide +kernel
theorem dX3_endMonth_26 : decode cX3_endMonth 26 = .ok (.idiv, 1) := by decide +kernel
theorem dX3_endMonth_27 : decode cX3_endMonth 27 = .ok (.invokevirtual 143, 3) := by decide +kernel
theorem dX3_endMonth_30 : decode cX3_endMonth 30 = .ok (.iadd, 1) := by decide +kernel
theorem dX3_endMonth_31 : decode cX3_endMonth 31 = .ok (.putfield 57, 3) := by decide +kernel
theorem dX3_endMonth_34 : decode cX3_endMonth 34 = .ok (.return_, 1) := by decide +kernel
theorem dX3_endMonth_35 : decode cX3_endMonth 35 = .ok (.aload_n 0, 1) := by decide +kernel
theorem dX3_endMonth_36 : decode cX3_endMonth 36 = .ok (.aload_n 0, 1) := by decide +kernel
theorem dX3_endMonth_37 : decode cX3_endMonth 37 = .ok (.getfield 18, 3) := by decide +kernel
theorem dX3_endMonth_40 : decode cX3_endMonth 40 = .ok (.iconst 1, 1) := by decide +kernel
theorem dX3_endMonth_41 : decode cX3_endMonth 41 = .ok (.iaload, 1) := by decide +kernel
theorem dX3_endMonth_42 : decode cX3_endMonth 42 = .ok (.invokevirtual 143, 3) := by decide +kernel
theorem dX3_endMonth_45 : decode cX3_endMonth 45 = .ok (.istore_n 2, 1) := by decide +kernel
theorem dX3_endMonth_46 : decode cX3_endMonth 46 = .ok (.iload_n 2, 1) := by decide +kernel
theorem dX3_endMonth_47 : decode cX3_endMonth 47 = .ok (.aload_n 1, 1) := by decide +kernel
theorem dX3_endMonth_48 : decode cX3_endMonth 48 = .ok (.getfield 146, 3) := by decide +kernel
theorem dX3_endMonth_51 : decode cX3_endMonth 51 = .ok (.imul, 1) := by decide +kernel
theorem dX3_endMonth_52 : decode cX3_endMonth 52 = .ok (.bipush 100, 2) := by decide +kernel
theorem dX3_endMonth_54 : decode cX3_endMonth 54 = .ok (.idiv, 1) := by decide +kernel
theorem dX3_endMonth_55 : decode cX3_endMonth 55 = .ok (.istore_n 3, 1) := by decide +kernel
theorem dX3_endMonth_56 : decode cX3_endMonth 56 = .ok (.aload_n 0, 1) := by decide +kernel
theorem dX3_endMonth_57 : decode cX3_endMonth 57 = .ok (.dup, 1) := by decide +kernel
theorem dX3_endMonth_58 : decode cX3_endMonth 58 = .ok (.getfield 57, 3) := by decide +kernel
theorem dX3_endMonth_61 : decode cX3_endMonth 61 = .ok (.iload_n 3, 1) := by decide +kernel
theorem dX3_endMonth_62 : decode cX3_endMonth 62 = .ok (.iadd, 1) := by decide +kernel
theorem dX3_endMonth_63 : decode cX3_endMonth 63 = .ok (.putfield 57, 3) := by decide +kernel
theorem dX3_endMonth_66 : decode cX3_endMonth 66 = .ok (.aload_n 1, 1) := by decide +kernel
theorem dX3_endMonth_67 : decode cX3_endMonth 67 = .ok (.dup, 1) := by decide +kernel
theorem dX3_endMonth_68 : decode cX3_endMonth 68 = .ok (.getfield 86, 3) := by decide +kernel
theorem dX3_endMonth_71 : decode cX3_endMonth 71 = .ok (.iload_n 2, 1) := by decide +kernel
theorem dX3_endMonth_72 : decode cX3_endMonth 72 = .ok (.iload_n 3, 1) := by decide +kernel
theorem dX3_endMonth_73 : decode cX3_endMonth 73 = .ok (.isub, 1) := by decide +kernel
theorem dX3_endMonth_74 : decode cX3_endMonth 74 = .ok (.iadd, 1) := by decide +kernel
theorem dX3_endMonth_75 : decode cX3_endMonth 75 = .ok (.putfield 86, 3) := by decide +kernel
theorem dX3_endMonth_78 : decode cX3_endMonth 78 = .ok (.aload_n 0, 1) := by decide +kernel
theorem dX3_endMonth_79 : decode cX3_endMonth 79 = .ok (.bipush 99, 2) := by decide +kernel
theorem dX3_endMonth_81 : decode cX3_endMonth 81 = .ok (.aload_n 0, 1) := by decide +kernel
theorem dX3_endMonth_82 : decode cX3_endMonth 82 = .ok (.getfield 33, 3) := by decide +kernel
theorem dX3_endMonth_85 : decode cX3_endMonth 85 = .ok (.iload_n 3, 1) := by decide +kernel
theorem dX3_endMonth_86 : decode cX3_endMonth 86 = .ok (.iconst 2, 1) := by decide +kernel
theorem dX3_endMonth_87 : decode cX3_endMonth 87 = .ok (.idiv, 1) := by decide +kernel
theorem dX3_endMonth_88 : decode cX3_endMonth 88 = .ok (.iadd, 1) := by decide +kernel
theorem dX3_endMonth_89 : decode cX3_endMonth 89 = .ok (.invokestatic 149, 3) := by decide +kernel
theorem dX3_endMonth_92 : decode cX3_endMonth 92 = .ok (.putfield 33, 3) := by decide +kernel
theorem dX3_endMonth_95 : decode cX3_endMonth 95 = .ok (.aload_n 0, 1) := by decide +kernel
theorem dX3_endMonth_96 : decode cX3_endMonth 96 = .ok (.getfield 33, 3) := by decide +kernel
theorem dX3_endMonth_99 : decode cX3_endMonth 99 = .ok (.aload_n 0, 1) := by decide +kernel
theorem dX3_endMonth_100 : decode cX3_endMonth 100 = .ok (.getfield 18, 3) := by decide +kernel
theorem dX3_endMonth_103 : decode cX3_endMonth 103 = .ok (.iconst 5, 1) := by decide +kernel
theorem dX3_endMonth_104 : decode cX3_endMonth 104 = .ok (.iaload, 1) := by decide +kernel
theorem dX3_endMonth_105 : decode cX3_endMonth 105 = .ok (.if_icmp .ge 8, 3) := by decide +kernel
theorem dX3_endMonth_108 : decode cX3_endMonth 108 = .ok (.aload_n 0, 1) := by decide +kernel
theorem dX3_endMonth_109 : decode cX3_endMonth 109 = .ok (.iconst 0, 1) := by decide +kernel
theorem dX3_endMonth_110 : decode cX3_endMonth 110 = .ok (.invokevirtual 105, 3) := by decide +kernel
theorem dX3_endMonth_113 : decode cX3_endMonth 113 = .ok (.return_, 1) := by decide +kernel
theorem dX3_draw_0 : decode cX3_draw 0 = .ok (.iload_n 1, 1) := by decide +kernel
theorem dX3_draw_1 : decode cX3_draw 1 = .ok (.aload_n 0, 1) := by decide +kernel
theorem dX3_draw_2 : decode cX3_draw 2 = .ok (.getfield 42, 3) := by decide +kernel
theorem dX3_draw_5 : decode cX3_draw 5 = .ok (.invokestatic 149, 3) := by decide +kernel
theorem dX3_draw_8 : decode cX3_draw 8 = .ok (.istore_n 2, 1) := by decide +kernel
theorem dX3_draw_9 : decode cX3_draw 9 = .ok (.aload_n 0, 1) := by decide +kernel
theorem dX3_draw_10 : decode cX3_draw 10 = .ok (.dup, 1) := by decide +kernel
theorem dX3_draw_11 : decode cX3_draw 11 = .ok (.getfield 42, 3) := by decide +kernel
theorem dX3_draw_14 : decode cX3_draw 14 = .ok (.iload_n 2, 1) := by decide +kernel
theorem dX3_draw_15 : decode cX3_draw 15 = .ok (.isub, 1) := by decide +kernel
theorem dX3_draw_16 : decode cX3_draw 16 = .ok (.putfield 42, 3) := by decide +kernel
theorem dX3_draw_19 : decode cX3_draw 19 = .ok (.iload_n 2, 1) := by decide +kernel
theorem dX3_draw_20 : decode cX3_draw 20 = .ok (.ireturn, 1) := by decide +kernel
end
section
theorem dX4_init_0 : decode cX4_init 0 = .ok (.aload_n 0, 1) := by decide +kernel
theorem dX4_init_1 : decode cX4_init 1 = .ok (.invokespecial 1, 3) := by decide +kernel
theorem dX4_init_4 : decode cX4_init 4 = .ok (.aload_n 0, 1) := by decide +kernel
theorem dX4_init_5 : decode cX4_init 5 = .ok (.new 7, 3) := by decide +kernel
theorem dX4_init_8 : decode cX4_init 8 = .ok (.dup, 1) := by decide +kernel
theorem dX4_init_9 : decode cX4_init 9 = .ok (.invokespecial 9, 3) := by decide +kernel
theorem dX4_init_12 : decode cX4_init 12 = .ok (.putfield 10, 3) := by decide +kernel
theorem dX4_init_15 : decode cX4_init 15 = .ok (.aload_n 0, 1) := by decide +kernel
theorem dX4_init_16 : decode cX4_init 16 = .ok (.new 7, 3) := by decide +kernel
theorem dX4_init_19 : decode cX4_init 19 = .ok (.dup, 1) := by decide +kernel
theorem dX4_init_20 : decode cX4_init 20 = .ok (.invokespecial 9, 3) := by decide +kernel
theorem dX4_init_23 : decode cX4_init 23 = .ok (.putfield 16, 3) := by decide +kernel
theorem dX4_init_26 : decode cX4_init 26 = .ok (.aload_n 0, 1) := by decide +kernel
theorem dX4_init_27 : decode cX4_init 27 = .ok (.new 19, 3) := by decide +kernel
theorem dX4_init_30 : decode cX4_init 30 = .ok (.dup, 1) := by decide +kernel
theorem dX4_init_31 : decode cX4_init 31 = .ok (.invokespecial 21, 3) := by decide +kernel
theorem dX4_init_34 : decode cX4_init 34 = .ok (.putfield 22, 3) := by decide +kernel
theorem dX4_init_37 : decode cX4_init 37 = .ok (.aload_n 0, 1) := by decide +kernel
theorem dX4_init_38 : decode cX4_init 38 = .ok (.iconst 2, 1) := by decide +kernel
theorem dX4_init_39 : decode cX4_init 39 = .ok (.anewarray 7, 3) := by decide +kernel
theorem dX4_init_42 : decode cX4_init 42 = .ok (.putfield 26, 3) := by decide +kernel
theorem dX4_init_45 : decode cX4_init 45 = .ok (.aload_n 0, 1) := by decide +kernel
theorem dX4_init_46 : decode cX4_init 46 = .ok (.new 30, 3) := by decide +kernel
theorem dX4_init_49 : decode cX4_init 49 = .ok (.dup, 1) := by decide +kernel
theorem dX4_init_50 : decode cX4_init 50 = .ok (.invokespecial 32, 3) := by decide +kernel
theorem dX4_init_53 : decode cX4_init 53 = .ok (.putfield 33, 3) := by decide +kernel
theorem dX4_init_56 : decode cX4_init 56 = .ok (.return_, 1) := by decide +kernel
theorem dX4_set_0 : decode cX4_set 0 = .ok (.iload_n 1, 1) := by decide +kernel
theorem dX4_set_1 : decode cX4_set 1 = .ok (.invokestatic 37, 3) := by decide +kernel
theorem dX4_set_4 : decode cX4_set 4 = .ok (.ifCond .ne 6, 3) := by decide +kernel
theorem dX4_set_7 : decode cX4_set 7 = .ok (.bipush (-2), 2) := by decide +kernel
theorem dX4_set_9 : decode cX4_set 9 = .ok (.ireturn, 1) := by decide +kernel
theorem dX4_set_10 : decode cX4_set 10 = .ok (.iload_n 2, 1) := by decide +kernel
theorem dX4_set_11 : decode cX4_set 11 = .ok (.getstatic 41, 3) := by decide +kernel
theorem dX4_set_14 : decode cX4_set 14 = .ok (.iload_n 1, 1) := by decide +kernel
theorem dX4_set_15 : decode cX4_set 15 = .ok (.iaload, 1) := by decide +kernel
theorem dX4_set_16 : decode cX4_set 16 = .ok (.if_icmp .lt 12, 3) := by decide +kernel
theorem dX4_set_19 : decode cX4_set 19 = .ok (.iload_n 2, 1) := by decide +kernel
theorem dX4_set_20 : decode cX4_set 20 = .ok (.getstatic 45, 3) := by decide +kernel
theorem dX4_set_23 : decode cX4_set 23 = .ok (.iload_n 1, 1) := by decide +kernel
theorem dX4_set_24 : decode cX4_set 24 = .ok (.iaload, 1) := by decide +kernel
theorem dX4_set_25 : decode cX4_set 25 = .ok (.if_icmp .le 6, 3) := by decide +kernel
theorem dX4_set_28 : decode cX4_set 28 = .ok (.bipush (-2), 2) := by decide +kernel
theorem dX4_set_30 : decode cX4_set 30 = .ok (.ireturn, 1) := by decide +kernel
theorem dX4_set_31 : decode cX4_set 31 = .ok (.aload_n 0, 1) := by decide +kernel
theorem dX4_set_32 : decode cX4_set 32 = .ok (.getfield 22, 3) := by decide +kernel
theorem dX4_set_35 : decode cX4_set 35 = .ok (.aload_n 0, 1) := by decide +kernel
theorem dX4_set_36 : decode cX4_set 36 = .ok (.getfield 10, 3) := by decide +kernel
theorem dX4_set_39 : decode cX4_set 39 = .ok (.invokevirtual 48, 3) := by decide +kernel
theorem dX4_set_42 : decode cX4_set 42 = .ok (.aload_n 0, 1) := by decide +kernel
theorem dX4_set_43 : decode cX4_set 43 = .ok (.getfield 10, 3) := by decide +kernel
theorem dX4_set_46 : decode cX4_set 46 = .ok (.getfield 52, 3) := by decide +kernel
theorem dX4_set_49 : decode cX4_set 49 = .ok (.iload_n 1, 1) := by decide +kernel
theorem dX4_set_50 : decode cX4_set 50 = .ok (.iaload, 1) := by decide +kernel
theorem dX4_set_51 : decode cX4_set 51 = .ok (.istore_n 3, 1) := by decide +kernel
theorem dX4_set_52 : decode cX4_set 52 = .ok (.aload_n 0, 1) := by decide +kernel
theorem dX4_set_53 : decode cX4_set 53 = .ok (.getfield 10, 3) := by decide +kernel
theorem dX4_set_56 : decode cX4_set 56 = .ok (.getfield 52, 3) := by decide +kernel
theorem dX4_set_59 : decode cX4_set 59 = .ok (.iload_n 1, 1) := by decide +kernel
theorem dX4_set_60 : decode cX4_set 60 = .ok (.iload_n 2, 1) := by decide +kernel
theorem dX4_set_61 : decode cX4_set 61 = .ok (.iastore, 1) := by decide +kernel
theorem dX4_set_62 : decode cX4_set 62 = .ok (.iload_n 3, 1) := by decide +kernel
theorem dX4_set_63 : decode cX4_set 63 = .ok (.ireturn, 1) := by decide +kernel
theorem dX4_add_0 : decode cX4_add 0 = .ok (.iload_n 1, 1) := by decide +kernel
theorem dX4_add_1 : decode cX4_add 1 = .ok (.iconst 1, 1) := by decide +kernel
theorem dX4_add_2 : decode cX4_add 2 = .ok (.if_icmp .lt 19, 3) := by decide +kernel
theorem dX4_add_5 : decode cX4_add 5 = .ok (.iload_n 1, 1) := by decide +kernel
theorem dX4_add_6 : decode cX4_add 6 = .ok (.bipush 9, 2) := by decide +kernel
theorem dX4_add_8 : decode cX4_add 8 = .ok (.if_icmp .gt 13, 3) := by decide +kernel
theorem dX4_add_11 : decode cX4_add 11 = .ok (.iload_n 2, 1) := by decide +kernel
theorem dX4_add_12 : decode cX4_add 12 = .ok (.ifCond .lt 9, 3) := by decide +kernel
theorem dX4_add_15 : decode cX4_add 15 = .ok (.iload_n 2, 1) := by decide +kernel
theorem dX4_add_16 : decode cX4_add 16 = .ok (.bipush 100, 2) := by decide +kernel
theorem dX4_add_18 : decode cX4_add 18 = .ok (.if_icmp .le 6, 3) := by decide +kernel
theorem dX4_add_21 : decode cX4_add 21 = .ok (.bipush (-2), 2) := by decide +kernel
theorem dX4_add_23 : decode cX4_add 23 = .ok (.ireturn, 1) := by decide +kernel
theorem dX4_add_24 : decode cX4_add 24 = .ok (.aload_n 0, 1) := by decide +kernel
theorem dX4_add_25 : decode cX4_add 25 = .ok (.getfield 10, 3) := by decide +kernel
theorem dX4_add_28 : decode cX4_add 28 = .ok (.getfield 55, 3) := by decide +kernel
theorem dX4_add_31 : decode cX4_add 31 = .ok (.bipush 8, 2) := by decide +kernel
theorem dX4_add_33 : decode cX4_add 33 = .ok (.if_icmp .lt 6, 3) := by decide +kernel
theorem dX4_add_36 : decode cX4_add 36 = .ok (.bipush (-4), 2) := by decide +kernel
theorem dX4_add_38 : decode cX4_add 38 = .ok (.ireturn, 1) := by decide +kernel
theorem dX4_add_39 : decode cX4_add 39 = .ok (.aload_n 0, 1) := by decide +kernel
theorem dX4_add_40 : decode cX4_add 40 = .ok (.getfield 22, 3) := by decide +kernel
theorem dX4_add_43 : decode cX4_add 43 = .ok (.aload_n 0, 1) := by decide +kernel
theorem dX4_add_44 : decode cX4_add 44 = .ok (.getfield 10, 3) := by decide +kernel
theorem dX4_add_47 : decode cX4_add 47 = .ok (.invokevirtual 48, 3) := by decide +kernel
theorem dX4_add_50 : decode cX4_add 50 = .ok (.aload_n 0, 1) := by decide +kernel
theorem dX4_add_51 : decode cX4_add 51 = .ok (.getfield 10, 3) := by decide +kernel
theorem dX4_add_54 : decode cX4_add 54 = .ok (.iload_n 1, 1) := by decide +kernel
theorem dX4_add_55 : decode cX4_add 55 = .ok (.iload_n 2, 1) := by decide +kernel
theorem dX4_add_56 : decode cX4_add 56 = .ok (.invokevirtual 59, 3) := by decide +kernel
theorem dX4_add_59 : decode cX4_add 59 = .ok (.aload_n 0, 1) := by decide +kernel
theorem dX4_add_60 : decode cX4_add 60 = .ok (.getfield 10, 3) := by decide +kernel
theorem dX4_add_63 : decode cX4_add 63 = .ok (.getfield 55, 3) := by decide +kernel
theorem dX4_add_66 : decode cX4_add 66 = .ok (.iconst 1, 1) := by decide +kernel
theorem dX4_add_67 : decode cX4_add 67 = .ok (.isub, 1) := by decide +kernel
theorem dX4_add_68 : decode cX4_add 68 = .ok (.ireturn, 1) := by decide +kernel
theorem dX4_move_0 : decode cX4_move 0 = .ok (.aload_n 0, 1) := by decide +kernel
theorem dX4_move_1 : decode cX4_move 1 = .ok (.getfield 10, 3) := by decide +kernel
theorem dX4_move_4 : decode cX4_move 4 = .ok (.iload_n 1, 1) := by decide +kernel
theorem dX4_move_5 : decode cX4_move 5 = .ok (.invokevirtual 76, 3) := by decide +kernel
theorem dX4_move_8 : decode cX4_move 8 = .ok (.ifnull 14, 3) := by decide +kernel
theorem dX4_move_11 : decode cX4_move 11 = .ok (.aload_n 0, 1) := by decide +kernel
theorem dX4_move_12 : decode cX4_move 12 = .ok (.getfield 10, 3) := by decide +kernel
theorem dX4_move_15 : decode cX4_move 15 = .ok (.iload_n 2, 1) := by decide +kernel
theorem dX4_move_16 : decode cX4_move 16 = .ok (.invokevirtual 76, 3) := by decide +kernel
theorem dX4_move_19 : decode cX4_move 19 = .ok (.ifnonnull 5, 3) := by decide +kernel
theorem dX4_move_22 : decode cX4_move 22 = .ok (.iconst (-1), 1) := by decide +kernel
theorem dX4_move_23 : decode cX4_move 23 = .ok (.ireturn, 1) := by decide +kernel
theorem dX4_move_24 : decode cX4_move 24 = .ok (.aload_n 0, 1) := by decide +kernel
theorem dX4_move_25 : decode cX4_move 25 = .ok (.getfield 22, 3) := by decide +kernel
theorem dX4_move_28 : decode cX4_move 28 = .ok (.aload_n 0, 1) := by decide +kernel
theorem dX4_move_29 : decode cX4_move 29 = .ok (.getfield 10, 3) := by decide +kernel
theorem dX4_move_32 : decode cX4_move 32 = .ok (.invokevirtual 48, 3) := by decide +kernel
theorem dX4_move_35 : decode cX4_move 35 = .ok (.aload_n 0, 1) := by decide +kernel
theorem dX4_move_36 : decode cX4_move 36 = .ok (.getfield 10, 3) := by decide +kernel
theorem dX4_move_39 : decode cX4_move 39 = .ok (.iload_n 1, 1) := by decide +kernel
theorem dX4_move_40 : decode cX4_move 40 = .ok (.iload_n 2, 1) := by decide +kernel
theorem dX4_move_41 : decode cX4_move 41 = .ok (.invokevirtual 80, 3) := by decide +kernel
theorem dX4_move_44 : decode cX4_move 44 = .ok (.iload_n 1, 1) := by decide +kernel
theorem dX4_move_45 : decode cX4_move 45 = .ok (.iload_n 2, 1) := by decide +kernel
theorem dX4_move_46 : decode cX4_move 46 = .ok (.if_icmp .ne 7, 3) := by decide +kernel
theorem dX4_move_49 : decode cX4_move 49 = .ok (.iconst 0, 1) := by decide +kernel
theorem dX4_move_50 : decode cX4_move 50 = .ok (.goto 11, 3) := by decide +kernel
theorem dX4_move_53 : decode cX4_move 53 = .ok (.iload_n 1, 1) := by decide +kernel
theorem dX4_move_54 : decode cX4_move 54 = .ok (.iload_n 2, 1) := by decide +kernel
theorem dX4_move_55 : decode cX4_move 55 = .ok (.isub, 1) := by decide +kernel
theorem dX4_move_56 : decode cX4_move 56 = .ok (.invokestatic 83, 3) := by decide +kernel
theorem dX4_move_59 : decode cX4_move 59 = .ok (.iconst 1, 1) := by decide +kernel
theorem dX4_move_60 : decode cX4_move 60 = .ok (.iadd, 1) := by decide +kernel
theorem dX4_move_61 : decode cX4_move 61 = .ok (.ireturn, 1) := by decide +kernel
theorem dX4_stepDown_0 : decode cX4_stepDown 0 = .ok (.aload_n 0, 1) := by decide +kernel
theorem dX4_stepDown_1 : decode cX4_stepDown 1 = .ok (.getfield 10, 3) := by decide +kernel
theorem dX4_stepDown_4 : decode cX4_stepDown 4 = .ok (.getfield 89, 3) := by decide +kernel
theorem dX4_stepDown_7 : decode cX4_stepDown 7 = .ok (.istore_n 1, 1) := by decide +kernel
theorem dX4_stepDown_8 : decode cX4_stepDown 8 = .ok (.iload_n 1, 1) := by decide +kernel
theorem dX4_stepDown_9 : decode cX4_stepDown 9 = .ok (.bipush (-6), 2) := by decide +kernel
theorem dX4_stepDown_11 : decode cX4_stepDown 11 = .ok (.if_icmp .ne 6, 3) := by decide +kernel
theorem dX4_stepDown_14 : decode cX4_stepDown 14 = .ok (.bipush (-5), 2) := by decide +kernel
theorem dX4_stepDown_16 : decode cX4_stepDown 16 = .ok (.ireturn, 1) := by decide +kernel
theorem dX4_stepDown_17 : decode cX4_stepDown 17 = .ok (.aload_n 0, 1) := by decide +kernel
theorem dX4_stepDown_18 : decode cX4_stepDown 18 = .ok (.getfield 22, 3) := by decide +kernel
theorem dX4_stepDown_21 : decode cX4_stepDown 21 = .ok (.aload_n 0, 1) := by decide +kernel
theorem dX4_stepDown_22 : decode cX4_stepDown 22 = .ok (.getfield 10, 3) := by decide +kernel
theorem dX4_stepDown_25 : decode cX4_stepDown 25 = .ok (.invokevirtual 48, 3) := by decide +kernel
theorem dX4_stepDown_28 : decode cX4_stepDown 28 = .ok (.aload_n 0, 1) := by decide +kernel
theorem dX4_stepDown_29 : decode cX4_stepDown 29 = .ok (.getfield 10, 3) := by decide +kernel
theorem dX4_stepDown_32 : decode cX4_stepDown 32 = .ok (.aload_n 0, 1) := by decide +kernel
theorem dX4_stepDown_33 : decode cX4_stepDown 33 = .ok (.getfield 10, 3) := by decide +kernel
theorem dX4_stepDown_36 : decode cX4_stepDown 36 = .ok (.iload_n 1, 1) := by decide +kernel
theorem dX4_stepDown_37 : decode cX4_stepDown 37 = .ok (.invokevirtual 92, 3) := by decide +kernel
theorem dX4_stepDown_40 : decode cX4_stepDown 40 = .ok (.invokevirtual 95, 3) := by decide +kernel
theorem dX4_stepDown_43 : decode cX4_stepDown 43 = .ok (.iload_n 1, 1) := by decide +kernel
theorem dX4_stepDown_44 : decode cX4_stepDown 44 = .ok (.ireturn, 1) := by decide +kernel
theorem dX4_appeal_0 : decode cX4_appeal 0 = .ok (.aload_n 0, 1) := by decide +kernel
theorem dX4_appeal_1 : decode cX4_appeal 1 = .ok (.getfield 10, 3) := by decide +kernel
theorem dX4_appeal_4 : decode cX4_appeal 4 = .ok (.iload_n 1, 1) := by decide +kernel
theorem dX4_appeal_5 : decode cX4_appeal 5 = .ok (.invokevirtual 76, 3) := by decide +kernel
theorem dX4_appeal_8 : decode cX4_appeal 8 = .ok (.ifnonnull 5, 3) := by decide +kernel
theorem dX4_appeal_11 : decode cX4_appeal 11 = .ok (.iconst (-1), 1) := by decide +kernel
theorem dX4_appeal_12 : decode cX4_appeal 12 = .ok (.ireturn, 1) := by decide +kernel
theorem dX4_appeal_13 : decode cX4_appeal 13 = .ok (.aload_n 0, 1) := by decide +kernel
theorem dX4_appeal_14 : decode cX4_appeal 14 = .ok (.getfield 10, 3) := by decide +kernel
theorem dX4_appeal_17 : decode cX4_appeal 17 = .ok (.iload_n 1, 1) := by decide +kernel
theorem dX4_appeal_18 : decode cX4_appeal 18 = .ok (.invokevirtual 99, 3) := by decide +kernel
theorem dX4_appeal_21 : decode cX4_appeal 21 = .ok (.ifCond .ne 6, 3) := by decide +kernel
theorem dX4_appeal_24 : decode cX4_appeal 24 = .ok (.bipush (-5), 2) := by decide +kernel
theorem dX4_appeal_26 : decode cX4_appeal 26 = .ok (.ireturn, 1) := by decide +kernel
theorem dX4_appeal_27 : decode cX4_appeal 27 = .ok (.aload_n 0, 1) := by decide +kernel
theorem dX4_appeal_28 : decode cX4_appeal 28 = .ok (.getfield 22, 3) := by decide +kernel
theorem dX4_appeal_31 : decode cX4_appeal 31 = .ok (.aload_n 0, 1) := by decide +kernel
theorem dX4_appeal_32 : decode cX4_appeal 32 = .ok (.getfield 10, 3) := by decide +kernel
theorem dX4_appeal_35 : decode cX4_appeal 35 = .ok (.invokevirtual 48, 3) := by decide +kernel
theorem dX4_appeal_38 : decode cX4_appeal 38 = .ok (.aload_n 0, 1) := by decide +kernel
theorem dX4_appeal_39 : decode cX4_appeal 39 = .ok (.getfield 10, 3) := by decide +kernel
theorem dX4_appeal_42 : decode cX4_appeal 42 = .ok (.iload_n 1, 1) := by decide +kernel
theorem dX4_appeal_43 : decode cX4_appeal 43 = .ok (.invokevirtual 102, 3) := by decide +kernel
theorem dX4_appeal_46 : decode cX4_appeal 46 = .ok (.ifCond .eq 7, 3) := by decide +kernel
theorem dX4_appeal_49 : decode cX4_appeal 49 = .ok (.iconst 1, 1) := by decide +kernel
theorem dX4_appeal_50 : decode cX4_appeal 50 = .ok (.goto 4, 3) := by decide +kernel
theorem dX4_appeal_53 : decode cX4_appeal 53 = .ok (.iconst 0, 1) := by decide +kernel
theorem dX4_appeal_54 : decode cX4_appeal 54 = .ok (.ireturn, 1) := by decide +kernel
theorem dX4_give_0 : decode cX4_give 0 = .ok (.iload_n 1, 1) := by decide +kernel
theorem dX4_give_1 : decode cX4_give 1 = .ok (.iconst 1, 1) := by decide +kernel
theorem dX4_give_2 : decode cX4_give 2 = .ok (.if_icmp .lt 10, 3) := by decide +kernel
theorem dX4_give_5 : decode cX4_give 5 = .ok (.iload_n 1, 1) := by decide +kernel
theorem dX4_give_6 : decode cX4_give 6 = .ok (.sipush 9999, 3) := by decide +kernel
theorem dX4_give_9 : decode cX4_give 9 = .ok (.if_icmp .le 6, 3) := by decide +kernel
theorem dX4_give_12 : decode cX4_give 12 = .ok (.bipush (-2), 2) := by decide +kernel
theorem dX4_give_14 : decode cX4_give 14 = .ok (.ireturn, 1) := by decide +kernel
theorem dX4_give_15 : decode cX4_give 15 = .ok (.aload_n 0, 1) := by decide +kernel
theorem dX4_give_16 : decode cX4_give 16 = .ok (.getfield 10, 3) := by decide +kernel
theorem dX4_give_19 : decode cX4_give 19 = .ok (.getfield 105, 3) := by decide +kernel
theorem dX4_give_22 : decode cX4_give 22 = .ok (.iload_n 1, 1) := by decide +kernel
theorem dX4_give_23 : decode cX4_give 23 = .ok (.iadd, 1) := by decide +kernel
theorem dX4_give_24 : decode cX4_give 24 = .ok (.ldc 108, 2) := by decide +kernel
theorem dX4_give_26 : decode cX4_give 26 = .ok (.if_icmp .le 6, 3) := by decide +kernel
theorem dX4_give_29 : decode cX4_give 29 = .ok (.bipush (-4), 2) := by decide +kernel
theorem dX4_give_31 : decode cX4_give 31 = .ok (.ireturn, 1) := by decide +kernel
theorem dX4_give_32 : decode cX4_give 32 = .ok (.aload_n 0, 1) := by decide +kernel
theorem dX4_give_33 : decode cX4_give 33 = .ok (.getfield 22, 3) := by decide +kernel
theorem dX4_give_36 : decode cX4_give 36 = .ok (.aload_n 0, 1) := by decide +kernel
theorem dX4_give_37 : decode cX4_give 37 = .ok (.getfield 10, 3) := by decide +kernel
theorem dX4_give_40 : decode cX4_give 40 = .ok (.invokevirtual 48, 3) := by decide +kernel
theorem dX4_give_43 : decode cX4_give 43 = .ok (.aload_n 0, 1) := by decide +kernel
theorem dX4_give_44 : decode cX4_give 44 = .ok (.getfield 10, 3) := by decide +kernel
theorem dX4_give_47 : decode cX4_give 47 = .ok (.dup, 1) := by decide +kernel
theorem dX4_give_48 : decode cX4_give 48 = .ok (.getfield 105, 3) := by decide +kernel
theorem dX4_give_51 : decode cX4_give 51 = .ok (.iload_n 1, 1) := by decide +kernel
theorem dX4_give_52 : decode cX4_give 52 = .ok (.iadd, 1) := by decide +kernel
theorem dX4_give_53 : decode cX4_give 53 = .ok (.putfield 105, 3) := by decide +kernel
theorem dX4_give_56 : decode cX4_give 56 = .ok (.aload_n 0, 1) := by decide +kernel
theorem dX4_give_57 : decode cX4_give 57 = .ok (.getfield 10, 3) := by decide +kernel
theorem dX4_give_60 : decode cX4_give 60 = .ok (.dup, 1) := by decide +kernel
theorem dX4_give_61 : decode cX4_give 61 = .ok (.getfield 109, 3) := by decide +kernel
theorem dX4_give_64 : decode cX4_give 64 = .ok (.iload_n 1, 1) := by decide +kernel
theorem dX4_give_65 : decode cX4_give 65 = .ok (.iadd, 1) := by decide +kernel
theorem dX4_give_66 : decode cX4_give 66 = .ok (.putfield 109, 3) := by decide +kernel
theorem dX4_give_69 : decode cX4_give 69 = .ok (.aload_n 0, 1) := by decide +kernel
theorem dX4_give_70 : decode cX4_give 70 = .ok (.getfield 10, 3) := by decide +kernel
theorem dX4_give_73 : decode cX4_give 73 = .ok (.getfield 105, 3) := by decide +kernel
theorem dX4_give_76 : decode cX4_give 76 = .ok (.ireturn, 1) := by decide +kernel
theorem dX4_pass_0 : decode cX4_pass 0 = .ok (.iload_n 1, 1) := by decide +kernel
theorem dX4_pass_1 : decode cX4_pass 1 = .ok (.iconst 1, 1) := by decide +kernel
theorem dX4_pass_2 : decode cX4_pass 2 = .ok (.if_icmp .lt 9, 3) := by decide +kernel
theorem dX4_pass_5 : decode cX4_pass 5 = .ok (.iload_n 1, 1) := by decide +kernel
theorem dX4_pass_6 : decode cX4_pass 6 = .ok (.bipush 99, 2) := by decide +kernel
theorem dX4_pass_8 : decode cX4_pass 8 = .ok (.if_icmp .le 6, 3) := by decide +kernel
theorem dX4_pass_11 : decode cX4_pass 11 = .ok (.bipush (-2), 2) := by decide +kernel
theorem dX4_pass_13 : decode cX4_pass 13 = .ok (.ireturn, 1) := by decide +kernel
theorem dX4_pass_14 : decode cX4_pass 14 = .ok (.aload_n 0, 1) := by decide +kernel
theorem dX4_pass_15 : decode cX4_pass 15 = .ok (.getfield 10, 3) := by decide +kernel
theorem dX4_pass_18 : decode cX4_pass 18 = .ok (.getfield 112, 3) := by decide +kernel
theorem dX4_pass_21 : decode cX4_pass 21 = .ok (.iload_n 1, 1) := by decide +kernel
theorem dX4_pass_22 : decode cX4_pass 22 = .ok (.iadd, 1) := by decide +kernel
theorem dX4_pass_23 : decode cX4_pass 23 = .ok (.sipush 9999, 3) := by decide +kernel
theorem dX4_pass_26 : decode cX4_pass 26 = .ok (.if_icmp .le 6, 3) := by decide +kernel
theorem dX4_pass_29 : decode cX4_pass 29 = .ok (.bipush (-4), 2) := by decide +kernel
theorem dX4_pass_31 : decode cX4_pass 31 = .ok (.ireturn, 1) := by decide +kernel
theorem dX4_pass_32 : decode cX4_pass 32 = .ok (.aload_n 0, 1) := by decide +kernel
theorem dX4_pass_33 : decode cX4_pass 33 = .ok (.getfield 22, 3) := by decide +kernel
theorem dX4_pass_36 : decode cX4_pass 36 = .ok (.aload_n 0, 1) := by decide +kernel
theorem dX4_pass_37 : decode cX4_pass 37 = .ok (.getfield 10, 3) := by decide +kernel
theorem dX4_pass_40 : decode cX4_pass 40 = .ok (.invokevirtual 48, 3) := by decide +kernel
theorem dX4_pass_43 : decode cX4_pass 43 = .ok (.aload_n 0, 1) := by decide +kernel
theorem dX4_pass_44 : decode cX4_pass 44 = .ok (.getfield 10, 3) := by decide +kernel
theorem dX4_pass_47 : decode cX4_pass 47 = .ok (.getfield 115, 3) := by decide +kernel
theorem dX4_pass_50 : decode cX4_pass 50 = .ok (.istore_n 2, 1) := by decide +kernel
theorem dX4_pass_51 : decode cX4_pass 51 = .ok (.aload_n 0, 1) := by decide +kernel
theorem dX4_pass_52 : decode cX4_pass 52 = .ok (.getfield 10, 3) := by decide +kernel
theorem dX4_pass_55 : decode cX4_pass 55 = .ok (.iload_n 1, 1) := by decide +kernel
theorem dX4_pass_56 : decode cX4_pass 56 = .ok (.invokevirtual 118, 3) := by decide +kernel
theorem dX4_pass_59 : decode cX4_pass 59 = .ok (.aload_n 0, 1) := by decide +kernel
theorem dX4_pass_60 : decode cX4_pass 60 = .ok (.getfield 10, 3) := by decide +kernel
theorem dX4_pass_63 : decode cX4_pass 63 = .ok (.getfield 115, 3) := by decide +kernel
theorem dX4_pass_66 : decode cX4_pass 66 = .ok (.iload_n 2, 1) := by decide +kernel
theorem dX4_pass_67 : decode cX4_pass 67 = .ok (.isub, 1) := by decide +kernel
theorem dX4_pass_68 : decode cX4_pass 68 = .ok (.ireturn, 1) := by decide +kernel
theorem dX4_person_0 : decode cX4_person 0 = .ok (.aload_n 0, 1) := by decide +kernel
theorem dX4_person_1 : decode cX4_person 1 = .ok (.getfield 10, 3) := by decide +kernel
theorem dX4_person_4 : decode cX4_person 4 = .ok (.iload_n 1, 1) := by decide +kernel
theorem dX4_person_5 : decode cX4_person 5 = .ok (.invokevirtual 76, 3) := by decide +kernel
theorem dX4_person_8 : decode cX4_person 8 = .ok (.astore_n 3, 1) := by decide +kernel
theorem dX4_person_9 : decode cX4_person 9 = .ok (.aload_n 3, 1) := by decide +kernel
theorem dX4_person_10 : decode cX4_person 10 = .ok (.ifnonnull 5, 3) := by decide +kernel
theorem dX4_person_13 : decode cX4_person 13 = .ok (.iconst (-1), 1) := by decide +kernel
theorem dX4_person_14 : decode cX4_person 14 = .ok (.ireturn, 1) := by decide +kernel
theorem dX4_person_15 : decode cX4_person 15 = .ok (.iload_n 2, 1) := by decide +kernel
theorem dX4_person_16 : decode cX4_person 16 = .ok (.tableswitch 129 0 8 #[52, 57, 62, 67, 72, 89, 102, 107, 112], 52) := by decide +kernel
theorem dX4_person_68 : decode cX4_person 68 = .ok (.aload_n 3, 1) := by decide +kernel
theorem dX4_person_69 : decode cX4_person 69 = .ok (.getfield 121, 3) := by decide +kernel
theorem dX4_person_72 : decode cX4_person 72 = .ok (.ireturn, 1) := by decide +kernel
theorem dX4_person_73 : decode cX4_person 73 = .ok (.aload_n 3, 1) := by decide +kernel
theorem dX4_person_74 : decode cX4_person 74 = .ok (.getfield 126, 3) := by decide +kernel
theorem dX4_person_77 : decode cX4_person 77 = .ok (.ireturn, 1) := by decide +kernel
theorem dX4_person_78 : decode cX4_person 78 = .ok (.aload_n 3, 1) := by decide +kernel
theorem dX4_person_79 : decode cX4_person 79 = .ok (.getfield 129, 3) := by decide +kernel
theorem dX4_person_82 : decode cX4_person 82 = .ok (.ireturn, 1) := by decide +kernel
theorem dX4_person_83 : decode cX4_person 83 = .ok (.aload_n 3, 1) := by decide +kernel
theorem dX4_person_84 : decode cX4_person 84 = .ok (.getfield 132, 3) := by decide +kernel
theorem dX4_person_87 : decode cX4_person 87 = .ok (.ireturn, 1) := by decide +kernel
theorem dX4_person_88 : decode cX4_person 88 = .ok (.aload_n 0, 1) := by decide +kernel
theorem dX4_person_89 : decode cX4_person 89 = .ok (.getfield 10, 3) := by decide +kernel
theorem dX4_person_92 : decode cX4_person 92 = .ok (.aload_n 3, 1) := by decide +kernel
theorem dX4_person_93 : decode cX4_person 93 = .ok (.invokevirtual 135, 3) := by decide +kernel
theorem dX4_person_96 : decode cX4_person 96 = .ok (.ifCond .eq 7, 3) := by decide +kernel
theorem dX4_person_99 : decode cX4_person 99 = .ok (.iconst 1, 1) := by decide +kernel
theorem dX4_person_100 : decode cX4_person 100 = .ok (.goto 4, 3) := by decide +kernel
theorem dX4_person_103 : decode cX4_person 103 = .ok (.iconst 0, 1) := by decide +kernel
theorem dX4_person_104 : decode cX4_person 104 = .ok (.ireturn, 1) := by decide +kernel
theorem dX4_person_105 : decode cX4_person 105 = .ok (.aload_n 0, 1) := by decide +kernel
theorem dX4_person_106 : decode cX4_person 106 = .ok (.getfield 10, 3) := by decide +kernel
theorem dX4_person_109 : decode cX4_person 109 = .ok (.aload_n 3, 1) := by decide +kernel
theorem dX4_person_110 : decode cX4_person 110 = .ok (.invokevirtual 139, 3) := by decide +kernel
theorem dX4_person_113 : decode cX4_person 113 = .ok (.sipush 1000, 3) := by decide +kernel
theorem dX4_person_116 : decode cX4_person 116 = .ok (.iadd, 1) := by decide +kernel
theorem dX4_person_117 : decode cX4_person 117 = .ok (.ireturn, 1) := by decide +kernel
theorem dX4_person_118 : decode cX4_person 118 = .ok (.aload_n 3, 1) := by decide +kernel
theorem dX4_person_119 : decode cX4_person 119 = .ok (.getfield 143, 3) := by decide +kernel
theorem dX4_person_122 : decode cX4_person 122 = .ok (.ireturn, 1) := by decide +kernel
theorem dX4_person_123 : decode cX4_person 123 = .ok (.aload_n 3, 1) := by decide +kernel
theorem dX4_person_124 : decode cX4_person 124 = .ok (.getfield 144, 3) := by decide +kernel
theorem dX4_person_127 : decode cX4_person 127 = .ok (.ireturn, 1) := by decide +kernel
theorem dX4_person_128 : decode cX4_person 128 = .ok (.aload_n 0, 1) := by decide +kernel
theorem dX4_person_129 : decode cX4_person 129 = .ok (.getfield 10, 3) := by decide +kernel
theorem dX4_person_132 : decode cX4_person 132 = .ok (.iload_n 1, 1) := by decide +kernel
theorem dX4_person_133 : decode cX4_person 133 = .ok (.invokevirtual 99, 3) := by decide +kernel
theorem dX4_person_136 : decode cX4_person 136 = .ok (.ifCond .eq 7, 3) := by decide +kernel
theorem dX4_person_139 : decode cX4_person 139 = .ok (.iconst 1, 1) := by decide +kernel
theorem dX4_person_140 : decode cX4_person 140 = .ok (.goto 4, 3) := by decide +kernel
theorem dX4_person_143 : decode cX4_person 143 = .ok (.iconst 0, 1) := by decide +kernel
theorem dX4_person_144 : decode cX4_person 144 = .ok (.ireturn, 1) := by decide +kernel
theorem dX4_person_145 : decode cX4_person 145 = .ok (.bipush (-2), 2) := by decide +kernel
theorem dX4_person_147 : decode cX4_person 147 = .ok (.ireturn, 1) := by decide +kernel
theorem dX4_count_0 : decode cX4_count 0 = .ok (.iload_n 1, 1) := by decide +kernel
theorem dX4_count_1 : decode cX4_count 1 = .ok (.invokestatic 37, 3) := by decide +kernel
theorem dX4_count_4 : decode cX4_count 4 = .ok (.ifCond .eq 13, 3) := by decide +kernel
theorem dX4_count_7 : decode cX4_count 7 = .ok (.aload_n 0, 1) := by decide +kernel
theorem dX4_count_8 : decode cX4_count 8 = .ok (.getfield 10, 3) := by decide +kernel
theorem dX4_count_11 : decode cX4_count 11 = .ok (.getfield 52, 3) := by decide +kernel
theorem dX4_count_14 : decode cX4_count 14 = .ok (.iload_n 1, 1) := by decide +kernel
theorem dX4_count_15 : decode cX4_count 15 = .ok (.iaload, 1) := by decide +kernel
theorem dX4_count_16 : decode cX4_count 16 = .ok (.ireturn, 1) := by decide +kernel
theorem dX4_count_17 : decode cX4_count 17 = .ok (.iload_n 1, 1) := by decide +kernel
theorem dX4_count_18 : decode cX4_count 18 = .ok (.tableswitch 211 6 20 #[74, 82, 90, 98, 106, 131, 139, 147, 155, 163, 171, 179, 187, 195, 203], 74) := by decide +kernel
theorem dX4_count_92 : decode cX4_count 92 = .ok (.aload_n 0, 1) := by decide +kernel
theorem dX4_count_93 : decode cX4_count 93 = .ok (.getfield 10, 3) := by decide +kernel
theorem dX4_count_96 : decode cX4_count 96 = .ok (.getfield 112, 3) := by decide +kernel
theorem dX4_count_99 : decode cX4_count 99 = .ok (.ireturn, 1) := by decide +kernel
theorem dX4_count_100 : decode cX4_count 100 = .ok (.aload_n 0, 1) := by decide +kernel
theorem dX4_count_101 : decode cX4_count 101 = .ok (.getfield 10, 3) := by decide +kernel
theorem dX4_count_104 : decode cX4_count 104 = .ok (.getfield 55, 3) := by decide +kernel
theorem dX4_count_107 : decode cX4_count 107 = .ok (.ireturn, 1) := by decide +kernel
theorem dX4_count_108 : decode cX4_count 108 = .ok (.aload_n 0, 1) := by decide +kernel
theorem dX4_count_109 : decode cX4_count 109 = .ok (.getfield 10, 3) := by decide +kernel
theorem dX4_count_112 : decode cX4_count 112 = .ok (.getfield 147, 3) := by decide +kernel
theorem dX4_count_115 : decode cX4_count 115 = .ok (.ireturn, 1) := by decide +kernel
theorem dX4_count_116 : decode cX4_count 116 = .ok (.aload_n 0, 1) := by decide +kernel
theorem dX4_count_117 : decode cX4_count 117 = .ok (.getfield 10, 3) := by decide +kernel
theorem dX4_count_120 : decode cX4_count 120 = .ok (.getfield 89, 3) := by decide +kernel
theorem dX4_count_123 : decode cX4_count 123 = .ok (.ireturn, 1) := by decide +kernel
theorem dX4_count_124 : decode cX4_count 124 = .ok (.aload_n 0, 1) := by decide +kernel
theorem dX4_count_125 : decode cX4_count 125 = .ok (.getfield 10, 3) := by decide +kernel
theorem dX4_count_128 : decode cX4_count 128 = .ok (.getfield 89, 3) := by decide +kernel
theorem dX4_count_131 : decode cX4_count 131 = .ok (.bipush (-6), 2) := by decide +kernel
theorem dX4_count_133 : decode cX4_count 133 = .ok (.if_icmp .ne 13, 3) := by decide +kernel
theorem dX4_count_136 : decode cX4_count 136 = .ok (.aload_n 0, 1) := by decide +kernel
theorem dX4_count_137 : decode cX4_count 137 = .ok (.getfield 10, 3) := by decide +kernel
theorem dX4_count_140 : decode cX4_count 140 = .ok (.getfield 150, 3) := by decide +kernel
theorem dX4_count_143 : decode cX4_count 143 = .ok (.goto 5, 3) := by decide +kernel
theorem dX4_count_146 : decode cX4_count 146 = .ok (.bipush (-6), 2) := by decide +kernel
theorem dX4_count_148 : decode cX4_count 148 = .ok (.ireturn, 1) := by decide +kernel
theorem dX4_count_149 : decode cX4_count 149 = .ok (.aload_n 0, 1) := by decide +kernel
theorem dX4_count_150 : decode cX4_count 150 = .ok (.getfield 10, 3) := by decide +kernel
theorem dX4_count_153 : decode cX4_count 153 = .ok (.getfield 105, 3) := by decide +kernel
theorem dX4_count_156 : decode cX4_count 156 = .ok (.ireturn, 1) := by decide +kernel
theorem dX4_count_157 : decode cX4_count 157 = .ok (.aload_n 0, 1) := by decide +kernel
theorem dX4_count_158 : decode cX4_count 158 = .ok (.getfield 10, 3) := by decide +kernel
theorem dX4_count_161 : decode cX4_count 161 = .ok (.invokevirtual 153, 3) := by decide +kernel
theorem dX4_count_164 : decode cX4_count 164 = .ok (.ireturn, 1) := by decide +kernel
theorem dX4_count_165 : decode cX4_count 165 = .ok (.aload_n 0, 1) := by decide +kernel
theorem dX4_count_166 : decode cX4_count 166 = .ok (.getfield 10, 3) := by decide +kernel
theorem dX4_count_169 : decode cX4_count 169 = .ok (.getfield 156, 3) := by decide +kernel
theorem dX4_count_172 : decode cX4_count 172 = .ok (.ireturn, 1) := by decide +kernel
theorem dX4_count_173 : decode cX4_count 173 = .ok (.aload_n 0, 1) := by decide +kernel
theorem dX4_count_174 : decode cX4_count 174 = .ok (.getfield 10, 3) := by decide +kernel
theorem dX4_count_177 : decode cX4_count 177 = .ok (.getfield 115, 3) := by decide +kernel
theorem dX4_count_180 : decode cX4_count 180 = .ok (.ireturn, 1) := by decide +kernel
theorem dX4_count_181 : decode cX4_count 181 = .ok (.aload_n 0, 1) := by decide +kernel
theorem dX4_count_182 : decode cX4_count 182 = .ok (.getfield 10, 3) := by decide +kernel
theorem dX4_count_185 : decode cX4_count 185 = .ok (.getfield 157, 3) := by decide +kernel
theorem dX4_count_188 : decode cX4_count 188 = .ok (.ireturn, 1) := by decide +kernel
theorem dX4_count_189 : decode cX4_count 189 = .ok (.aload_n 0, 1) := by decide +kernel
theorem dX4_count_190 : decode cX4_count 190 = .ok (.getfield 10, 3) := by decide +kernel
theorem dX4_count_193 : decode cX4_count 193 = .ok (.getfield 160, 3) := by decide +kernel
theorem dX4_count_196 : decode cX4_count 196 = .ok (.ireturn, 1) := by decide +kernel
theorem dX4_count_197 : decode cX4_count 197 = .ok (.aload_n 0, 1) := by decide +kernel
theorem dX4_count_198 : decode cX4_count 198 = .ok (.getfield 10, 3) := by decide +kernel
theorem dX4_count_201 : decode cX4_count 201 = .ok (.invokevirtual 163, 3) := by decide +kernel
theorem dX4_count_204 : decode cX4_count 204 = .ok (.ireturn, 1) := by decide +kernel
theorem dX4_count_205 : decode cX4_count 205 = .ok (.aload_n 0, 1) := by decide +kernel
theorem dX4_count_206 : decode cX4_count 206 = .ok (.getfield 10, 3) := by decide +kernel
theorem dX4_count_209 : decode cX4_count 209 = .ok (.getfield 109, 3) := by decide +kernel
theorem dX4_count_212 : decode cX4_count 212 = .ok (.ireturn, 1) := by decide +kernel
theorem dX4_count_213 : decode cX4_count 213 = .ok (.aload_n 0, 1) := by decide +kernel
theorem dX4_count_214 : decode cX4_count 214 = .ok (.getfield 33, 3) := by decide +kernel
theorem dX4_count_217 : decode cX4_count 217 = .ok (.getfield 73, 3) := by decide +kernel
theorem dX4_count_220 : decode cX4_count 220 = .ok (.ireturn, 1) := by decide +kernel
theorem dX4_count_221 : decode cX4_count 221 = .ok (.aload_n 0, 1) := by decide +kernel
theorem dX4_count_222 : decode cX4_count 222 = .ok (.getfield 22, 3) := by decide +kernel
theorem dX4_count_225 : decode cX4_count 225 = .ok (.getfield 166, 3) := by decide +kernel
theorem dX4_count_228 : decode cX4_count 228 = .ok (.ireturn, 1) := by decide +kernel
theorem dX4_count_229 : decode cX4_count 229 = .ok (.bipush (-2), 2) := by decide +kernel
theorem dX4_count_231 : decode cX4_count 231 = .ok (.ireturn, 1) := by decide +kernel
theorem dX4_next_0 : decode cX4_next 0 = .ok (.iload_n 1, 1) := by decide +kernel
theorem dX4_next_1 : decode cX4_next 1 = .ok (.ifCond .eq 11, 3) := by decide +kernel
theorem dX4_next_4 : decode cX4_next 4 = .ok (.iload_n 1, 1) := by decide +kernel
theorem dX4_next_5 : decode cX4_next 5 = .ok (.iconst 1, 1) := by decide +kernel
theorem dX4_next_6 : decode cX4_next 6 = .ok (.if_icmp .eq 6, 3) := by decide +kernel
theorem dX4_next_9 : decode cX4_next 9 = .ok (.bipush (-2), 2) := by decide +kernel
theorem dX4_next_11 : decode cX4_next 11 = .ok (.ireturn, 1) := by decide +kernel
theorem dX4_next_12 : decode cX4_next 12 = .ok (.aload_n 0, 1) := by decide +kernel
theorem dX4_next_13 : decode cX4_next 13 = .ok (.getfield 16, 3) := by decide +kernel
theorem dX4_next_16 : decode cX4_next 16 = .ok (.aload_n 0, 1) := by decide +kernel
theorem dX4_next_17 : decode cX4_next 17 = .ok (.getfield 10, 3) := by decide +kernel
theorem dX4_next_20 : decode cX4_next 20 = .ok (.invokevirtual 167, 3) := by decide +kernel
theorem dX4_next_23 : decode cX4_next 23 = .ok (.iconst 1, 1) := by decide +kernel
theorem dX4_next_24 : decode cX4_next 24 = .ok (.istore_n 2, 1) := by decide +kernel
theorem dX4_next_25 : decode cX4_next 25 = .ok (.iload_n 2, 1) := by decide +kernel
theorem dX4_next_26 : decode cX4_next 26 = .ok (.sipush 500, 3) := by decide +kernel
theorem dX4_next_29 : decode cX4_next 29 = .ok (.if_icmp .gt 33, 3) := by decide +kernel
theorem dX4_next_32 : decode cX4_next 32 = .ok (.aload_n 0, 1) := by decide +kernel
theorem dX4_next_33 : decode cX4_next 33 = .ok (.getfield 16, 3) := by decide +kernel
theorem dX4_next_36 : decode cX4_next 36 = .ok (.invokevirtual 170, 3) := by decide +kernel
theorem dX4_next_39 : decode cX4_next 39 = .ok (.istore_n 3, 1) := by decide +kernel
theorem dX4_next_40 : decode cX4_next 40 = .ok (.iload_n 3, 1) := by decide +kernel
theorem dX4_next_41 : decode cX4_next 41 = .ok (.bipush (-6), 2) := by decide +kernel
theorem dX4_next_43 : decode cX4_next 43 = .ok (.if_icmp .eq 13, 3) := by decide +kernel
theorem dX4_next_46 : decode cX4_next 46 = .ok (.iload_n 1, 1) := by decide +kernel
theorem dX4_next_47 : decode cX4_next 47 = .ok (.ifCond .ne 7, 3) := by decide +kernel
theorem dX4_next_50 : decode cX4_next 50 = .ok (.iload_n 3, 1) := by decide +kernel
theorem dX4_next_51 : decode cX4_next 51 = .ok (.goto 4, 3) := by decide +kernel
theorem dX4_next_54 : decode cX4_next 54 = .ok (.iload_n 2, 1) := by decide +kernel
theorem dX4_next_55 : decode cX4_next 55 = .ok (.ireturn, 1) := by decide +kernel
theorem dX4_next_56 : decode cX4_next 56 = .ok (.iinc 2 1, 3) := by decide +kernel
theorem dX4_next_59 : decode cX4_next 59 = .ok (.goto (-34), 3) := by decide +kernel
theorem dX4_next_62 : decode cX4_next 62 = .ok (.bipush (-6), 2) := by decide +kernel
theorem dX4_next_64 : decode cX4_next 64 = .ok (.ireturn, 1) := by decide +kernel
theorem dX4_untilEmpty_0 : decode cX4_untilEmpty 0 = .ok (.aload_n 0, 1) := by decide +kernel
theorem dX4_untilEmpty_1 : decode cX4_untilEmpty 1 = .ok (.getfield 16, 3) := by decide +kernel
theorem dX4_untilEmpty_4 : decode cX4_untilEmpty 4 = .ok (.aload_n 0, 1) := by decide +kernel
theorem dX4_untilEmpty_5 : decode cX4_untilEmpty 5 = .ok (.getfield 10, 3) := by decide +kernel
theorem dX4_untilEmpty_8 : decode cX4_untilEmpty 8 = .ok (.invokevirtual 167, 3) := by decide +kernel
theorem dX4_untilEmpty_11 : decode cX4_untilEmpty 11 = .ok (.iconst 0, 1) := by decide +kernel
theorem dX4_untilEmpty_12 : decode cX4_untilEmpty 12 = .ok (.istore_n 1, 1) := by decide +kernel
theorem dX4_untilEmpty_13 : decode cX4_untilEmpty 13 = .ok (.iload_n 1, 1) := by decide +kernel
theorem dX4_untilEmpty_14 : decode cX4_untilEmpty 14 = .ok (.sipush 2000, 3) := by decide +kernel
theorem dX4_untilEmpty_17 : decode cX4_untilEmpty 17 = .ok (.if_icmp .gt 29, 3) := by decide +kernel
theorem dX4_untilEmpty_20 : decode cX4_untilEmpty 20 = .ok (.aload_n 0, 1) := by decide +kernel
theorem dX4_untilEmpty_21 : decode cX4_untilEmpty 21 = .ok (.getfield 16, 3) := by decide +kernel
theorem dX4_untilEmpty_24 : decode cX4_untilEmpty 24 = .ok (.getfield 105, 3) := by decide +kernel
theorem dX4_untilEmpty_27 : decode cX4_untilEmpty 27 = .ok (.ifCond .ne 5, 3) := by decide +kernel
theorem dX4_untilEmpty_30 : decode cX4_untilEmpty 30 = .ok (.iload_n 1, 1) := by decide +kernel
theorem dX4_untilEmpty_31 : decode cX4_untilEmpty 31 = .ok (.ireturn, 1) := by decide +kernel
theorem dX4_untilEmpty_32 : decode cX4_untilEmpty 32 = .ok (.aload_n 0, 1) := by decide +kernel
theorem dX4_untilEmpty_33 : decode cX4_untilEmpty 33 = .ok (.getfield 16, 3) := by decide +kernel
theorem dX4_untilEmpty_36 : decode cX4_untilEmpty 36 = .ok (.invokevirtual 170, 3) := by decide +kernel
theorem dX4_untilEmpty_39 : decode cX4_untilEmpty 39 = .ok (.pop, 1) := by decide +kernel
theorem dX4_untilEmpty_40 : decode cX4_untilEmpty 40 = .ok (.iinc 1 1, 3) := by decide +kernel
theorem dX4_untilEmpty_43 : decode cX4_untilEmpty 43 = .ok (.goto (-30), 3) := by decide +kernel
theorem dX4_untilEmpty_46 : decode cX4_untilEmpty 46 = .ok (.bipush (-6), 2) := by decide +kernel
theorem dX4_untilEmpty_48 : decode cX4_untilEmpty 48 = .ok (.ireturn, 1) := by decide +kernel
theorem dX4_ifPassed_0 : decode cX4_ifPassed 0 = .ok (.iload_n 1, 1) := by decide +kernel
theorem dX4_ifPassed_1 : decode cX4_ifPassed 1 = .ok (.iconst 1, 1) := by decide +kernel
theorem dX4_ifPassed_2 : decode cX4_ifPassed 2 = .ok (.if_icmp .lt 19, 3) := by decide +kernel
theorem dX4_ifPassed_5 : decode cX4_ifPassed 5 = .ok (.iload_n 1, 1) := by decide +kernel
theorem dX4_ifPassed_6 : decode cX4_ifPassed 6 = .ok (.sipush 500, 3) := by decide +kernel
theorem dX4_ifPassed_9 : decode cX4_ifPassed 9 = .ok (.if_icmp .gt 12, 3) := by decide +kernel
theorem dX4_ifPassed_12 : decode cX4_ifPassed 12 = .ok (.iload_n 2, 1) := by decide +kernel
theorem dX4_ifPassed_13 : decode cX4_ifPassed 13 = .ok (.ifCond .lt 8, 3) := by decide +kernel
theorem dX4_ifPassed_16 : decode cX4_ifPassed 16 = .ok (.iload_n 2, 1) := by decide +kernel
theorem dX4_ifPassed_17 : decode cX4_ifPassed 17 = .ok (.iconst 4, 1) := by decide +kernel
theorem dX4_ifPassed_18 : decode cX4_ifPassed 18 = .ok (.if_icmp .le 6, 3) := by decide +kernel
theorem dX4_ifPassed_21 : decode cX4_ifPassed 21 = .ok (.bipush (-2), 2) := by decide +kernel
theorem dX4_ifPassed_23 : decode cX4_ifPassed 23 = .ok (.ireturn, 1) := by decide +kernel
theorem dX4_ifPassed_24 : decode cX4_ifPassed 24 = .ok (.aload_n 0, 1) := by decide +kernel
theorem dX4_ifPassed_25 : decode cX4_ifPassed 25 = .ok (.getfield 16, 3) := by decide +kernel
theorem dX4_ifPassed_28 : decode cX4_ifPassed 28 = .ok (.aload_n 0, 1) := by decide +kernel
theorem dX4_ifPassed_29 : decode cX4_ifPassed 29 = .ok (.getfield 10, 3) := by decide +kernel
theorem dX4_ifPassed_32 : decode cX4_ifPassed 32 = .ok (.invokevirtual 167, 3) := by decide +kernel
theorem dX4_ifPassed_35 : decode cX4_ifPassed 35 = .ok (.aload_n 0, 1) := by decide +kernel
theorem dX4_ifPassed_36 : decode cX4_ifPassed 36 = .ok (.getfield 16, 3) := by decide +kernel
theorem dX4_ifPassed_39 : decode cX4_ifPassed 39 = .ok (.iload_n 1, 1) := by decide +kernel
theorem dX4_ifPassed_40 : decode cX4_ifPassed 40 = .ok (.invokevirtual 118, 3) := by decide +kernel
theorem dX4_ifPassed_43 : decode cX4_ifPassed 43 = .ok (.iload_n 2, 1) := by decide +kernel
theorem dX4_ifPassed_44 : decode cX4_ifPassed 44 = .ok (.tableswitch 88 0 3 #[32, 48, 64, 80], 32) := by decide +kernel
theorem dX4_ifPassed_76 : decode cX4_ifPassed 76 = .ok (.aload_n 0, 1) := by decide +kernel
theorem dX4_ifPassed_77 : decode cX4_ifPassed 77 = .ok (.getfield 16, 3) := by decide +kernel
theorem dX4_ifPassed_80 : decode cX4_ifPassed 80 = .ok (.getfield 115, 3) := by decide +kernel
theorem dX4_ifPassed_83 : decode cX4_ifPassed 83 = .ok (.aload_n 0, 1) := by decide +kernel
theorem dX4_ifPassed_84 : decode cX4_ifPassed 84 = .ok (.getfield 10, 3) := by decide +kernel
theorem dX4_ifPassed_87 : decode cX4_ifPassed 87 = .ok (.getfield 115, 3) := by decide +kernel
theorem dX4_ifPassed_90 : decode cX4_ifPassed 90 = .ok (.isub, 1) := by decide +kernel
theorem dX4_ifPassed_91 : decode cX4_ifPassed 91 = .ok (.ireturn, 1) := by decide +kernel
theorem dX4_ifPassed_92 : decode cX4_ifPassed 92 = .ok (.aload_n 0, 1) := by decide +kernel
theorem dX4_ifPassed_93 : decode cX4_ifPassed 93 = .ok (.getfield 16, 3) := by decide +kernel
theorem dX4_ifPassed_96 : decode cX4_ifPassed 96 = .ok (.getfield 156, 3) := by decide +kernel
theorem dX4_ifPassed_99 : decode cX4_ifPassed 99 = .ok (.aload_n 0, 1) := by decide +kernel
theorem dX4_ifPassed_100 : decode cX4_ifPassed 100 = .ok (.getfield 10, 3) := by decide +kernel
theorem dX4_ifPassed_103 : decode cX4_ifPassed 103 = .ok (.getfield 156, 3) := by decide +kernel
theorem dX4_ifPassed_106 : decode cX4_ifPassed 106 = .ok (.isub, 1) := by decide +kernel
theorem dX4_ifPassed_107 : decode cX4_ifPassed 107 = .ok (.ireturn, 1) := by decide +kernel
theorem dX4_ifPassed_108 : decode cX4_ifPassed 108 = .ok (.aload_n 0, 1) := by decide +kernel
theorem dX4_ifPassed_109 : decode cX4_ifPassed 109 = .ok (.getfield 16, 3) := by decide +kernel
theorem dX4_ifPassed_112 : decode cX4_ifPassed 112 = .ok (.getfield 160, 3) := by decide +kernel
theorem dX4_ifPassed_115 : decode cX4_ifPassed 115 = .ok (.aload_n 0, 1) := by decide +kernel
theorem dX4_ifPassed_116 : decode cX4_ifPassed 116 = .ok (.getfield 10, 3) := by decide +kernel
theorem dX4_ifPassed_119 : decode cX4_ifPassed 119 = .ok (.getfield 160, 3) := by decide +kernel
theorem dX4_ifPassed_122 : decode cX4_ifPassed 122 = .ok (.isub, 1) := by decide +kernel
theorem dX4_ifPassed_123 : decode cX4_ifPassed 123 = .ok (.ireturn, 1) := by decide +kernel
theorem dX4_ifPassed_124 : decode cX4_ifPassed 124 = .ok (.aload_n 0, 1) := by decide +kernel
theorem dX4_ifPassed_125 : decode cX4_ifPassed 125 = .ok (.getfield 16, 3) := by decide +kernel
theorem dX4_ifPassed_128 : decode cX4_ifPassed 128 = .ok (.getfield 147, 3) := by decide +kernel
theorem dX4_ifPassed_131 : decode cX4_ifPassed 131 = .ok (.ireturn, 1) := by decide +kernel
theorem dX4_ifPassed_132 : decode cX4_ifPassed 132 = .ok (.aload_n 0, 1) := by decide +kernel
theorem dX4_ifPassed_133 : decode cX4_ifPassed 133 = .ok (.getfield 16, 3) := by decide +kernel
theorem dX4_ifPassed_136 : decode cX4_ifPassed 136 = .ok (.getfield 89, 3) := by decide +kernel
theorem dX4_ifPassed_139 : decode cX4_ifPassed 139 = .ok (.ireturn, 1) := by decide +kernel
theorem dX4_bestPlace_0 : decode cX4_bestPlace 0 = .ok (.aload_n 0, 1) := by decide +kernel
theorem dX4_bestPlace_1 : decode cX4_bestPlace 1 = .ok (.getfield 10, 3) := by decide +kernel
theorem dX4_bestPlace_4 : decode cX4_bestPlace 4 = .ok (.iload_n 1, 1) := by decide +kernel
theorem dX4_bestPlace_5 : decode cX4_bestPlace 5 = .ok (.invokevirtual 76, 3) := by decide +kernel
theorem dX4_bestPlace_8 : decode cX4_bestPlace 8 = .ok (.ifnonnull 5, 3) := by decide +kernel
theorem dX4_bestPlace_11 : decode cX4_bestPlace 11 = .ok (.iconst (-1), 1) := by decide +kernel
theorem dX4_bestPlace_12 : decode cX4_bestPlace 12 = .ok (.ireturn, 1) := by decide +kernel
theorem dX4_bestPlace_13 : decode cX4_bestPlace 13 = .ok (.iload_n 2, 1) := by decide +kernel
theorem dX4_bestPlace_14 : decode cX4_bestPlace 14 = .ok (.ifCond .eq 11, 3) := by decide +kernel
theorem dX4_bestPlace_17 : decode cX4_bestPlace 17 = .ok (.iload_n 2, 1) := by decide +kernel
theorem dX4_bestPlace_18 : decode cX4_bestPlace 18 = .ok (.iconst 1, 1) := by decide +kernel
theorem dX4_bestPlace_19 : decode cX4_bestPlace 19 = .ok (.if_icmp .eq 6, 3) := by decide +kernel
theorem dX4_bestPlace_22 : decode cX4_bestPlace 22 = .ok (.bipush (-2), 2) := by decide +kernel
theorem dX4_bestPlace_24 : decode cX4_bestPlace 24 = .ok (.ireturn, 1) := by decide +kernel
theorem dX4_bestPlace_25 : decode cX4_bestPlace 25 = .ok (.iconst 0, 1) := by decide +kernel
theorem dX4_bestPlace_26 : decode cX4_bestPlace 26 = .ok (.istore_n 3, 1) := by decide +kernel
theorem dX4_bestPlace_27 : decode cX4_bestPlace 27 = .ok (.iconst (-1), 1) := by decide +kernel
theorem dX4_bestPlace_28 : decode cX4_bestPlace 28 = .ok (.istore 4, 2) := by decide +kernel
theorem dX4_bestPlace_30 : decode cX4_bestPlace 30 = .ok (.iconst 0, 1) := by decide +kernel
theorem dX4_bestPlace_31 : decode cX4_bestPlace 31 = .ok (.istore 5, 2) := by decide +kernel
theorem dX4_bestPlace_33 : decode cX4_bestPlace 33 = .ok (.iload 5, 2) := by decide +kernel
theorem dX4_bestPlace_35 : decode cX4_bestPlace 35 = .ok (.aload_n 0, 1) := by decide +kernel
theorem dX4_bestPlace_36 : decode cX4_bestPlace 36 = .ok (.getfield 10, 3) := by decide +kernel
theorem dX4_bestPlace_39 : decode cX4_bestPlace 39 = .ok (.getfield 55, 3) := by decide +kernel
theorem dX4_bestPlace_42 : decode cX4_bestPlace 42 = .ok (.if_icmp .ge 32, 3) := by decide +kernel
theorem dX4_bestPlace_45 : decode cX4_bestPlace 45 = .ok (.aload_n 0, 1) := by decide +kernel
theorem dX4_bestPlace_46 : decode cX4_bestPlace 46 = .ok (.iload_n 1, 1) := by decide +kernel
theorem dX4_bestPlace_47 : decode cX4_bestPlace 47 = .ok (.iload 5, 2) := by decide +kernel
theorem dX4_bestPlace_49 : decode cX4_bestPlace 49 = .ok (.invokevirtual 173, 3) := by decide +kernel
theorem dX4_bestPlace_52 : decode cX4_bestPlace 52 = .ok (.istore 6, 2) := by decide +kernel
theorem dX4_bestPlace_54 : decode cX4_bestPlace 54 = .ok (.iload 6, 2) := by decide +kernel
theorem dX4_bestPlace_56 : decode cX4_bestPlace 56 = .ok (.iload 4, 2) := by decide +kernel
theorem dX4_bestPlace_58 : decode cX4_bestPlace 58 = .ok (.if_icmp .le 10, 3) := by decide +kernel
theorem dX4_bestPlace_61 : decode cX4_bestPlace 61 = .ok (.iload 5, 2) := by decide +kernel
theorem dX4_bestPlace_63 : decode cX4_bestPlace 63 = .ok (.istore_n 3, 1) := by decide +kernel
theorem dX4_bestPlace_64 : decode cX4_bestPlace 64 = .ok (.iload 6, 2) := by decide +kernel
theorem dX4_bestPlace_66 : decode cX4_bestPlace 66 = .ok (.istore 4, 2) := by decide +kernel
theorem dX4_bestPlace_68 : decode cX4_bestPlace 68 = .ok (.iinc 5 1, 3) := by decide +kernel
theorem dX4_bestPlace_71 : decode cX4_bestPlace 71 = .ok (.goto (-38), 3) := by decide +kernel
theorem dX4_bestPlace_74 : decode cX4_bestPlace 74 = .ok (.iload_n 2, 1) := by decide +kernel
theorem dX4_bestPlace_75 : decode cX4_bestPlace 75 = .ok (.ifCond .ne 7, 3) := by decide +kernel
theorem dX4_bestPlace_78 : decode cX4_bestPlace 78 = .ok (.iload_n 3, 1) := by decide +kernel
theorem dX4_bestPlace_79 : decode cX4_bestPlace 79 = .ok (.goto 5, 3) := by decide +kernel
theorem dX4_bestPlace_82 : decode cX4_bestPlace 82 = .ok (.iload 4, 2) := by decide +kernel
theorem dX4_bestPlace_84 : decode cX4_bestPlace 84 = .ok (.ireturn, 1) := by decide +kernel
theorem dX4_undo_0 : decode cX4_undo 0 = .ok (.aload_n 0, 1) := by decide +kernel
theorem dX4_undo_1 : decode cX4_undo 1 = .ok (.getfield 22, 3) := by decide +kernel
theorem dX4_undo_4 : decode cX4_undo 4 = .ok (.getfield 166, 3) := by decide +kernel
theorem dX4_undo_7 : decode cX4_undo 7 = .ok (.ifCond .ne 6, 3) := by decide +kernel
theorem dX4_undo_10 : decode cX4_undo 10 = .ok (.bipush (-5), 2) := by decide +kernel
theorem dX4_undo_12 : decode cX4_undo 12 = .ok (.ireturn, 1) := by decide +kernel
theorem dX4_undo_13 : decode cX4_undo 13 = .ok (.aload_n 0, 1) := by decide +kernel
theorem dX4_undo_14 : decode cX4_undo 14 = .ok (.getfield 22, 3) := by decide +kernel
theorem dX4_undo_17 : decode cX4_undo 17 = .ok (.aload_n 0, 1) := by decide +kernel
theorem dX4_undo_18 : decode cX4_undo 18 = .ok (.getfield 10, 3) := by decide +kernel
theorem dX4_undo_21 : decode cX4_undo 21 = .ok (.invokevirtual 187, 3) := by decide +kernel
theorem dX4_undo_24 : decode cX4_undo 24 = .ok (.aload_n 0, 1) := by decide +kernel
theorem dX4_undo_25 : decode cX4_undo 25 = .ok (.getfield 22, 3) := by decide +kernel
theorem dX4_undo_28 : decode cX4_undo 28 = .ok (.getfield 166, 3) := by decide +kernel
theorem dX4_undo_31 : decode cX4_undo 31 = .ok (.ireturn, 1) := by decide +kernel
theorem dX4_save_0 : decode cX4_save 0 = .ok (.iload_n 1, 1) := by decide +kernel
theorem dX4_save_1 : decode cX4_save 1 = .ok (.invokestatic 190, 3) := by decide +kernel
theorem dX4_save_4 : decode cX4_save 4 = .ok (.ifCond .ne 6, 3) := by decide +kernel
theorem dX4_save_7 : decode cX4_save 7 = .ok (.bipush (-2), 2) := by decide +kernel
theorem dX4_save_9 : decode cX4_save 9 = .ok (.ireturn, 1) := by decide +kernel
theorem dX4_save_10 : decode cX4_save 10 = .ok (.aload_n 0, 1) := by decide +kernel
theorem dX4_save_11 : decode cX4_save 11 = .ok (.getfield 26, 3) := by decide +kernel
theorem dX4_save_14 : decode cX4_save 14 = .ok (.iload_n 1, 1) := by decide +kernel
theorem dX4_save_15 : decode cX4_save 15 = .ok (.aaload, 1) := by decide +kernel
theorem dX4_save_16 : decode cX4_save 16 = .ok (.ifnonnull 16, 3) := by decide +kernel
theorem dX4_save_19 : decode cX4_save 19 = .ok (.aload_n 0, 1) := by decide +kernel
theorem dX4_save_20 : decode cX4_save 20 = .ok (.getfield 26, 3) := by decide +kernel
theorem dX4_save_23 : decode cX4_save 23 = .ok (.iload_n 1, 1) := by decide +kernel
theorem dX4_save_24 : decode cX4_save 24 = .ok (.new 7, 3) := by decide +kernel
theorem dX4_save_27 : decode cX4_save 27 = .ok (.dup, 1) := by decide +kernel
theorem dX4_save_28 : decode cX4_save 28 = .ok (.invokespecial 9, 3) := by decide +kernel
theorem dX4_save_31 : decode cX4_save 31 = .ok (.aastore, 1) := by decide +kernel
theorem dX4_save_32 : decode cX4_save 32 = .ok (.aload_n 0, 1) := by decide +kernel
theorem dX4_save_33 : decode cX4_save 33 = .ok (.getfield 26, 3) := by decide +kernel
theorem dX4_save_36 : decode cX4_save 36 = .ok (.iload_n 1, 1) := by decide +kernel
theorem dX4_save_37 : decode cX4_save 37 = .ok (.aaload, 1) := by decide +kernel
theorem dX4_save_38 : decode cX4_save 38 = .ok (.aload_n 0, 1) := by decide +kernel
theorem dX4_save_39 : decode cX4_save 39 = .ok (.getfield 10, 3) := by decide +kernel
theorem dX4_save_42 : decode cX4_save 42 = .ok (.invokevirtual 167, 3) := by decide +kernel
theorem dX4_save_45 : decode cX4_save 45 = .ok (.aload_n 0, 1) := by decide +kernel
theorem dX4_save_46 : decode cX4_save 46 = .ok (.getfield 10, 3) := by decide +kernel
theorem dX4_save_49 : decode cX4_save 49 = .ok (.getfield 112, 3) := by decide +kernel
theorem dX4_save_52 : decode cX4_save 52 = .ok (.ireturn, 1) := by decide +kernel
theorem dX4_restore_0 : decode cX4_restore 0 = .ok (.iload_n 1, 1) := by decide +kernel
theorem dX4_restore_1 : decode cX4_restore 1 = .ok (.invokestatic 190, 3) := by decide +kernel
theorem dX4_restore_4 : decode cX4_restore 4 = .ok (.ifCond .ne 6, 3) := by decide +kernel
theorem dX4_restore_7 : decode cX4_restore 7 = .ok (.bipush (-2), 2) := by decide +kernel
theorem dX4_restore_9 : decode cX4_restore 9 = .ok (.ireturn, 1) := by decide +kernel
theorem dX4_restore_10 : decode cX4_restore 10 = .ok (.aload_n 0, 1) := by decide +kernel
theorem dX4_restore_11 : decode cX4_restore 11 = .ok (.getfield 26, 3) := by decide +kernel
theorem dX4_restore_14 : decode cX4_restore 14 = .ok (.iload_n 1, 1) := by decide +kernel
theorem dX4_restore_15 : decode cX4_restore 15 = .ok (.aaload, 1) := by decide +kernel
theorem dX4_restore_16 : decode cX4_restore 16 = .ok (.astore_n 2, 1) := by decide +kernel
theorem dX4_restore_17 : decode cX4_restore 17 = .ok (.aload_n 2, 1) := by decide +kernel
theorem dX4_restore_18 : decode cX4_restore 18 = .ok (.ifnonnull 6, 3) := by decide +kernel
theorem dX4_restore_21 : decode cX4_restore 21 = .ok (.bipush (-5), 2) := by decide +kernel
theorem dX4_restore_23 : decode cX4_restore 23 = .ok (.ireturn, 1) := by decide +kernel
theorem dX4_restore_24 : decode cX4_restore 24 = .ok (.aload_n 0, 1) := by decide +kernel
theorem dX4_restore_25 : decode cX4_restore 25 = .ok (.getfield 22, 3) := by decide +kernel
theorem dX4_restore_28 : decode cX4_restore 28 = .ok (.aload_n 0, 1) := by decide +kernel
theorem dX4_restore_29 : decode cX4_restore 29 = .ok (.getfield 10, 3) := by decide +kernel
theorem dX4_restore_32 : decode cX4_restore 32 = .ok (.invokevirtual 48, 3) := by decide +kernel
theorem dX4_restore_35 : decode cX4_restore 35 = .ok (.aload_n 0, 1) := by decide +kernel
theorem dX4_restore_36 : decode cX4_restore 36 = .ok (.getfield 10, 3) := by decide +kernel
theorem dX4_restore_39 : decode cX4_restore 39 = .ok (.aload_n 2, 1) := by decide +kernel
theorem dX4_restore_40 : decode cX4_restore 40 = .ok (.invokevirtual 167, 3) := by decide +kernel
theorem dX4_restore_43 : decode cX4_restore 43 = .ok (.aload_n 0, 1) := by decide +kernel
theorem dX4_restore_44 : decode cX4_restore 44 = .ok (.getfield 10, 3) := by decide +kernel
theorem dX4_restore_47 : decode cX4_restore 47 = .ok (.getfield 112, 3) := by decide +kernel
theorem dX4_restore_50 : decode cX4_restore 50 = .ok (.ireturn, 1) := by decide +kernel
theorem dX4_isSetting_0 : decode cX4_isSetting 0 = .ok (.iload_n 0, 1) := by decide +kernel
theorem dX4_isSetting_1 : decode cX4_isSetting 1 = .ok (.ifCond .lt 15, 3) := by decide +kernel
theorem dX4_isSetting_4 : decode cX4_isSetting 4 = .ok (.iload_n 0, 1) := by decide +kernel
theorem dX4_isSetting_5 : decode cX4_isSetting 5 = .ok (.getstatic 193, 3) := by decide +kernel
theorem dX4_isSetting_8 : decode cX4_isSetting 8 = .ok (.arraylength, 1) := by decide +kernel
theorem dX4_isSetting_9 : decode cX4_isSetting 9 = .ok (.if_icmp .ge 7, 3) := by decide +kernel
theorem dX4_isSetting_12 : decode cX4_isSetting 12 = .ok (.iconst 1, 1) := by decide +kernel
theorem dX4_isSetting_13 : decode cX4_isSetting 13 = .ok (.goto 4, 3) := by decide +kernel
theorem dX4_isSetting_16 : decode cX4_isSetting 16 = .ok (.iconst 0, 1) := by decide +kernel
theorem dX4_isSetting_17 : decode cX4_isSetting 17 = .ok (.ireturn, 1) := by decide +kernel
theorem dX4_isSlot_0 : decode cX4_isSlot 0 = .ok (.iload_n 0, 1) := by decide +kernel
theorem dX4_isSlot_1 : decode cX4_isSlot 1 = .ok (.ifCond .lt 12, 3) := by decide +kernel
theorem dX4_isSlot_4 : decode cX4_isSlot 4 = .ok (.iload_n 0, 1) := by decide +kernel
theorem dX4_isSlot_5 : decode cX4_isSlot 5 = .ok (.iconst 2, 1) := by decide +kernel
theorem dX4_isSlot_6 : decode cX4_isSlot 6 = .ok (.if_icmp .ge 7, 3) := by decide +kernel
theorem dX4_isSlot_9 : decode cX4_isSlot 9 = .ok (.iconst 1, 1) := by decide +kernel
theorem dX4_isSlot_10 : decode cX4_isSlot 10 = .ok (.goto 4, 3) := by decide +kernel
theorem dX4_isSlot_13 : decode cX4_isSlot 13 = .ok (.iconst 0, 1) := by decide +kernel
theorem dX4_isSlot_14 : decode cX4_isSlot 14 = .ok (.ireturn, 1) := by decide +kernel
theorem dX4_daysAsGuardianIfMoved_0 : decode cX4_daysAsGuardianIfMoved 0 = .ok (.aload_n 0, 1) := by decide +kernel
theorem dX4_daysAsGuardianIfMoved_1 : decode cX4_daysAsGuardianIfMoved 1 = .ok (.getfield 16, 3) := by decide +kernel
theorem dX4_daysAsGuardianIfMoved_4 : decode cX4_daysAsGuardianIfMoved 4 = .ok (.aload_n 0, 1) := by decide +kernel
theorem dX4_daysAsGuardianIfMoved_5 : decode cX4_daysAsGuardianIfMoved 5 = .ok (.getfield 10, 3) := by decide +kernel
theorem dX4_daysAsGuardianIfMoved_8 : decode cX4_daysAsGuardianIfMoved 8 = .ok (.invokevirtual 167, 3) := by decide +kernel
theorem dX4_daysAsGuardianIfMoved_11 : decode cX4_daysAsGuardianIfMoved 11 = .ok (.aload_n 0, 1) := by decide +kernel
theorem dX4_daysAsGuardianIfMoved_12 : decode cX4_daysAsGuardianIfMoved 12 = .ok (.getfield 16, 3) := by decide +kernel
theorem dX4_daysAsGuardianIfMoved_15 : decode cX4_daysAsGuardianIfMoved 15 = .ok (.iload_n 1, 1) := by decide +kernel
theorem dX4_daysAsGuardianIfMoved_16 : decode cX4_daysAsGuardianIfMoved 16 = .ok (.iload_n 2, 1) := by decide +kernel
theorem dX4_daysAsGuardianIfMoved_17 : decode cX4_daysAsGuardianIfMoved 17 = .ok (.invokevirtual 80, 3) := by decide +kernel
theorem dX4_daysAsGuardianIfMoved_20 : decode cX4_daysAsGuardianIfMoved 20 = .ok (.aload_n 0, 1) := by decide +kernel
theorem dX4_daysAsGuardianIfMoved_21 : decode cX4_daysAsGuardianIfMoved 21 = .ok (.getfield 16, 3) := by decide +kernel
theorem dX4_daysAsGuardianIfMoved_24 : decode cX4_daysAsGuardianIfMoved 24 = .ok (.iload_n 2, 1) := by decide +kernel
theorem dX4_daysAsGuardianIfMoved_25 : decode cX4_daysAsGuardianIfMoved 25 = .ok (.invokevirtual 76, 3) := by decide +kernel
theorem dX4_daysAsGuardianIfMoved_28 : decode cX4_daysAsGuardianIfMoved 28 = .ok (.astore_n 3, 1) := by decide +kernel
theorem dX4_daysAsGuardianIfMoved_29 : decode cX4_daysAsGuardianIfMoved 29 = .ok (.aload_n 3, 1) := by decide +kernel
theorem dX4_daysAsGuardianIfMoved_30 : decode cX4_daysAsGuardianIfMoved 30 = .ok (.ifnonnull 5, 3) := by decide +kernel
theorem dX4_daysAsGuardianIfMoved_33 : decode cX4_daysAsGuardianIfMoved 33 = .ok (.iconst 0, 1) := by decide +kernel
theorem dX4_daysAsGuardianIfMoved_34 : decode cX4_daysAsGuardianIfMoved 34 = .ok (.ireturn, 1) := by decide +kernel
theorem dX4_daysAsGuardianIfMoved_35 : decode cX4_daysAsGuardianIfMoved 35 = .ok (.aload_n 3, 1) := by decide +kernel
theorem dX4_daysAsGuardianIfMoved_36 : decode cX4_daysAsGuardianIfMoved 36 = .ok (.getfield 144, 3) := by decide +kernel
theorem dX4_daysAsGuardianIfMoved_39 : decode cX4_daysAsGuardianIfMoved 39 = .ok (.istore 4, 2) := by decide +kernel
theorem dX4_daysAsGuardianIfMoved_41 : decode cX4_daysAsGuardianIfMoved 41 = .ok (.aload_n 0, 1) := by decide +kernel
theorem dX4_daysAsGuardianIfMoved_42 : decode cX4_daysAsGuardianIfMoved 42 = .ok (.getfield 16, 3) := by decide +kernel
theorem dX4_daysAsGuardianIfMoved_45 : decode cX4_daysAsGuardianIfMoved 45 = .ok (.bipush 100, 2) := by decide +kernel
theorem dX4_daysAsGuardianIfMoved_47 : decode cX4_daysAsGuardianIfMoved 47 = .ok (.invokevirtual 118, 3) := by decide +kernel
theorem dX4_daysAsGuardianIfMoved_50 : decode cX4_daysAsGuardianIfMoved 50 = .ok (.aload_n 3, 1) := by decide +kernel
theorem dX4_daysAsGuardianIfMoved_51 : decode cX4_daysAsGuardianIfMoved 51 = .ok (.getfield 144, 3) := by decide +kernel
theorem dX4_daysAsGuardianIfMoved_54 : decode cX4_daysAsGuardianIfMoved 54 = .ok (.iload 4, 2) := by decide +kernel
theorem dX4_daysAsGuardianIfMoved_56 : decode cX4_daysAsGuardianIfMoved 56 = .ok (.isub, 1) := by decide +kernel
theorem dX4_daysAsGuardianIfMoved_57 : decode cX4_daysAsGuardianIfMoved 57 = .ok (.ireturn, 1) := by decide +kernel
end
section
theorem dL_cell_0 : decode cL_cell 0 = .ok (.iload_n 1, 1) := by decide +kernel
theorem dL_cell_1 : decode cL_cell 1 = .ok (.aload_n 0, 1) := by decide +kernel
theorem dL_cell_2 : decode cL_cell 2 = .ok (.arraylength, 1) := by decide +kernel
theorem dL_cell_3 : decode cL_cell 3 = .ok (.if_icmp .ge 9, 3) := by decide +kernel
theorem dL_cell_6 : decode cL_cell 6 = .ok (.aload_n 0, 1) := by decide +kernel
theorem dL_cell_7 : decode cL_cell 7 = .ok (.iload_n 1, 1) := by decide +kernel
theorem dL_cell_8 : decode cL_cell 8 = .ok (.iaload, 1) := by decide +kernel
theorem dL_cell_9 : decode cL_cell 9 = .ok (.goto 15, 3) := by decide +kernel
theorem dL_cell_12 : decode cL_cell 12 = .ok (.sipush 7919, 3) := by decide +kernel
theorem dL_cell_15 : decode cL_cell 15 = .ok (.iload_n 1, 1) := by decide +kernel
theorem dL_cell_16 : decode cL_cell 16 = .ok (.iconst 3, 1) := by decide +kernel
theorem dL_cell_17 : decode cL_cell 17 = .ok (.iadd, 1) := by decide +kernel
theorem dL_cell_18 : decode cL_cell 18 = .ok (.imul, 1) := by decide +kernel
theorem dL_cell_19 : decode cL_cell 19 = .ok (.iload_n 1, 1) := by decide +kernel
theorem dL_cell_20 : decode cL_cell 20 = .ok (.bipush 11, 2) := by decide +kernel
theorem dL_cell_22 : decode cL_cell 22 = .ok (.iadd, 1) := by decide +kernel
theorem dL_cell_23 : decode cL_cell 23 = .ok (.imul, 1) := by decide +kernel
theorem dL_cell_24 : decode cL_cell 24 = .ok (.ireturn, 1) := by decide +kernel
theorem dL_low_0 : decode cL_low 0 = .ok (.iload_n 0, 1) := by decide +kernel
theorem dL_low_1 : decode cL_low 1 = .ok (.ldc 7, 2) := by decide +kernel
theorem dL_low_3 : decode cL_low 3 = .ok (.iand, 1) := by decide +kernel
theorem dL_low_4 : decode cL_low 4 = .ok (.iload_n 1, 1) := by decide +kernel
theorem dL_low_5 : decode cL_low 5 = .ok (.irem, 1) := by decide +kernel
theorem dL_low_6 : decode cL_low 6 = .ok (.ireturn, 1) := by decide +kernel
theorem dL_areAll_0 : decode cL_areAll 0 = .ok (.aload_n 0, 1) := by decide +kernel
theorem dL_areAll_1 : decode cL_areAll 1 = .ok (.bipush 7, 2) := by decide +kernel
theorem dL_areAll_3 : decode cL_areAll 3 = .ok (.invokevirtual 8, 3) := by decide +kernel
theorem dL_areAll_6 : decode cL_areAll 6 = .ok (.istore_n 1, 1) := by decide +kernel
theorem dL_areAll_7 : decode cL_areAll 7 = .ok (.aload_n 0, 1) := by decide +kernel
theorem dL_areAll_8 : decode cL_areAll 8 = .ok (.bipush 9, 2) := by decide +kernel
theorem dL_areAll_10 : decode cL_areAll 10 = .ok (.invokevirtual 8, 3) := by decide +kernel
theorem dL_areAll_13 : decode cL_areAll 13 = .ok (.istore_n 2, 1) := by decide +kernel
theorem dL_areAll_14 : decode cL_areAll 14 = .ok (.aload_n 0, 1) := by decide +kernel
theorem dL_areAll_15 : decode cL_areAll 15 = .ok (.bipush 8, 2) := by decide +kernel
theorem dL_areAll_17 : decode cL_areAll 17 = .ok (.invokevirtual 8, 3) := by decide +kernel
theorem dL_areAll_20 : decode cL_areAll 20 = .ok (.istore_n 3, 1) := by decide +kernel
theorem dL_areAll_21 : decode cL_areAll 21 = .ok (.iconst 0, 1) := by decide +kernel
theorem dL_areAll_22 : decode cL_areAll 22 = .ok (.istore 4, 2) := by decide +kernel
theorem dL_areAll_24 : decode cL_areAll 24 = .ok (.iconst 0, 1) := by decide +kernel
theorem dL_areAll_25 : decode cL_areAll 25 = .ok (.istore 5, 2) := by decide +kernel
theorem dL_areAll_27 : decode cL_areAll 27 = .ok (.iconst 0, 1) := by decide +kernel
theorem dL_areAll_28 : decode cL_areAll 28 = .ok (.istore 6, 2) := by decide +kernel
theorem dL_areAll_30 : decode cL_areAll 30 = .ok (.iconst 0, 1) := by decide +kernel
theorem dL_areAll_31 : decode cL_areAll 31 = .ok (.istore 7, 2) := by decide +kernel
theorem dL_areAll_33 : decode cL_areAll 33 = .ok (.iconst 0, 1) := by decide +kernel
theorem dL_areAll_34 : decode cL_areAll 34 = .ok (.istore 8, 2) := by decide +kernel
theorem dL_areAll_36 : decode cL_areAll 36 = .ok (.iconst 0, 1) := by decide +kernel
theorem dL_areAll_37 : decode cL_areAll 37 = .ok (.istore 9, 2) := by decide +kernel
theorem dL_areAll_39 : decode cL_areAll 39 = .ok (.iload 9, 2) := by decide +kernel
theorem dL_areAll_41 : decode cL_areAll 41 = .ok (.iload_n 1, 1) := by decide +kernel
theorem dL_areAll_42 : decode cL_areAll 42 = .ok (.if_icmp .ge 232, 3) := by decide +kernel
theorem dL_areAll_45 : decode cL_areAll 45 = .ok (.iload 9, 2) := by decide +kernel
theorem dL_areAll_47 : decode cL_areAll 47 = .ok (.bipush 8, 2) := by decide +kernel
theorem dL_areAll_49 : decode cL_areAll 49 = .ok (.if_icmp .ge 225, 3) := by decide +kernel
theorem dL_areAll_52 : decode cL_areAll 52 = .ok (.aload_n 0, 1) := by decide +kernel
theorem dL_areAll_53 : decode cL_areAll 53 = .ok (.iload 9, 2) := by decide +kernel
theorem dL_areAll_55 : decode cL_areAll 55 = .ok (.iconst 2, 1) := by decide +kernel
theorem dL_areAll_56 : decode cL_areAll 56 = .ok (.invokevirtual 14, 3) := by decide +kernel
theorem dL_areAll_59 : decode cL_areAll 59 = .ok (.istore 10, 2) := by decide +kernel
theorem dL_areAll_61 : decode cL_areAll 61 = .ok (.iload 10, 2) := by decide +kernel
theorem dL_areAll_63 : decode cL_areAll 63 = .ok (.aload_n 0, 1) := by decide +kernel
theorem dL_areAll_64 : decode cL_areAll 64 = .ok (.iconst 4, 1) := by decide +kernel
theorem dL_areAll_65 : decode cL_areAll 65 = .ok (.invokevirtual 8, 3) := by decide +kernel
theorem dL_areAll_68 : decode cL_areAll 68 = .ok (.if_icmp .lt 7, 3) := by decide +kernel
theorem dL_areAll_71 : decode cL_areAll 71 = .ok (.iconst 1, 1) := by decide +kernel
theorem dL_areAll_72 : decode cL_areAll 72 = .ok (.goto 4, 3) := by decide +kernel
theorem dL_areAll_75 : decode cL_areAll 75 = .ok (.iconst 0, 1) := by decide +kernel
theorem dL_areAll_76 : decode cL_areAll 76 = .ok (.istore 11, 2) := by decide +kernel
theorem dL_areAll_78 : decode cL_areAll 78 = .ok (.iload_n 3, 1) := by decide +kernel
theorem dL_areAll_79 : decode cL_areAll 79 = .ok (.iconst 5, 1) := by decide +kernel
theorem dL_areAll_80 : decode cL_areAll 80 = .ok (.aload_n 0, 1) := by decide +kernel
theorem dL_areAll_81 : decode cL_areAll 81 = .ok (.iload 9, 2) := by decide +kernel
theorem dL_areAll_83 : decode cL_areAll 83 = .ok (.iconst 0, 1) := by decide +kernel
theorem dL_areAll_84 : decode cL_areAll 84 = .ok (.invokevirtual 14, 3) := by decide +kernel
theorem dL_areAll_87 : decode cL_areAll 87 = .ok (.imul, 1) := by decide +kernel
theorem dL_areAll_88 : decode cL_areAll 88 = .ok (.iadd, 1) := by decide +kernel
theorem dL_areAll_89 : decode cL_areAll 89 = .ok (.bipush 10, 2) := by decide +kernel
theorem dL_areAll_91 : decode cL_areAll 91 = .ok (.iload 10, 2) := by decide +kernel
theorem dL_areAll_93 : decode cL_areAll 93 = .ok (.imul, 1) := by decide +kernel
theorem dL_areAll_94 : decode cL_areAll 94 = .ok (.isub, 1) := by decide +kernel
theorem dL_areAll_95 : decode cL_areAll 95 = .ok (.istore 12, 2) := by decide +kernel
theorem dL_areAll_97 : decode cL_areAll 97 = .ok (.iload_n 2, 1) := by decide +kernel
theorem dL_areAll_98 : decode cL_areAll 98 = .ok (.ifCond .lt 33, 3) := by decide +kernel
theorem dL_areAll_101 : decode cL_areAll 101 = .ok (.iload_n 2, 1) := by decide +kernel
theorem dL_areAll_102 : decode cL_areAll 102 = .ok (.iload 9, 2) := by decide +kernel
theorem dL_areAll_104 : decode cL_areAll 104 = .ok (.if_icmp .eq 27, 3) := by decide +kernel
theorem dL_areAll_107 : decode cL_areAll 107 = .ok (.iload 11, 2) := by decide +kernel
theorem dL_areAll_109 : decode cL_areAll 109 = .ok (.ifCond .ne 22, 3) := by decide +kernel
theorem dL_areAll_112 : decode cL_areAll 112 = .ok (.aload_n 0, 1) := by decide +kernel
theorem dL_areAll_113 : decode cL_areAll 113 = .ok (.iload 9, 2) := by decide +kernel
theorem dL_areAll_115 : decode cL_areAll 115 = .ok (.iconst 3, 1) := by decide +kernel
theorem dL_areAll_116 : decode cL_areAll 116 = .ok (.invokevirtual 14, 3) := by decide +kernel
theorem dL_areAll_119 : decode cL_areAll 119 = .ok (.aload_n 0, 1) := by decide +kernel
theorem dL_areAll_120 : decode cL_areAll 120 = .ok (.iconst 2, 1) := by decide +kernel
theorem dL_areAll_121 : decode cL_areAll 121 = .ok (.invokevirtual 8, 3) := by decide +kernel
theorem dL_areAll_124 : decode cL_areAll 124 = .ok (.if_icmp .lt 7, 3) := by decide +kernel
theorem dL_areAll_127 : decode cL_areAll 127 = .ok (.iconst 1, 1) := by decide +kernel
theorem dL_areAll_128 : decode cL_areAll 128 = .ok (.goto 4, 3) := by decide +kernel
theorem dL_areAll_131 : decode cL_areAll 131 = .ok (.iconst 0, 1) := by decide +kernel
theorem dL_areAll_132 : decode cL_areAll 132 = .ok (.istore 13, 2) := by decide +kernel
theorem dL_areAll_134 : decode cL_areAll 134 = .ok (.aload_n 0, 1) := by decide +kernel
theorem dL_areAll_135 : decode cL_areAll 135 = .ok (.iload 9, 2) := by decide +kernel
theorem dL_areAll_137 : decode cL_areAll 137 = .ok (.iconst 4, 1) := by decide +kernel
theorem dL_areAll_138 : decode cL_areAll 138 = .ok (.invokevirtual 14, 3) := by decide +kernel
theorem dL_areAll_141 : decode cL_areAll 141 = .ok (.iload 11, 2) := by decide +kernel
theorem dL_areAll_143 : decode cL_areAll 143 = .ok (.ifCond .eq 7, 3) := by decide +kernel
theorem dL_areAll_146 : decode cL_areAll 146 = .ok (.iconst 1, 1) := by decide +kernel
theorem dL_areAll_147 : decode cL_areAll 147 = .ok (.goto 4, 3) := by decide +kernel
theorem dL_areAll_150 : decode cL_areAll 150 = .ok (.iconst 0, 1) := by decide +kernel
theorem dL_areAll_151 : decode cL_areAll 151 = .ok (.if_icmp .ne 55, 3) := by decide +kernel
theorem dL_areAll_154 : decode cL_areAll 154 = .ok (.aload_n 0, 1) := by decide +kernel
theorem dL_areAll_155 : decode cL_areAll 155 = .ok (.iload 9, 2) := by decide +kernel
theorem dL_areAll_157 : decode cL_areAll 157 = .ok (.iconst 5, 1) := by decide +kernel
theorem dL_areAll_158 : decode cL_areAll 158 = .ok (.invokevirtual 14, 3) := by decide +kernel
theorem dL_areAll_161 : decode cL_areAll 161 = .ok (.iload 12, 2) := by decide +kernel
theorem dL_areAll_163 : decode cL_areAll 163 = .ok (.sipush 1000, 3) := by decide +kernel
theorem dL_areAll_166 : decode cL_areAll 166 = .ok (.iadd, 1) := by decide +kernel
theorem dL_areAll_167 : decode cL_areAll 167 = .ok (.if_icmp .ne 39, 3) := by decide +kernel
theorem dL_areAll_170 : decode cL_areAll 170 = .ok (.aload_n 0, 1) := by decide +kernel
theorem dL_areAll_171 : decode cL_areAll 171 = .ok (.iload 9, 2) := by decide +kernel
theorem dL_areAll_173 : decode cL_areAll 173 = .ok (.bipush 8, 2) := by decide +kernel
theorem dL_areAll_175 : decode cL_areAll 175 = .ok (.invokevirtual 14, 3) := by decide +kernel
theorem dL_areAll_178 : decode cL_areAll 178 = .ok (.iload 13, 2) := by decide +kernel
theorem dL_areAll_180 : decode cL_areAll 180 = .ok (.ifCond .eq 7, 3) := by decide +kernel
theorem dL_areAll_183 : decode cL_areAll 183 = .ok (.iconst 1, 1) := by decide +kernel
theorem dL_areAll_184 : decode cL_areAll 184 = .ok (.goto 4, 3) := by decide +kernel
theorem dL_areAll_187 : decode cL_areAll 187 = .ok (.iconst 0, 1) := by decide +kernel
theorem dL_areAll_188 : decode cL_areAll 188 = .ok (.if_icmp .ne 18, 3) := by decide +kernel
theorem dL_areAll_191 : decode cL_areAll 191 = .ok (.aload_n 0, 1) := by decide +kernel
theorem dL_areAll_192 : decode cL_areAll 192 = .ok (.iload 9, 2) := by decide +kernel
theorem dL_areAll_194 : decode cL_areAll 194 = .ok (.iconst 3, 1) := by decide +kernel
theorem dL_areAll_195 : decode cL_areAll 195 = .ok (.invokevirtual 14, 3) := by decide +kernel
theorem dL_areAll_198 : decode cL_areAll 198 = .ok (.ifCond .lt 8, 3) := by decide +kernel
theorem dL_areAll_201 : decode cL_areAll 201 = .ok (.iload 10, 2) := by decide +kernel
theorem dL_areAll_203 : decode cL_areAll 203 = .ok (.ifCond .ge 5, 3) := by decide +kernel
theorem dL_areAll_206 : decode cL_areAll 206 = .ok (.iconst 0, 1) := by decide +kernel
theorem dL_areAll_207 : decode cL_areAll 207 = .ok (.ireturn, 1) := by decide +kernel
theorem dL_areAll_208 : decode cL_areAll 208 = .ok (.iload 4, 2) := by decide +kernel
theorem dL_areAll_210 : decode cL_areAll 210 = .ok (.iload 11, 2) := by decide +kernel
theorem dL_areAll_212 : decode cL_areAll 212 = .ok (.ifCond .eq 7, 3) := by decide +kernel
theorem dL_areAll_215 : decode cL_areAll 215 = .ok (.iconst 1, 1) := by decide +kernel
theorem dL_areAll_216 : decode cL_areAll 216 = .ok (.goto 4, 3) := by decide +kernel
theorem dL_areAll_219 : decode cL_areAll 219 = .ok (.iconst 0, 1) := by decide +kernel
theorem dL_areAll_220 : decode cL_areAll 220 = .ok (.iadd, 1) := by decide +kernel
theorem dL_areAll_221 : decode cL_areAll 221 = .ok (.istore 4, 2) := by decide +kernel
theorem dL_areAll_223 : decode cL_areAll 223 = .ok (.iload 5, 2) := by decide +kernel
theorem dL_areAll_225 : decode cL_areAll 225 = .ok (.aload_n 0, 1) := by decide +kernel
theorem dL_areAll_226 : decode cL_areAll 226 = .ok (.iload 9, 2) := by decide +kernel
theorem dL_areAll_228 : decode cL_areAll 228 = .ok (.iconst 3, 1) := by decide +kernel
theorem dL_areAll_229 : decode cL_areAll 229 = .ok (.invokevirtual 14, 3) := by decide +kernel
theorem dL_areAll_232 : decode cL_areAll 232 = .ok (.iadd, 1) := by decide +kernel
theorem dL_areAll_233 : decode cL_areAll 233 = .ok (.istore 5, 2) := by decide +kernel
theorem dL_areAll_235 : decode cL_areAll 235 = .ok (.iload 7, 2) := by decide +kernel
theorem dL_areAll_237 : decode cL_areAll 237 = .ok (.iload 10, 2) := by decide +kernel
theorem dL_areAll_239 : decode cL_areAll 239 = .ok (.iadd, 1) := by decide +kernel
theorem dL_areAll_240 : decode cL_areAll 240 = .ok (.istore 7, 2) := by decide +kernel
theorem dL_areAll_242 : decode cL_areAll 242 = .ok (.iload 6, 2) := by decide +kernel
theorem dL_areAll_244 : decode cL_areAll 244 = .ok (.aload_n 0, 1) := by decide +kernel
theorem dL_areAll_245 : decode cL_areAll 245 = .ok (.iload 9, 2) := by decide +kernel
theorem dL_areAll_247 : decode cL_areAll 247 = .ok (.bipush 6, 2) := by decide +kernel
theorem dL_areAll_249 : decode cL_areAll 249 = .ok (.invokevirtual 14, 3) := by decide +kernel
theorem dL_areAll_252 : decode cL_areAll 252 = .ok (.iadd, 1) := by decide +kernel
theorem dL_areAll_253 : decode cL_areAll 253 = .ok (.istore 6, 2) := by decide +kernel
theorem dL_areAll_255 : decode cL_areAll 255 = .ok (.iload 8, 2) := by decide +kernel
theorem dL_areAll_257 : decode cL_areAll 257 = .ok (.aload_n 0, 1) := by decide +kernel
theorem dL_areAll_258 : decode cL_areAll 258 = .ok (.iload 9, 2) := by decide +kernel
theorem dL_areAll_260 : decode cL_areAll 260 = .ok (.bipush 7, 2) := by decide +kernel
theorem dL_areAll_262 : decode cL_areAll 262 = .ok (.invokevirtual 14, 3) := by decide +kernel
theorem dL_areAll_265 : decode cL_areAll 265 = .ok (.iadd, 1) := by decide +kernel
theorem dL_areAll_266 : decode cL_areAll 266 = .ok (.istore 8, 2) := by decide +kernel
theorem dL_areAll_268 : decode cL_areAll 268 = .ok (.iinc 9 1, 3) := by decide +kernel
theorem dL_areAll_271 : decode cL_areAll 271 = .ok (.goto (-232), 3) := by decide +kernel
theorem dL_areAll_274 : decode cL_areAll 274 = .ok (.iload_n 2, 1) := by decide +kernel
theorem dL_areAll_275 : decode cL_areAll 275 = .ok (.bipush (-6), 2) := by decide +kernel
theorem dL_areAll_277 : decode cL_areAll 277 = .ok (.if_icmp .ne 38, 3) := by decide +kernel
theorem dL_areAll_280 : decode cL_areAll 280 = .ok (.aload_n 0, 1) := by decide +kernel
theorem dL_areAll_281 : decode cL_areAll 281 = .ok (.bipush 10, 2) := by decide +kernel
theorem dL_areAll_283 : decode cL_areAll 283 = .ok (.invokevirtual 8, 3) := by decide +kernel
theorem dL_areAll_286 : decode cL_areAll 286 = .ok (.ifCond .lt 25, 3) := by decide +kernel
theorem dL_areAll_289 : decode cL_areAll 289 = .ok (.aload_n 0, 1) := by decide +kernel
theorem dL_areAll_290 : decode cL_areAll 290 = .ok (.bipush 10, 2) := by decide +kernel
theorem dL_areAll_292 : decode cL_areAll 292 = .ok (.invokevirtual 8, 3) := by decide +kernel
theorem dL_areAll_295 : decode cL_areAll 295 = .ok (.iload_n 1, 1) := by decide +kernel
theorem dL_areAll_296 : decode cL_areAll 296 = .ok (.ifCond .ne 7, 3) := by decide +kernel
theorem dL_areAll_299 : decode cL_areAll 299 = .ok (.iconst 1, 1) := by decide +kernel
theorem dL_areAll_300 : decode cL_areAll 300 = .ok (.goto 4, 3) := by decide +kernel
theorem dL_areAll_303 : decode cL_areAll 303 = .ok (.iload_n 1, 1) := by decide +kernel
theorem dL_areAll_304 : decode cL_areAll 304 = .ok (.if_icmp .ge 7, 3) := by decide +kernel
theorem dL_areAll_307 : decode cL_areAll 307 = .ok (.iconst 1, 1) := by decide +kernel
theorem dL_areAll_308 : decode cL_areAll 308 = .ok (.goto 32, 3) := by decide +kernel
theorem dL_areAll_311 : decode cL_areAll 311 = .ok (.iconst 0, 1) := by decide +kernel
theorem dL_areAll_312 : decode cL_areAll 312 = .ok (.goto 28, 3) := by decide +kernel
theorem dL_areAll_315 : decode cL_areAll 315 = .ok (.iload_n 2, 1) := by decide +kernel
theorem dL_areAll_316 : decode cL_areAll 316 = .ok (.ifCond .lt 23, 3) := by decide +kernel
theorem dL_areAll_319 : decode cL_areAll 319 = .ok (.iload_n 2, 1) := by decide +kernel
theorem dL_areAll_320 : decode cL_areAll 320 = .ok (.iload_n 1, 1) := by decide +kernel
theorem dL_areAll_321 : decode cL_areAll 321 = .ok (.if_icmp .ge 18, 3) := by decide +kernel
theorem dL_areAll_324 : decode cL_areAll 324 = .ok (.aload_n 0, 1) := by decide +kernel
theorem dL_areAll_325 : decode cL_areAll 325 = .ok (.bipush 10, 2) := by decide +kernel
theorem dL_areAll_327 : decode cL_areAll 327 = .ok (.invokevirtual 8, 3) := by decide +kernel
theorem dL_areAll_330 : decode cL_areAll 330 = .ok (.bipush (-6), 2) := by decide +kernel
theorem dL_areAll_332 : decode cL_areAll 332 = .ok (.if_icmp .ne 7, 3) := by decide +kernel
theorem dL_areAll_335 : decode cL_areAll 335 = .ok (.iconst 1, 1) := by decide +kernel
theorem dL_areAll_336 : decode cL_areAll 336 = .ok (.goto 4, 3) := by decide +kernel
theorem dL_areAll_339 : decode cL_areAll 339 = .ok (.iconst 0, 1) := by decide +kernel
theorem dL_areAll_340 : decode cL_areAll 340 = .ok (.istore 9, 2) := by decide +kernel
theorem dL_areAll_342 : decode cL_areAll 342 = .ok (.iload 9, 2) := by decide +kernel
theorem dL_areAll_344 : decode cL_areAll 344 = .ok (.ifCond .eq 120, 3) := by decide +kernel
theorem dL_areAll_347 : decode cL_areAll 347 = .ok (.iload_n 3, 1) := by decide +kernel
theorem dL_areAll_348 : decode cL_areAll 348 = .ok (.ifCond .lt 116, 3) := by decide +kernel
theorem dL_areAll_351 : decode cL_areAll 351 = .ok (.iload_n 3, 1) := by decide +kernel
theorem dL_areAll_352 : decode cL_areAll 352 = .ok (.bipush 100, 2) := by decide +kernel
theorem dL_areAll_354 : decode cL_areAll 354 = .ok (.if_icmp .ge 110, 3) := by decide +kernel
theorem dL_areAll_357 : decode cL_areAll 357 = .ok (.aload_n 0, 1) := by decide +kernel
theorem dL_areAll_358 : decode cL_areAll 358 = .ok (.bipush 11, 2) := by decide +kernel
theorem dL_areAll_360 : decode cL_areAll 360 = .ok (.invokevirtual 8, 3) := by decide +kernel
theorem dL_areAll_363 : decode cL_areAll 363 = .ok (.ifCond .lt 101, 3) := by decide +kernel
theorem dL_areAll_366 : decode cL_areAll 366 = .ok (.aload_n 0, 1) := by decide +kernel
theorem dL_areAll_367 : decode cL_areAll 367 = .ok (.bipush 12, 2) := by decide +kernel
theorem dL_areAll_369 : decode cL_areAll 369 = .ok (.invokevirtual 8, 3) := by decide +kernel
theorem dL_areAll_372 : decode cL_areAll 372 = .ok (.iload 4, 2) := by decide +kernel
theorem dL_areAll_374 : decode cL_areAll 374 = .ok (.if_icmp .ne 90, 3) := by decide +kernel
theorem dL_areAll_377 : decode cL_areAll 377 = .ok (.aload_n 0, 1) := by decide +kernel
theorem dL_areAll_378 : decode cL_areAll 378 = .ok (.bipush 17, 2) := by decide +kernel
theorem dL_areAll_380 : decode cL_areAll 380 = .ok (.invokevirtual 8, 3) := by decide +kernel
theorem dL_areAll_383 : decode cL_areAll 383 = .ok (.iload 5, 2) := by decide +kernel
theorem dL_areAll_385 : decode cL_areAll 385 = .ok (.if_icmp .ne 79, 3) := by decide +kernel
theorem dL_areAll_388 : decode cL_areAll 388 = .ok (.aload_n 0, 1) := by decide +kernel
theorem dL_areAll_389 : decode cL_areAll 389 = .ok (.bipush 13, 2) := by decide +kernel
theorem dL_areAll_391 : decode cL_areAll 391 = .ok (.invokevirtual 8, 3) := by decide +kernel
theorem dL_areAll_394 : decode cL_areAll 394 = .ok (.iload 7, 2) := by decide +kernel
theorem dL_areAll_396 : decode cL_areAll 396 = .ok (.if_icmp .ne 68, 3) := by decide +kernel
theorem dL_areAll_399 : decode cL_areAll 399 = .ok (.aload_n 0, 1) := by decide +kernel
theorem dL_areAll_400 : decode cL_areAll 400 = .ok (.bipush 14, 2) := by decide +kernel
theorem dL_areAll_402 : decode cL_areAll 402 = .ok (.invokevirtual 8, 3) := by decide +kernel
theorem dL_areAll_405 : decode cL_areAll 405 = .ok (.iload 6, 2) := by decide +kernel
theorem dL_areAll_407 : decode cL_areAll 407 = .ok (.if_icmp .ne 57, 3) := by decide +kernel
theorem dL_areAll_410 : decode cL_areAll 410 = .ok (.iload 8, 2) := by decide +kernel
theorem dL_areAll_412 : decode cL_areAll 412 = .ok (.aload_n 0, 1) := by decide +kernel
theorem dL_areAll_413 : decode cL_areAll 413 = .ok (.bipush 6, 2) := by decide +kernel
theorem dL_areAll_415 : decode cL_areAll 415 = .ok (.invokevirtual 8, 3) := by decide +kernel
theorem dL_areAll_418 : decode cL_areAll 418 = .ok (.if_icmp .gt 46, 3) := by decide +kernel
theorem dL_areAll_421 : decode cL_areAll 421 = .ok (.aload_n 0, 1) := by decide +kernel
theorem dL_areAll_422 : decode cL_areAll 422 = .ok (.bipush 11, 2) := by decide +kernel
theorem dL_areAll_424 : decode cL_areAll 424 = .ok (.invokevirtual 8, 3) := by decide +kernel
theorem dL_areAll_427 : decode cL_areAll 427 = .ok (.iload 5, 2) := by decide +kernel
theorem dL_areAll_429 : decode cL_areAll 429 = .ok (.iadd, 1) := by decide +kernel
theorem dL_areAll_430 : decode cL_areAll 430 = .ok (.aload_n 0, 1) := by decide +kernel
theorem dL_areAll_431 : decode cL_areAll 431 = .ok (.bipush 16, 2) := by decide +kernel
theorem dL_areAll_433 : decode cL_areAll 433 = .ok (.invokevirtual 8, 3) := by decide +kernel
theorem dL_areAll_436 : decode cL_areAll 436 = .ok (.iadd, 1) := by decide +kernel
theorem dL_areAll_437 : decode cL_areAll 437 = .ok (.sipush 1000, 3) := by decide +kernel
theorem dL_areAll_440 : decode cL_areAll 440 = .ok (.aload_n 0, 1) := by decide +kernel
theorem dL_areAll_441 : decode cL_areAll 441 = .ok (.bipush 18, 2) := by decide +kernel
theorem dL_areAll_443 : decode cL_areAll 443 = .ok (.invokevirtual 8, 3) := by decide +kernel
theorem dL_areAll_446 : decode cL_areAll 446 = .ok (.iadd, 1) := by decide +kernel
theorem dL_areAll_447 : decode cL_areAll 447 = .ok (.if_icmp .ne 17, 3) := by decide +kernel
theorem dL_areAll_450 : decode cL_areAll 450 = .ok (.aload_n 0, 1) := by decide +kernel
theorem dL_areAll_451 : decode cL_areAll 451 = .ok (.iload_n 1, 1) := by decide +kernel
theorem dL_areAll_452 : decode cL_areAll 452 = .ok (.iconst 0, 1) := by decide +kernel
theorem dL_areAll_453 : decode cL_areAll 453 = .ok (.invokevirtual 14, 3) := by decide +kernel
theorem dL_areAll_456 : decode cL_areAll 456 = .ok (.iconst (-1), 1) := by decide +kernel
theorem dL_areAll_457 : decode cL_areAll 457 = .ok (.if_icmp .ne 7, 3) := by decide +kernel
theorem dL_areAll_460 : decode cL_areAll 460 = .ok (.iconst 1, 1) := by decide +kernel
theorem dL_areAll_461 : decode cL_areAll 461 = .ok (.goto 4, 3) := by decide +kernel
theorem dL_areAll_464 : decode cL_areAll 464 = .ok (.iconst 0, 1) := by decide +kernel
theorem dL_areAll_465 : decode cL_areAll 465 = .ok (.ireturn, 1) := by decide +kernel
theorem dL_isDay_0 : decode cL_isDay 0 = .ok (.aload_n 0, 1) := by decide +kernel
theorem dL_isDay_1 : decode cL_isDay 1 = .ok (.bipush 7, 2) := by decide +kernel
theorem dL_isDay_3 : decode cL_isDay 3 = .ok (.invokevirtual 8, 3) := by decide +kernel
theorem dL_isDay_6 : decode cL_isDay 6 = .ok (.istore_n 1, 1) := by decide +kernel
theorem dL_isDay_7 : decode cL_isDay 7 = .ok (.aload_n 0, 1) := by decide +kernel
theorem dL_isDay_8 : decode cL_isDay 8 = .ok (.bipush 6, 2) := by decide +kernel
theorem dL_isDay_10 : decode cL_isDay 10 = .ok (.invokevirtual 8, 3) := by decide +kernel
theorem dL_isDay_13 : decode cL_isDay 13 = .ok (.iconst 1, 1) := by decide +kernel
theorem dL_isDay_14 : decode cL_isDay 14 = .ok (.iadd, 1) := by decide +kernel
theorem dL_isDay_15 : decode cL_isDay 15 = .ok (.istore_n 2, 1) := by decide +kernel
theorem dL_isDay_16 : decode cL_isDay 16 = .ok (.aload_n 0, 1) := by decide +kernel
theorem dL_isDay_17 : decode cL_isDay 17 = .ok (.bipush 9, 2) := by decide +kernel
theorem dL_isDay_19 : decode cL_isDay 19 = .ok (.invokevirtual 8, 3) := by decide +kernel
theorem dL_isDay_22 : decode cL_isDay 22 = .ok (.istore_n 3, 1) := by decide +kernel
theorem dL_isDay_23 : decode cL_isDay 23 = .ok (.aload_n 0, 1) := by decide +kernel
theorem dL_isDay_24 : decode cL_isDay 24 = .ok (.bipush 8, 2) := by decide +kernel
theorem dL_isDay_26 : decode cL_isDay 26 = .ok (.invokevirtual 8, 3) := by decide +kernel
theorem dL_isDay_29 : decode cL_isDay 29 = .ok (.istore 4, 2) := by decide +kernel
theorem dL_isDay_31 : decode cL_isDay 31 = .ok (.aload_n 0, 1) := by decide +kernel
theorem dL_isDay_32 : decode cL_isDay 32 = .ok (.bipush 17, 2) := by decide +kernel
theorem dL_isDay_34 : decode cL_isDay 34 = .ok (.invokevirtual 8, 3) := by decide +kernel
theorem dL_isDay_37 : decode cL_isDay 37 = .ok (.istore 5, 2) := by decide +kernel
theorem dL_isDay_39 : decode cL_isDay 39 = .ok (.aload_n 0, 1) := by decide +kernel
theorem dL_isDay_40 : decode cL_isDay 40 = .ok (.bipush 11, 2) := by decide +kernel
theorem dL_isDay_42 : decode cL_isDay 42 = .ok (.invokevirtual 8, 3) := by decide +kernel
theorem dL_isDay_45 : decode cL_isDay 45 = .ok (.istore 6, 2) := by decide +kernel
theorem dL_isDay_47 : decode cL_isDay 47 = .ok (.aload_n 0, 1) := by decide +kernel
theorem dL_isDay_48 : decode cL_isDay 48 = .ok (.bipush 16, 2) := by decide +kernel
theorem dL_isDay_50 : decode cL_isDay 50 = .ok (.invokevirtual 8, 3) := by decide +kernel
theorem dL_isDay_53 : decode cL_isDay 53 = .ok (.istore 7, 2) := by decide +kernel
theorem dL_isDay_55 : decode cL_isDay 55 = .ok (.aload_n 0, 1) := by decide +kernel
theorem dL_isDay_56 : decode cL_isDay 56 = .ok (.bipush 15, 2) := by decide +kernel
theorem dL_isDay_58 : decode cL_isDay 58 = .ok (.invokevirtual 8, 3) := by decide +kernel
theorem dL_isDay_61 : decode cL_isDay 61 = .ok (.istore 8, 2) := by decide +kernel
theorem dL_isDay_63 : decode cL_isDay 63 = .ok (.aload_n 0, 1) := by decide +kernel
theorem dL_isDay_64 : decode cL_isDay 64 = .ok (.bipush 13, 2) := by decide +kernel
theorem dL_isDay_66 : decode cL_isDay 66 = .ok (.invokevirtual 8, 3) := by decide +kernel
theorem dL_isDay_69 : decode cL_isDay 69 = .ok (.istore 9, 2) := by decide +kernel
theorem dL_isDay_71 : decode cL_isDay 71 = .ok (.aload_n 0, 1) := by decide +kernel
theorem dL_isDay_72 : decode cL_isDay 72 = .ok (.bipush 10, 2) := by decide +kernel
theorem dL_isDay_74 : decode cL_isDay 74 = .ok (.invokevirtual 8, 3) := by decide +kernel
theorem dL_isDay_77 : decode cL_isDay 77 = .ok (.istore 10, 2) := by decide +kernel
theorem dL_isDay_79 : decode cL_isDay 79 = .ok (.iconst (-1), 1) := by decide +kernel
theorem dL_isDay_80 : decode cL_isDay 80 = .ok (.istore 11, 2) := by decide +kernel
theorem dL_isDay_82 : decode cL_isDay 82 = .ok (.iload_n 3, 1) := by decide +kernel
theorem dL_isDay_83 : decode cL_isDay 83 = .ok (.istore 12, 2) := by decide +kernel
theorem dL_isDay_85 : decode cL_isDay 85 = .ok (.iconst 0, 1) := by decide +kernel
theorem dL_isDay_86 : decode cL_isDay 86 = .ok (.istore 13, 2) := by decide +kernel
theorem dL_isDay_88 : decode cL_isDay 88 = .ok (.iload_n 1, 1) := by decide +kernel
theorem dL_isDay_89 : decode cL_isDay 89 = .ok (.iconst 1, 1) := by decide +kernel
theorem dL_isDay_90 : decode cL_isDay 90 = .ok (.isub, 1) := by decide +kernel
theorem dL_isDay_91 : decode cL_isDay 91 = .ok (.istore 14, 2) := by decide +kernel
theorem dL_isDay_93 : decode cL_isDay 93 = .ok (.iload 14, 2) := by decide +kernel
theorem dL_isDay_95 : decode cL_isDay 95 = .ok (.ifCond .lt 42, 3) := by decide +kernel
theorem dL_isDay_98 : decode cL_isDay 98 = .ok (.iload_n 3, 1) := by decide +kernel
theorem dL_isDay_99 : decode cL_isDay 99 = .ok (.ifCond .ge 38, 3) := by decide +kernel
theorem dL_isDay_102 : decode cL_isDay 102 = .ok (.aload_n 0, 1) := by decide +kernel
theorem dL_isDay_103 : decode cL_isDay 103 = .ok (.iload 10, 2) := by decide +kernel
theorem dL_isDay_105 : decode cL_isDay 105 = .ok (.iload 14, 2) := by decide +kernel
theorem dL_isDay_107 : decode cL_isDay 107 = .ok (.iadd, 1) := by decide +kernel
theorem dL_isDay_108 : decode cL_isDay 108 = .ok (.iload_n 1, 1) := by decide +kernel
theorem dL_isDay_109 : decode cL_isDay 109 = .ok (.irem, 1) := by decide +kernel
theorem dL_isDay_110 : decode cL_isDay 110 = .ok (.iconst 4, 1) := by decide +kernel
theorem dL_isDay_111 : decode cL_isDay 111 = .ok (.invokevirtual 14, 3) := by decide +kernel
theorem dL_isDay_114 : decode cL_isDay 114 = .ok (.ifCond .ne 13, 3) := by decide +kernel
theorem dL_isDay_117 : decode cL_isDay 117 = .ok (.iload 10, 2) := by decide +kernel
theorem dL_isDay_119 : decode cL_isDay 119 = .ok (.iload 14, 2) := by decide +kernel
theorem dL_isDay_121 : decode cL_isDay 121 = .ok (.iadd, 1) := by decide +kernel
theorem dL_isDay_122 : decode cL_isDay 122 = .ok (.iload_n 1, 1) := by decide +kernel
theorem dL_isDay_123 : decode cL_isDay 123 = .ok (.irem, 1) := by decide +kernel
theorem dL_isDay_124 : decode cL_isDay 124 = .ok (.goto 5, 3) := by decide +kernel
theorem dL_isDay_127 : decode cL_isDay 127 = .ok (.iload 11, 2) := by decide +kernel
theorem dL_isDay_129 : decode cL_isDay 129 = .ok (.istore 11, 2) := by decide +kernel
theorem dL_isDay_131 : decode cL_isDay 131 = .ok (.iinc 14 (-1), 3) := by decide +kernel
theorem dL_isDay_134 : decode cL_isDay 134 = .ok (.goto (-41), 3) := by decide +kernel
theorem dL_isDay_137 : decode cL_isDay 137 = .ok (.iload 11, 2) := by decide +kernel
theorem dL_isDay_139 : decode cL_isDay 139 = .ok (.ifCond .lt 99, 3) := by decide +kernel
theorem dL_isDay_142 : decode cL_isDay 142 = .ok (.aload_n 0, 1) := by decide +kernel
theorem dL_isDay_143 : decode cL_isDay 143 = .ok (.iload 11, 2) := by decide +kernel
theorem dL_isDay_145 : decode cL_isDay 145 = .ok (.iconst 5, 1) := by decide +kernel
theorem dL_isDay_146 : decode cL_isDay 146 = .ok (.invokevirtual 14, 3) := by decide +kernel
theorem dL_isDay_149 : decode cL_isDay 149 = .ok (.sipush 1000, 3) := by decide +kernel
theorem dL_isDay_152 : decode cL_isDay 152 = .ok (.isub, 1) := by decide +kernel
theorem dL_isDay_153 : decode cL_isDay 153 = .ok (.aload_n 0, 1) := by decide +kernel
theorem dL_isDay_154 : decode cL_isDay 154 = .ok (.iconst 0, 1) := by decide +kernel
theorem dL_isDay_155 : decode cL_isDay 155 = .ok (.invokevirtual 8, 3) := by decide +kernel
theorem dL_isDay_158 : decode cL_isDay 158 = .ok (.if_icmp .lt 7, 3) := by decide +kernel
theorem dL_isDay_161 : decode cL_isDay 161 = .ok (.iconst 1, 1) := by decide +kernel
theorem dL_isDay_162 : decode cL_isDay 162 = .ok (.goto 4, 3) := by decide +kernel
theorem dL_isDay_165 : decode cL_isDay 165 = .ok (.iconst 0, 1) := by decide +kernel
theorem dL_isDay_166 : decode cL_isDay 166 = .ok (.istore 14, 2) := by decide +kernel
theorem dL_isDay_168 : decode cL_isDay 168 = .ok (.iload 14, 2) := by decide +kernel
theorem dL_isDay_170 : decode cL_isDay 170 = .ok (.ifCond .eq 8, 3) := by decide +kernel
theorem dL_isDay_173 : decode cL_isDay 173 = .ok (.iload 11, 2) := by decide +kernel
theorem dL_isDay_175 : decode cL_isDay 175 = .ok (.goto 5, 3) := by decide +kernel
theorem dL_isDay_178 : decode cL_isDay 178 = .ok (.bipush (-6), 2) := by decide +kernel
theorem dL_isDay_180 : decode cL_isDay 180 = .ok (.istore 12, 2) := by decide +kernel
theorem dL_isDay_182 : decode cL_isDay 182 = .ok (.iload 14, 2) := by decide +kernel
theorem dL_isDay_184 : decode cL_isDay 184 = .ok (.ifCond .eq 7, 3) := by decide +kernel
theorem dL_isDay_187 : decode cL_isDay 187 = .ok (.iconst 1, 1) := by decide +kernel
theorem dL_isDay_188 : decode cL_isDay 188 = .ok (.goto 4, 3) := by decide +kernel
theorem dL_isDay_191 : decode cL_isDay 191 = .ok (.iconst 0, 1) := by decide +kernel
theorem dL_isDay_192 : decode cL_isDay 192 = .ok (.istore 13, 2) := by decide +kernel
theorem dL_isDay_194 : decode cL_isDay 194 = .ok (.iload 14, 2) := by decide +kernel
theorem dL_isDay_196 : decode cL_isDay 196 = .ok (.ifCond .eq 8, 3) := by decide +kernel
theorem dL_isDay_199 : decode cL_isDay 199 = .ok (.iload 4, 2) := by decide +kernel
theorem dL_isDay_201 : decode cL_isDay 201 = .ok (.goto 17, 3) := by decide +kernel
theorem dL_isDay_204 : decode cL_isDay 204 = .ok (.iload 4, 2) := by decide +kernel
theorem dL_isDay_206 : decode cL_isDay 206 = .ok (.iconst 3, 1) := by decide +kernel
theorem dL_isDay_207 : decode cL_isDay 207 = .ok (.if_icmp .ge 7, 3) := by decide +kernel
theorem dL_isDay_210 : decode cL_isDay 210 = .ok (.iconst 0, 1) := by decide +kernel
theorem dL_isDay_211 : decode cL_isDay 211 = .ok (.goto 7, 3) := by decide +kernel
theorem dL_isDay_214 : decode cL_isDay 214 = .ok (.iload 4, 2) := by decide +kernel
theorem dL_isDay_216 : decode cL_isDay 216 = .ok (.iconst 3, 1) := by decide +kernel
theorem dL_isDay_217 : decode cL_isDay 217 = .ok (.isub, 1) := by decide +kernel
theorem dL_isDay_218 : decode cL_isDay 218 = .ok (.istore 4, 2) := by decide +kernel
theorem dL_isDay_220 : decode cL_isDay 220 = .ok (.iload 14, 2) := by decide +kernel
theorem dL_isDay_222 : decode cL_isDay 222 = .ok (.ifCond .eq 8, 3) := by decide +kernel
theorem dL_isDay_225 : decode cL_isDay 225 = .ok (.iload 10, 2) := by decide +kernel
theorem dL_isDay_227 : decode cL_isDay 227 = .ok (.goto 9, 3) := by decide +kernel
theorem dL_isDay_230 : decode cL_isDay 230 = .ok (.iload 11, 2) := by decide +kernel
theorem dL_isDay_232 : decode cL_isDay 232 = .ok (.iconst 1, 1) := by decide +kernel
theorem dL_isDay_233 : decode cL_isDay 233 = .ok (.iadd, 1) := by decide +kernel
theorem dL_isDay_234 : decode cL_isDay 234 = .ok (.iload_n 1, 1) := by decide +kernel
theorem dL_isDay_235 : decode cL_isDay 235 = .ok (.irem, 1) := by decide +kernel
theorem dL_isDay_236 : decode cL_isDay 236 = .ok (.istore 10, 2) := by decide +kernel
theorem dL_isDay_238 : decode cL_isDay 238 = .ok (.iconst 0, 1) := by decide +kernel
theorem dL_isDay_239 : decode cL_isDay 239 = .ok (.istore 14, 2) := by decide +kernel
theorem dL_isDay_241 : decode cL_isDay 241 = .ok (.iconst 0, 1) := by decide +kernel
theorem dL_isDay_242 : decode cL_isDay 242 = .ok (.istore 15, 2) := by decide +kernel
theorem dL_isDay_244 : decode cL_isDay 244 = .ok (.iconst 0, 1) := by decide +kernel
theorem dL_isDay_245 : decode cL_isDay 245 = .ok (.istore 16, 2) := by decide +kernel
theorem dL_isDay_247 : decode cL_isDay 247 = .ok (.iload_n 2, 1) := by decide +kernel
theorem dL_isDay_248 : decode cL_isDay 248 = .ok (.aload_n 0, 1) := by decide +kernel
theorem dL_isDay_249 : decode cL_isDay 249 = .ok (.iconst 3, 1) := by decide +kernel
theorem dL_isDay_250 : decode cL_isDay 250 = .ok (.invokevirtual 8, 3) := by decide +kernel
theorem dL_isDay_253 : decode cL_isDay 253 = .ok (.irem, 1) := by decide +kernel
theorem dL_isDay_254 : decode cL_isDay 254 = .ok (.ifCond .ne 124, 3) := by decide +kernel
theorem dL_isDay_257 : decode cL_isDay 257 = .ok (.iload 12, 2) := by decide +kernel
theorem dL_isDay_259 : decode cL_isDay 259 = .ok (.ifCond .ge 13, 3) := by decide +kernel
theorem dL_isDay_262 : decode cL_isDay 262 = .ok (.aload_n 0, 1) := by decide +kernel
theorem dL_isDay_263 : decode cL_isDay 263 = .ok (.iconst 1, 1) := by decide +kernel
theorem dL_isDay_264 : decode cL_isDay 264 = .ok (.invokevirtual 8, 3) := by decide +kernel
theorem dL_isDay_267 : decode cL_isDay 267 = .ok (.iconst 2, 1) := by decide +kernel
theorem dL_isDay_268 : decode cL_isDay 268 = .ok (.idiv, 1) := by decide +kernel
theorem dL_isDay_269 : decode cL_isDay 269 = .ok (.goto 8, 3) := by decide +kernel
theorem dL_isDay_272 : decode cL_isDay 272 = .ok (.aload_n 0, 1) := by decide +kernel
theorem dL_isDay_273 : decode cL_isDay 273 = .ok (.iconst 1, 1) := by decide +kernel
theorem dL_isDay_274 : decode cL_isDay 274 = .ok (.invokevirtual 8, 3) := by decide +kernel
theorem dL_isDay_277 : decode cL_isDay 277 = .ok (.istore 14, 2) := by decide +kernel
theorem dL_isDay_279 : decode cL_isDay 279 = .ok (.iload 14, 2) := by decide +kernel
theorem dL_isDay_281 : decode cL_isDay 281 = .ok (.iload 6, 2) := by decide +kernel
theorem dL_isDay_283 : decode cL_isDay 283 = .ok (.if_icmp .ge 8, 3) := by decide +kernel
theorem dL_isDay_286 : decode cL_isDay 286 = .ok (.iload 14, 2) := by decide +kernel
theorem dL_isDay_288 : decode cL_isDay 288 = .ok (.goto 5, 3) := by decide +kernel
theorem dL_isDay_291 : decode cL_isDay 291 = .ok (.iload 6, 2) := by decide +kernel
theorem dL_isDay_293 : decode cL_isDay 293 = .ok (.istore 14, 2) := by decide +kernel
theorem dL_isDay_295 : decode cL_isDay 295 = .ok (.iload 12, 2) := by decide +kernel
theorem dL_isDay_297 : decode cL_isDay 297 = .ok (.ifCond .ge 8, 3) := by decide +kernel
theorem dL_isDay_300 : decode cL_isDay 300 = .ok (.iload 14, 2) := by decide +kernel
theorem dL_isDay_302 : decode cL_isDay 302 = .ok (.goto 16, 3) := by decide +kernel
theorem dL_isDay_305 : decode cL_isDay 305 = .ok (.iload 14, 2) := by decide +kernel
theorem dL_isDay_307 : decode cL_isDay 307 = .ok (.aload_n 0, 1) := by decide +kernel
theorem dL_isDay_308 : decode cL_isDay 308 = .ok (.iload 12, 2) := by decide +kernel
theorem dL_isDay_310 : decode cL_isDay 310 = .ok (.iconst 1, 1) := by decide +kernel
theorem dL_isDay_311 : decode cL_isDay 311 = .ok (.invokevirtual 14, 3) := by decide +kernel
theorem dL_isDay_314 : decode cL_isDay 314 = .ok (.imul, 1) := by decide +kernel
theorem dL_isDay_315 : decode cL_isDay 315 = .ok (.bipush 100, 2) := by decide +kernel
theorem dL_isDay_317 : decode cL_isDay 317 = .ok (.idiv, 1) := by decide +kernel
theorem dL_isDay_318 : decode cL_isDay 318 = .ok (.istore 15, 2) := by decide +kernel
theorem dL_isDay_320 : decode cL_isDay 320 = .ok (.iload 12, 2) := by decide +kernel
theorem dL_isDay_322 : decode cL_isDay 322 = .ok (.ifCond .ge 8, 3) := by decide +kernel
theorem dL_isDay_325 : decode cL_isDay 325 = .ok (.iload 4, 2) := by decide +kernel
theorem dL_isDay_327 : decode cL_isDay 327 = .ok (.goto 27, 3) := by decide +kernel
theorem dL_isDay_330 : decode cL_isDay 330 = .ok (.iload 4, 2) := by decide +kernel
theorem dL_isDay_332 : decode cL_isDay 332 = .ok (.iload 15, 2) := by decide +kernel
theorem dL_isDay_334 : decode cL_isDay 334 = .ok (.iconst 2, 1) := by decide +kernel
theorem dL_isDay_335 : decode cL_isDay 335 = .ok (.idiv, 1) := by decide +kernel
theorem dL_isDay_336 : decode cL_isDay 336 = .ok (.iadd, 1) := by decide +kernel
theorem dL_isDay_337 : decode cL_isDay 337 = .ok (.bipush 99, 2) := by decide +kernel
theorem dL_isDay_339 : decode cL_isDay 339 = .ok (.if_icmp .le 8, 3) := by decide +kernel
theorem dL_isDay_342 : decode cL_isDay 342 = .ok (.bipush 99, 2) := by decide +kernel
theorem dL_isDay_344 : decode cL_isDay 344 = .ok (.goto 10, 3) := by decide +kernel
theorem dL_isDay_347 : decode cL_isDay 347 = .ok (.iload 4, 2) := by decide +kernel
theorem dL_isDay_349 : decode cL_isDay 349 = .ok (.iload 15, 2) := by decide +kernel
theorem dL_isDay_351 : decode cL_isDay 351 = .ok (.iconst 2, 1) := by decide +kernel
theorem dL_isDay_352 : decode cL_isDay 352 = .ok (.idiv, 1) := by decide +kernel
theorem dL_isDay_353 : decode cL_isDay 353 = .ok (.iadd, 1) := by decide +kernel
theorem dL_isDay_354 : decode cL_isDay 354 = .ok (.istore 4, 2) := by decide +kernel
theorem dL_isDay_356 : decode cL_isDay 356 = .ok (.iload 12, 2) := by decide +kernel
theorem dL_isDay_358 : decode cL_isDay 358 = .ok (.ifCond .lt 17, 3) := by decide +kernel
theorem dL_isDay_361 : decode cL_isDay 361 = .ok (.iload 4, 2) := by decide +kernel
theorem dL_isDay_363 : decode cL_isDay 363 = .ok (.aload_n 0, 1) := by decide +kernel
theorem dL_isDay_364 : decode cL_isDay 364 = .ok (.iconst 5, 1) := by decide +kernel
theorem dL_isDay_365 : decode cL_isDay 365 = .ok (.invokevirtual 8, 3) := by decide +kernel
theorem dL_isDay_368 : decode cL_isDay 368 = .ok (.if_icmp .ge 7, 3) := by decide +kernel
theorem dL_isDay_371 : decode cL_isDay 371 = .ok (.iconst 1, 1) := by decide +kernel
theorem dL_isDay_372 : decode cL_isDay 372 = .ok (.goto 4, 3) := by decide +kernel
theorem dL_isDay_375 : decode cL_isDay 375 = .ok (.iconst 0, 1) := by decide +kernel
theorem dL_isDay_376 : decode cL_isDay 376 = .ok (.istore 16, 2) := by decide +kernel
theorem dL_isDay_378 : decode cL_isDay 378 = .ok (.iload 4, 2) := by decide +kernel
theorem dL_isDay_380 : decode cL_isDay 380 = .ok (.iload 4, 2) := by decide +kernel
theorem dL_isDay_382 : decode cL_isDay 382 = .ok (.bipush 50, 2) := by decide +kernel
theorem dL_isDay_384 : decode cL_isDay 384 = .ok (.if_icmp .ge 7, 3) := by decide +kernel
theorem dL_isDay_387 : decode cL_isDay 387 = .ok (.iconst 1, 1) := by decide +kernel
theorem dL_isDay_388 : decode cL_isDay 388 = .ok (.goto 15, 3) := by decide +kernel
theorem dL_isDay_391 : decode cL_isDay 391 = .ok (.iload 4, 2) := by decide +kernel
theorem dL_isDay_393 : decode cL_isDay 393 = .ok (.bipush 50, 2) := by decide +kernel
theorem dL_isDay_395 : decode cL_isDay 395 = .ok (.if_icmp .le 7, 3) := by decide +kernel
theorem dL_isDay_398 : decode cL_isDay 398 = .ok (.iconst (-1), 1) := by decide +kernel
theorem dL_isDay_399 : decode cL_isDay 399 = .ok (.goto 4, 3) := by decide +kernel
theorem dL_isDay_402 : decode cL_isDay 402 = .ok (.iconst 0, 1) := by decide +kernel
theorem dL_isDay_403 : decode cL_isDay 403 = .ok (.iadd, 1) := by decide +kernel
theorem dL_isDay_404 : decode cL_isDay 404 = .ok (.istore 4, 2) := by decide +kernel
theorem dL_isDay_406 : decode cL_isDay 406 = .ok (.iload 16, 2) := by decide +kernel
theorem dL_isDay_408 : decode cL_isDay 408 = .ok (.ifCond .eq 8, 3) := by decide +kernel
theorem dL_isDay_411 : decode cL_isDay 411 = .ok (.bipush (-6), 2) := by decide +kernel
theorem dL_isDay_413 : decode cL_isDay 413 = .ok (.goto 5, 3) := by decide +kernel
theorem dL_isDay_416 : decode cL_isDay 416 = .ok (.iload 12, 2) := by decide +kernel
theorem dL_isDay_418 : decode cL_isDay 418 = .ok (.istore 17, 2) := by decide +kernel
theorem dL_isDay_420 : decode cL_isDay 420 = .ok (.aload_n 0, 1) := by decide +kernel
theorem dL_isDay_421 : decode cL_isDay 421 = .ok (.iconst 1, 1) := by decide +kernel
theorem dL_isDay_422 : decode cL_isDay 422 = .ok (.invokevirtual 18, 3) := by decide +kernel
theorem dL_isDay_425 : decode cL_isDay 425 = .ok (.iload 13, 2) := by decide +kernel
theorem dL_isDay_427 : decode cL_isDay 427 = .ok (.if_icmp .eq 5, 3) := by decide +kernel
theorem dL_isDay_430 : decode cL_isDay 430 = .ok (.iconst 0, 1) := by decide +kernel
theorem dL_isDay_431 : decode cL_isDay 431 = .ok (.ireturn, 1) := by decide +kernel
theorem dL_isDay_432 : decode cL_isDay 432 = .ok (.aload_n 0, 1) := by decide +kernel
theorem dL_isDay_433 : decode cL_isDay 433 = .ok (.bipush 6, 2) := by decide +kernel
theorem dL_isDay_435 : decode cL_isDay 435 = .ok (.invokevirtual 8, 3) := by decide +kernel
theorem dL_isDay_438 : decode cL_isDay 438 = .ok (.iload_n 2, 1) := by decide +kernel
theorem dL_isDay_439 : decode cL_isDay 439 = .ok (.if_icmp .ne 152, 3) := by decide +kernel
theorem dL_isDay_442 : decode cL_isDay 442 = .ok (.aload_n 0, 1) := by decide +kernel
theorem dL_isDay_443 : decode cL_isDay 443 = .ok (.bipush 8, 2) := by decide +kernel
theorem dL_isDay_445 : decode cL_isDay 445 = .ok (.invokevirtual 8, 3) := by decide +kernel
theorem dL_isDay_448 : decode cL_isDay 448 = .ok (.iload 4, 2) := by decide +kernel
theorem dL_isDay_450 : decode cL_isDay 450 = .ok (.if_icmp .ne 141, 3) := by decide +kernel
theorem dL_isDay_453 : decode cL_isDay 453 = .ok (.aload_n 0, 1) := by decide +kernel
theorem dL_isDay_454 : decode cL_isDay 454 = .ok (.bipush 9, 2) := by decide +kernel
theorem dL_isDay_456 : decode cL_isDay 456 = .ok (.invokevirtual 8, 3) := by decide +kernel
theorem dL_isDay_459 : decode cL_isDay 459 = .ok (.iload 17, 2) := by decide +kernel
theorem dL_isDay_461 : decode cL_isDay 461 = .ok (.if_icmp .ne 130, 3) := by decide +kernel
theorem dL_isDay_464 : decode cL_isDay 464 = .ok (.iload 17, 2) := by decide +kernel
theorem dL_isDay_466 : decode cL_isDay 466 = .ok (.ifCond .ge 27, 3) := by decide +kernel
theorem dL_isDay_469 : decode cL_isDay 469 = .ok (.iload_n 1, 1) := by decide +kernel
theorem dL_isDay_470 : decode cL_isDay 470 = .ok (.ifCond .eq 23, 3) := by decide +kernel
theorem dL_isDay_473 : decode cL_isDay 473 = .ok (.aload_n 0, 1) := by decide +kernel
theorem dL_isDay_474 : decode cL_isDay 474 = .ok (.bipush 10, 2) := by decide +kernel
theorem dL_isDay_476 : decode cL_isDay 476 = .ok (.invokevirtual 8, 3) := by decide +kernel
theorem dL_isDay_479 : decode cL_isDay 479 = .ok (.iload 16, 2) := by decide +kernel
theorem dL_isDay_481 : decode cL_isDay 481 = .ok (.ifCond .eq 7, 3) := by decide +kernel
theorem dL_isDay_484 : decode cL_isDay 484 = .ok (.iconst 0, 1) := by decide +kernel
theorem dL_isDay_485 : decode cL_isDay 485 = .ok (.goto 5, 3) := by decide +kernel
theorem dL_isDay_488 : decode cL_isDay 488 = .ok (.iload 10, 2) := by decide +kernel
theorem dL_isDay_490 : decode cL_isDay 490 = .ok (.if_icmp .ne 101, 3) := by decide +kernel
theorem dL_isDay_493 : decode cL_isDay 493 = .ok (.aload_n 0, 1) := by decide +kernel
theorem dL_isDay_494 : decode cL_isDay 494 = .ok (.bipush 11, 2) := by decide +kernel
theorem dL_isDay_496 : decode cL_isDay 496 = .ok (.invokevirtual 8, 3) := by decide +kernel
theorem dL_isDay_499 : decode cL_isDay 499 = .ok (.iload 6, 2) := by decide +kernel
theorem dL_isDay_501 : decode cL_isDay 501 = .ok (.iload 14, 2) := by decide +kernel
theorem dL_isDay_503 : decode cL_isDay 503 = .ok (.isub, 1) := by decide +kernel
theorem dL_isDay_504 : decode cL_isDay 504 = .ok (.if_icmp .ne 87, 3) := by decide +kernel
theorem dL_isDay_507 : decode cL_isDay 507 = .ok (.aload_n 0, 1) := by decide +kernel
theorem dL_isDay_508 : decode cL_isDay 508 = .ok (.bipush 16, 2) := by decide +kernel
theorem dL_isDay_510 : decode cL_isDay 510 = .ok (.invokevirtual 8, 3) := by decide +kernel
theorem dL_isDay_513 : decode cL_isDay 513 = .ok (.iload 7, 2) := by decide +kernel
theorem dL_isDay_515 : decode cL_isDay 515 = .ok (.iload 15, 2) := by decide +kernel
theorem dL_isDay_517 : decode cL_isDay 517 = .ok (.iadd, 1) := by decide +kernel
theorem dL_isDay_518 : decode cL_isDay 518 = .ok (.if_icmp .ne 73, 3) := by decide +kernel
theorem dL_isDay_521 : decode cL_isDay 521 = .ok (.aload_n 0, 1) := by decide +kernel
theorem dL_isDay_522 : decode cL_isDay 522 = .ok (.bipush 17, 2) := by decide +kernel
theorem dL_isDay_524 : decode cL_isDay 524 = .ok (.invokevirtual 8, 3) := by decide +kernel
theorem dL_isDay_527 : decode cL_isDay 527 = .ok (.iload 5, 2) := by decide +kernel
theorem dL_isDay_529 : decode cL_isDay 529 = .ok (.iload 14, 2) := by decide +kernel
theorem dL_isDay_531 : decode cL_isDay 531 = .ok (.iadd, 1) := by decide +kernel
theorem dL_isDay_532 : decode cL_isDay 532 = .ok (.iload 15, 2) := by decide +kernel
theorem dL_isDay_534 : decode cL_isDay 534 = .ok (.isub, 1) := by decide +kernel
theorem dL_isDay_535 : decode cL_isDay 535 = .ok (.if_icmp .ne 56, 3) := by decide +kernel
theorem dL_isDay_538 : decode cL_isDay 538 = .ok (.aload_n 0, 1) := by decide +kernel
theorem dL_isDay_539 : decode cL_isDay 539 = .ok (.bipush 15, 2) := by decide +kernel
theorem dL_isDay_541 : decode cL_isDay 541 = .ok (.invokevirtual 8, 3) := by decide +kernel
theorem dL_isDay_544 : decode cL_isDay 544 = .ok (.iload 8, 2) := by decide +kernel
theorem dL_isDay_546 : decode cL_isDay 546 = .ok (.iload 16, 2) := by decide +kernel
theorem dL_isDay_548 : decode cL_isDay 548 = .ok (.ifCond .eq 7, 3) := by decide +kernel
theorem dL_isDay_551 : decode cL_isDay 551 = .ok (.iconst 1, 1) := by decide +kernel
theorem dL_isDay_552 : decode cL_isDay 552 = .ok (.goto 4, 3) := by decide +kernel
theorem dL_isDay_555 : decode cL_isDay 555 = .ok (.iconst 0, 1) := by decide +kernel
theorem dL_isDay_556 : decode cL_isDay 556 = .ok (.iadd, 1) := by decide +kernel
theorem dL_isDay_557 : decode cL_isDay 557 = .ok (.if_icmp .ne 34, 3) := by decide +kernel
theorem dL_isDay_560 : decode cL_isDay 560 = .ok (.aload_n 0, 1) := by decide +kernel
theorem dL_isDay_561 : decode cL_isDay 561 = .ok (.bipush 13, 2) := by decide +kernel
theorem dL_isDay_563 : decode cL_isDay 563 = .ok (.invokevirtual 8, 3) := by decide +kernel
theorem dL_isDay_566 : decode cL_isDay 566 = .ok (.iload 9, 2) := by decide +kernel
theorem dL_isDay_568 : decode cL_isDay 568 = .ok (.iload 11, 2) := by decide +kernel
theorem dL_isDay_570 : decode cL_isDay 570 = .ok (.ifCond .lt 12, 3) := by decide +kernel
theorem dL_isDay_573 : decode cL_isDay 573 = .ok (.iload 13, 2) := by decide +kernel
theorem dL_isDay_575 : decode cL_isDay 575 = .ok (.ifCond .ne 7, 3) := by decide +kernel
theorem dL_isDay_578 : decode cL_isDay 578 = .ok (.iconst 1, 1) := by decide +kernel
theorem dL_isDay_579 : decode cL_isDay 579 = .ok (.goto 4, 3) := by decide +kernel
theorem dL_isDay_582 : decode cL_isDay 582 = .ok (.iconst 0, 1) := by decide +kernel
theorem dL_isDay_583 : decode cL_isDay 583 = .ok (.iadd, 1) := by decide +kernel
theorem dL_isDay_584 : decode cL_isDay 584 = .ok (.if_icmp .ne 7, 3) := by decide +kernel
theorem dL_isDay_587 : decode cL_isDay 587 = .ok (.iconst 1, 1) := by decide +kernel
theorem dL_isDay_588 : decode cL_isDay 588 = .ok (.goto 4, 3) := by decide +kernel
theorem dL_isDay_591 : decode cL_isDay 591 = .ok (.iconst 0, 1) := by decide +kernel
theorem dL_isDay_592 : decode cL_isDay 592 = .ok (.ireturn, 1) := by decide +kernel
theorem dL_areDays_0 : decode cL_areDays 0 = .ok (.aload_n 0, 1) := by decide +kernel
theorem dL_areDays_1 : decode cL_areDays 1 = .ok (.iload_n 1, 1) := by decide +kernel
theorem dL_areDays_2 : decode cL_areDays 2 = .ok (.iconst 0, 1) := by decide +kernel
theorem dL_areDays_3 : decode cL_areDays 3 = .ok (.invokevirtual 21, 3) := by decide +kernel
theorem dL_areDays_6 : decode cL_areDays 6 = .ok (.istore_n 2, 1) := by decide +kernel
theorem dL_areDays_7 : decode cL_areDays 7 = .ok (.aload_n 0, 1) := by decide +kernel
theorem dL_areDays_8 : decode cL_areDays 8 = .ok (.iload_n 1, 1) := by decide +kernel
theorem dL_areDays_9 : decode cL_areDays 9 = .ok (.iconst 1, 1) := by decide +kernel
theorem dL_areDays_10 : decode cL_areDays 10 = .ok (.invokevirtual 21, 3) := by decide +kernel
theorem dL_areDays_13 : decode cL_areDays 13 = .ok (.istore_n 3, 1) := by decide +kernel
theorem dL_areDays_14 : decode cL_areDays 14 = .ok (.aload_n 0, 1) := by decide +kernel
theorem dL_areDays_15 : decode cL_areDays 15 = .ok (.iload_n 1, 1) := by decide +kernel
theorem dL_areDays_16 : decode cL_areDays 16 = .ok (.iconst 2, 1) := by decide +kernel
theorem dL_areDays_17 : decode cL_areDays 17 = .ok (.invokevirtual 21, 3) := by decide +kernel
theorem dL_areDays_20 : decode cL_areDays 20 = .ok (.istore 4, 2) := by decide +kernel
theorem dL_areDays_22 : decode cL_areDays 22 = .ok (.aload_n 0, 1) := by decide +kernel
theorem dL_areDays_23 : decode cL_areDays 23 = .ok (.iload_n 1, 1) := by decide +kernel
theorem dL_areDays_24 : decode cL_areDays 24 = .ok (.iconst 3, 1) := by decide +kernel
theorem dL_areDays_25 : decode cL_areDays 25 = .ok (.invokevirtual 21, 3) := by decide +kernel
theorem dL_areDays_28 : decode cL_areDays 28 = .ok (.istore 5, 2) := by decide +kernel
theorem dL_areDays_30 : decode cL_areDays 30 = .ok (.aload_n 0, 1) := by decide +kernel
theorem dL_areDays_31 : decode cL_areDays 31 = .ok (.iload_n 1, 1) := by decide +kernel
theorem dL_areDays_32 : decode cL_areDays 32 = .ok (.iconst 4, 1) := by decide +kernel
theorem dL_areDays_33 : decode cL_areDays 33 = .ok (.invokevirtual 21, 3) := by decide +kernel
theorem dL_areDays_36 : decode cL_areDays 36 = .ok (.istore 6, 2) := by decide +kernel
theorem dL_areDays_38 : decode cL_areDays 38 = .ok (.aload_n 0, 1) := by decide +kernel
theorem dL_areDays_39 : decode cL_areDays 39 = .ok (.iconst 0, 1) := by decide +kernel
theorem dL_areDays_40 : decode cL_areDays 40 = .ok (.invokevirtual 24, 3) := by decide +kernel
theorem dL_areDays_43 : decode cL_areDays 43 = .ok (.istore 7, 2) := by decide +kernel
theorem dL_areDays_45 : decode cL_areDays 45 = .ok (.aload_n 0, 1) := by decide +kernel
theorem dL_areDays_46 : decode cL_areDays 46 = .ok (.iconst 1, 1) := by decide +kernel
theorem dL_areDays_47 : decode cL_areDays 47 = .ok (.invokevirtual 24, 3) := by decide +kernel
theorem dL_areDays_50 : decode cL_areDays 50 = .ok (.istore 8, 2) := by decide +kernel
theorem dL_areDays_52 : decode cL_areDays 52 = .ok (.aload_n 0, 1) := by decide +kernel
theorem dL_areDays_53 : decode cL_areDays 53 = .ok (.invokevirtual 27, 3) := by decide +kernel
theorem dL_areDays_56 : decode cL_areDays 56 = .ok (.istore 9, 2) := by decide +kernel
theorem dL_areDays_58 : decode cL_areDays 58 = .ok (.aload_n 0, 1) := by decide +kernel
theorem dL_areDays_59 : decode cL_areDays 59 = .ok (.bipush 13, 2) := by decide +kernel
theorem dL_areDays_61 : decode cL_areDays 61 = .ok (.invokevirtual 8, 3) := by decide +kernel
theorem dL_areDays_64 : decode cL_areDays 64 = .ok (.istore 10, 2) := by decide +kernel
theorem dL_areDays_66 : decode cL_areDays 66 = .ok (.aload_n 0, 1) := by decide +kernel
theorem dL_areDays_67 : decode cL_areDays 67 = .ok (.bipush 16, 2) := by decide +kernel
theorem dL_areDays_69 : decode cL_areDays 69 = .ok (.invokevirtual 8, 3) := by decide +kernel
theorem dL_areDays_72 : decode cL_areDays 72 = .ok (.istore 11, 2) := by decide +kernel
theorem dL_areDays_74 : decode cL_areDays 74 = .ok (.iload 7, 2) := by decide +kernel
theorem dL_areDays_76 : decode cL_areDays 76 = .ok (.ifCond .ge 7, 3) := by decide +kernel
theorem dL_areDays_79 : decode cL_areDays 79 = .ok (.iconst 0, 1) := by decide +kernel
theorem dL_areDays_80 : decode cL_areDays 80 = .ok (.goto 11, 3) := by decide +kernel
theorem dL_areDays_83 : decode cL_areDays 83 = .ok (.aload_n 0, 1) := by decide +kernel
theorem dL_areDays_84 : decode cL_areDays 84 = .ok (.iload 7, 2) := by decide +kernel
theorem dL_areDays_86 : decode cL_areDays 86 = .ok (.bipush 6, 2) := by decide +kernel
theorem dL_areDays_88 : decode cL_areDays 88 = .ok (.invokevirtual 14, 3) := by decide +kernel
theorem dL_areDays_91 : decode cL_areDays 91 = .ok (.istore 12, 2) := by decide +kernel
theorem dL_areDays_93 : decode cL_areDays 93 = .ok (.iload 7, 2) := by decide +kernel
theorem dL_areDays_95 : decode cL_areDays 95 = .ok (.ifCond .ge 7, 3) := by decide +kernel
theorem dL_areDays_98 : decode cL_areDays 98 = .ok (.iconst 1, 1) := by decide +kernel
theorem dL_areDays_99 : decode cL_areDays 99 = .ok (.goto 4, 3) := by decide +kernel
theorem dL_areDays_102 : decode cL_areDays 102 = .ok (.iconst 0, 1) := by decide +kernel
theorem dL_areDays_103 : decode cL_areDays 103 = .ok (.iload 8, 2) := by decide +kernel
theorem dL_areDays_105 : decode cL_areDays 105 = .ok (.ifCond .ge 7, 3) := by decide +kernel
theorem dL_areDays_108 : decode cL_areDays 108 = .ok (.iconst 1, 1) := by decide +kernel
theorem dL_areDays_109 : decode cL_areDays 109 = .ok (.goto 4, 3) := by decide +kernel
theorem dL_areDays_112 : decode cL_areDays 112 = .ok (.iconst 0, 1) := by decide +kernel
theorem dL_areDays_113 : decode cL_areDays 113 = .ok (.if_icmp .ne 58, 3) := by decide +kernel
theorem dL_areDays_116 : decode cL_areDays 116 = .ok (.iload 9, 2) := by decide +kernel
theorem dL_areDays_118 : decode cL_areDays 118 = .ok (.ifCond .ne 7, 3) := by decide +kernel
theorem dL_areDays_121 : decode cL_areDays 121 = .ok (.iconst 1, 1) := by decide +kernel
theorem dL_areDays_122 : decode cL_areDays 122 = .ok (.goto 4, 3) := by decide +kernel
theorem dL_areDays_125 : decode cL_areDays 125 = .ok (.iconst 0, 1) := by decide +kernel
theorem dL_areDays_126 : decode cL_areDays 126 = .ok (.aload_n 0, 1) := by decide +kernel
theorem dL_areDays_127 : decode cL_areDays 127 = .ok (.bipush 11, 2) := by decide +kernel
theorem dL_areDays_129 : decode cL_areDays 129 = .ok (.invokevirtual 8, 3) := by decide +kernel
theorem dL_areDays_132 : decode cL_areDays 132 = .ok (.ifCond .ne 7, 3) := by decide +kernel
theorem dL_areDays_135 : decode cL_areDays 135 = .ok (.iconst 1, 1) := by decide +kernel
theorem dL_areDays_136 : decode cL_areDays 136 = .ok (.goto 4, 3) := by decide +kernel
theorem dL_areDays_139 : decode cL_areDays 139 = .ok (.iconst 0, 1) := by decide +kernel
theorem dL_areDays_140 : decode cL_areDays 140 = .ok (.if_icmp .ne 31, 3) := by decide +kernel
theorem dL_areDays_143 : decode cL_areDays 143 = .ok (.iload_n 2, 1) := by decide +kernel
theorem dL_areDays_144 : decode cL_areDays 144 = .ok (.ifCond .le 7, 3) := by decide +kernel
theorem dL_areDays_147 : decode cL_areDays 147 = .ok (.iconst 1, 1) := by decide +kernel
theorem dL_areDays_148 : decode cL_areDays 148 = .ok (.goto 4, 3) := by decide +kernel
theorem dL_areDays_151 : decode cL_areDays 151 = .ok (.iconst 0, 1) := by decide +kernel
theorem dL_areDays_152 : decode cL_areDays 152 = .ok (.iload 8, 2) := by decide +kernel
theorem dL_areDays_154 : decode cL_areDays 154 = .ok (.ifCond .le 13, 3) := by decide +kernel
theorem dL_areDays_157 : decode cL_areDays 157 = .ok (.iload 8, 2) := by decide +kernel
theorem dL_areDays_159 : decode cL_areDays 159 = .ok (.iload_n 1, 1) := by decide +kernel
theorem dL_areDays_160 : decode cL_areDays 160 = .ok (.if_icmp .gt 7, 3) := by decide +kernel
theorem dL_areDays_163 : decode cL_areDays 163 = .ok (.iconst 1, 1) := by decide +kernel
theorem dL_areDays_164 : decode cL_areDays 164 = .ok (.goto 4, 3) := by decide +kernel
theorem dL_areDays_167 : decode cL_areDays 167 = .ok (.iconst 0, 1) := by decide +kernel
theorem dL_areDays_168 : decode cL_areDays 168 = .ok (.if_icmp .eq 5, 3) := by decide +kernel
theorem dL_areDays_171 : decode cL_areDays 171 = .ok (.iconst 0, 1) := by decide +kernel
theorem dL_areDays_172 : decode cL_areDays 172 = .ok (.ireturn, 1) := by decide +kernel
theorem dL_areDays_173 : decode cL_areDays 173 = .ok (.aload_n 0, 1) := by decide +kernel
theorem dL_areDays_174 : decode cL_areDays 174 = .ok (.iload_n 1, 1) := by decide +kernel
theorem dL_areDays_175 : decode cL_areDays 175 = .ok (.invokevirtual 18, 3) := by decide +kernel
theorem dL_areDays_178 : decode cL_areDays 178 = .ok (.iload_n 2, 1) := by decide +kernel
theorem dL_areDays_179 : decode cL_areDays 179 = .ok (.if_icmp .ne 52, 3) := by decide +kernel
theorem dL_areDays_182 : decode cL_areDays 182 = .ok (.aload_n 0, 1) := by decide +kernel
theorem dL_areDays_183 : decode cL_areDays 183 = .ok (.bipush 13, 2) := by decide +kernel
theorem dL_areDays_185 : decode cL_areDays 185 = .ok (.invokevirtual 8, 3) := by decide +kernel
theorem dL_areDays_188 : decode cL_areDays 188 = .ok (.iload 10, 2) := by decide +kernel
theorem dL_areDays_190 : decode cL_areDays 190 = .ok (.iload_n 3, 1) := by decide +kernel
theorem dL_areDays_191 : decode cL_areDays 191 = .ok (.iadd, 1) := by decide +kernel
theorem dL_areDays_192 : decode cL_areDays 192 = .ok (.if_icmp .ne 39, 3) := by decide +kernel
theorem dL_areDays_195 : decode cL_areDays 195 = .ok (.aload_n 0, 1) := by decide +kernel
theorem dL_areDays_196 : decode cL_areDays 196 = .ok (.bipush 16, 2) := by decide +kernel
theorem dL_areDays_198 : decode cL_areDays 198 = .ok (.invokevirtual 8, 3) := by decide +kernel
theorem dL_areDays_201 : decode cL_areDays 201 = .ok (.iload 11, 2) := by decide +kernel
theorem dL_areDays_203 : decode cL_areDays 203 = .ok (.iload 4, 2) := by decide +kernel
theorem dL_areDays_205 : decode cL_areDays 205 = .ok (.iadd, 1) := by decide +kernel
theorem dL_areDays_206 : decode cL_areDays 206 = .ok (.if_icmp .ne 25, 3) := by decide +kernel
theorem dL_areDays_209 : decode cL_areDays 209 = .ok (.aload_n 0, 1) := by decide +kernel
theorem dL_areDays_210 : decode cL_areDays 210 = .ok (.bipush 8, 2) := by decide +kernel
theorem dL_areDays_212 : decode cL_areDays 212 = .ok (.invokevirtual 8, 3) := by decide +kernel
theorem dL_areDays_215 : decode cL_areDays 215 = .ok (.iload 5, 2) := by decide +kernel
theorem dL_areDays_217 : decode cL_areDays 217 = .ok (.if_icmp .ne 14, 3) := by decide +kernel
theorem dL_areDays_220 : decode cL_areDays 220 = .ok (.aload_n 0, 1) := by decide +kernel
theorem dL_areDays_221 : decode cL_areDays 221 = .ok (.bipush 9, 2) := by decide +kernel
theorem dL_areDays_223 : decode cL_areDays 223 = .ok (.invokevirtual 8, 3) := by decide +kernel
theorem dL_areDays_226 : decode cL_areDays 226 = .ok (.iload 6, 2) := by decide +kernel
theorem dL_areDays_228 : decode cL_areDays 228 = .ok (.if_icmp .eq 5, 3) := by decide +kernel
theorem dL_areDays_231 : decode cL_areDays 231 = .ok (.iconst 0, 1) := by decide +kernel
theorem dL_areDays_232 : decode cL_areDays 232 = .ok (.ireturn, 1) := by decide +kernel
theorem dL_areDays_233 : decode cL_areDays 233 = .ok (.iload_n 2, 1) := by decide +kernel
theorem dL_areDays_234 : decode cL_areDays 234 = .ok (.ifCond .eq 16, 3) := by decide +kernel
theorem dL_areDays_237 : decode cL_areDays 237 = .ok (.aload_n 0, 1) := by decide +kernel
theorem dL_areDays_238 : decode cL_areDays 238 = .ok (.iload 7, 2) := by decide +kernel
theorem dL_areDays_240 : decode cL_areDays 240 = .ok (.bipush 6, 2) := by decide +kernel
theorem dL_areDays_242 : decode cL_areDays 242 = .ok (.invokevirtual 14, 3) := by decide +kernel
theorem dL_areDays_245 : decode cL_areDays 245 = .ok (.iload 12, 2) := by decide +kernel
theorem dL_areDays_247 : decode cL_areDays 247 = .ok (.if_icmp .le 40, 3) := by decide +kernel
theorem dL_areDays_250 : decode cL_areDays 250 = .ok (.iload 9, 2) := by decide +kernel
theorem dL_areDays_252 : decode cL_areDays 252 = .ok (.ifCond .lt 13, 3) := by decide +kernel
theorem dL_areDays_255 : decode cL_areDays 255 = .ok (.iload 9, 2) := by decide +kernel
theorem dL_areDays_257 : decode cL_areDays 257 = .ok (.iload_n 1, 1) := by decide +kernel
theorem dL_areDays_258 : decode cL_areDays 258 = .ok (.if_icmp .gt 7, 3) := by decide +kernel
theorem dL_areDays_261 : decode cL_areDays 261 = .ok (.iconst 1, 1) := by decide +kernel
theorem dL_areDays_262 : decode cL_areDays 262 = .ok (.goto 4, 3) := by decide +kernel
theorem dL_areDays_265 : decode cL_areDays 265 = .ok (.iconst 0, 1) := by decide +kernel
theorem dL_areDays_266 : decode cL_areDays 266 = .ok (.aload_n 0, 1) := by decide +kernel
theorem dL_areDays_267 : decode cL_areDays 267 = .ok (.bipush 11, 2) := by decide +kernel
theorem dL_areDays_269 : decode cL_areDays 269 = .ok (.invokevirtual 8, 3) := by decide +kernel
theorem dL_areDays_272 : decode cL_areDays 272 = .ok (.ifCond .ne 7, 3) := by decide +kernel
theorem dL_areDays_275 : decode cL_areDays 275 = .ok (.iconst 1, 1) := by decide +kernel
theorem dL_areDays_276 : decode cL_areDays 276 = .ok (.goto 4, 3) := by decide +kernel
theorem dL_areDays_279 : decode cL_areDays 279 = .ok (.iconst 0, 1) := by decide +kernel
theorem dL_areDays_280 : decode cL_areDays 280 = .ok (.if_icmp .ne 7, 3) := by decide +kernel
theorem dL_areDays_283 : decode cL_areDays 283 = .ok (.iconst 1, 1) := by decide +kernel
theorem dL_areDays_284 : decode cL_areDays 284 = .ok (.goto 4, 3) := by decide +kernel
theorem dL_areDays_287 : decode cL_areDays 287 = .ok (.iconst 0, 1) := by decide +kernel
theorem dL_areDays_288 : decode cL_areDays 288 = .ok (.ireturn, 1) := by decide +kernel
theorem dL_isAppeal_0 : decode cL_isAppeal 0 = .ok (.aload_n 0, 1) := by decide +kernel
theorem dL_isAppeal_1 : decode cL_isAppeal 1 = .ok (.bipush 9, 2) := by decide +kernel
theorem dL_isAppeal_3 : decode cL_isAppeal 3 = .ok (.invokevirtual 8, 3) := by decide +kernel
theorem dL_isAppeal_6 : decode cL_isAppeal 6 = .ok (.istore_n 2, 1) := by decide +kernel
theorem dL_isAppeal_7 : decode cL_isAppeal 7 = .ok (.aload_n 0, 1) := by decide +kernel
theorem dL_isAppeal_8 : decode cL_isAppeal 8 = .ok (.iload_n 1, 1) := by decide +kernel
theorem dL_isAppeal_9 : decode cL_isAppeal 9 = .ok (.bipush 8, 2) := by decide +kernel
theorem dL_isAppeal_11 : decode cL_isAppeal 11 = .ok (.invokevirtual 14, 3) := by decide +kernel
theorem dL_isAppeal_14 : decode cL_isAppeal 14 = .ok (.iconst 1, 1) := by decide +kernel
theorem dL_isAppeal_15 : decode cL_isAppeal 15 = .ok (.if_icmp .ne 7, 3) := by decide +kernel
theorem dL_isAppeal_18 : decode cL_isAppeal 18 = .ok (.iconst 1, 1) := by decide +kernel
theorem dL_isAppeal_19 : decode cL_isAppeal 19 = .ok (.goto 4, 3) := by decide +kernel
theorem dL_isAppeal_22 : decode cL_isAppeal 22 = .ok (.iconst 0, 1) := by decide +kernel
theorem dL_isAppeal_23 : decode cL_isAppeal 23 = .ok (.istore_n 3, 1) := by decide +kernel
theorem dL_isAppeal_24 : decode cL_isAppeal 24 = .ok (.iload_n 3, 1) := by decide +kernel
theorem dL_isAppeal_25 : decode cL_isAppeal 25 = .ok (.ifCond .eq 22, 3) := by decide +kernel
theorem dL_isAppeal_28 : decode cL_isAppeal 28 = .ok (.aload_n 0, 1) := by decide +kernel
theorem dL_isAppeal_29 : decode cL_isAppeal 29 = .ok (.iload_n 1, 1) := by decide +kernel
theorem dL_isAppeal_30 : decode cL_isAppeal 30 = .ok (.iconst 5, 1) := by decide +kernel
theorem dL_isAppeal_31 : decode cL_isAppeal 31 = .ok (.invokevirtual 14, 3) := by decide +kernel
theorem dL_isAppeal_34 : decode cL_isAppeal 34 = .ok (.aload_n 0, 1) := by decide +kernel
theorem dL_isAppeal_35 : decode cL_isAppeal 35 = .ok (.iload_n 2, 1) := by decide +kernel
theorem dL_isAppeal_36 : decode cL_isAppeal 36 = .ok (.iconst 5, 1) := by decide +kernel
theorem dL_isAppeal_37 : decode cL_isAppeal 37 = .ok (.invokevirtual 14, 3) := by decide +kernel
theorem dL_isAppeal_40 : decode cL_isAppeal 40 = .ok (.if_icmp .le 7, 3) := by decide +kernel
theorem dL_isAppeal_43 : decode cL_isAppeal 43 = .ok (.iconst 1, 1) := by decide +kernel
theorem dL_isAppeal_44 : decode cL_isAppeal 44 = .ok (.goto 4, 3) := by decide +kernel
theorem dL_isAppeal_47 : decode cL_isAppeal 47 = .ok (.iconst 0, 1) := by decide +kernel
theorem dL_isAppeal_48 : decode cL_isAppeal 48 = .ok (.istore 4, 2) := by decide +kernel
theorem dL_isAppeal_50 : decode cL_isAppeal 50 = .ok (.aload_n 0, 1) := by decide +kernel
theorem dL_isAppeal_51 : decode cL_isAppeal 51 = .ok (.iload_n 1, 1) := by decide +kernel
theorem dL_isAppeal_52 : decode cL_isAppeal 52 = .ok (.iconst 3, 1) := by decide +kernel
theorem dL_isAppeal_53 : decode cL_isAppeal 53 = .ok (.invokevirtual 14, 3) := by decide +kernel
theorem dL_isAppeal_56 : decode cL_isAppeal 56 = .ok (.istore 5, 2) := by decide +kernel
theorem dL_isAppeal_58 : decode cL_isAppeal 58 = .ok (.aload_n 0, 1) := by decide +kernel
theorem dL_isAppeal_59 : decode cL_isAppeal 59 = .ok (.bipush 11, 2) := by decide +kernel
theorem dL_isAppeal_61 : decode cL_isAppeal 61 = .ok (.invokevirtual 8, 3) := by decide +kernel
theorem dL_isAppeal_64 : decode cL_isAppeal 64 = .ok (.istore 6, 2) := by decide +kernel
theorem dL_isAppeal_66 : decode cL_isAppeal 66 = .ok (.aload_n 0, 1) := by decide +kernel
theorem dL_isAppeal_67 : decode cL_isAppeal 67 = .ok (.iload_n 1, 1) := by decide +kernel
theorem dL_isAppeal_68 : decode cL_isAppeal 68 = .ok (.iconst 2, 1) := by decide +kernel
theorem dL_isAppeal_69 : decode cL_isAppeal 69 = .ok (.invokevirtual 14, 3) := by decide +kernel
theorem dL_isAppeal_72 : decode cL_isAppeal 72 = .ok (.istore 7, 2) := by decide +kernel
theorem dL_isAppeal_74 : decode cL_isAppeal 74 = .ok (.aload_n 0, 1) := by decide +kernel
theorem dL_isAppeal_75 : decode cL_isAppeal 75 = .ok (.bipush 15, 2) := by decide +kernel
theorem dL_isAppeal_77 : decode cL_isAppeal 77 = .ok (.invokevirtual 8, 3) := by decide +kernel
theorem dL_isAppeal_80 : decode cL_isAppeal 80 = .ok (.istore 8, 2) := by decide +kernel
theorem dL_isAppeal_82 : decode cL_isAppeal 82 = .ok (.aload_n 0, 1) := by decide +kernel
theorem dL_isAppeal_83 : decode cL_isAppeal 83 = .ok (.bipush 8, 2) := by decide +kernel
theorem dL_isAppeal_85 : decode cL_isAppeal 85 = .ok (.invokevirtual 8, 3) := by decide +kernel
theorem dL_isAppeal_88 : decode cL_isAppeal 88 = .ok (.istore 9, 2) := by decide +kernel
theorem dL_isAppeal_90 : decode cL_isAppeal 90 = .ok (.aload_n 0, 1) := by decide +kernel
theorem dL_isAppeal_91 : decode cL_isAppeal 91 = .ok (.iload_n 1, 1) := by decide +kernel
theorem dL_isAppeal_92 : decode cL_isAppeal 92 = .ok (.invokevirtual 31, 3) := by decide +kernel
theorem dL_isAppeal_95 : decode cL_isAppeal 95 = .ok (.istore 10, 2) := by decide +kernel
theorem dL_isAppeal_97 : decode cL_isAppeal 97 = .ok (.iload_n 3, 1) := by decide +kernel
theorem dL_isAppeal_98 : decode cL_isAppeal 98 = .ok (.ifCond .ne 30, 3) := by decide +kernel
theorem dL_isAppeal_101 : decode cL_isAppeal 101 = .ok (.iload 10, 2) := by decide +kernel
theorem dL_isAppeal_103 : decode cL_isAppeal 103 = .ok (.iload_n 1, 1) := by decide +kernel
theorem dL_isAppeal_104 : decode cL_isAppeal 104 = .ok (.aload_n 0, 1) := by decide +kernel
theorem dL_isAppeal_105 : decode cL_isAppeal 105 = .ok (.bipush 7, 2) := by decide +kernel
theorem dL_isAppeal_107 : decode cL_isAppeal 107 = .ok (.invokevirtual 8, 3) := by decide +kernel
theorem dL_isAppeal_110 : decode cL_isAppeal 110 = .ok (.if_icmp .ge 8, 3) := by decide +kernel
theorem dL_isAppeal_113 : decode cL_isAppeal 113 = .ok (.bipush (-5), 2) := by decide +kernel
theorem dL_isAppeal_115 : decode cL_isAppeal 115 = .ok (.goto 4, 3) := by decide +kernel
theorem dL_isAppeal_118 : decode cL_isAppeal 118 = .ok (.iconst (-1), 1) := by decide +kernel
theorem dL_isAppeal_119 : decode cL_isAppeal 119 = .ok (.if_icmp .ne 7, 3) := by decide +kernel
theorem dL_isAppeal_122 : decode cL_isAppeal 122 = .ok (.iconst 1, 1) := by decide +kernel
theorem dL_isAppeal_123 : decode cL_isAppeal 123 = .ok (.goto 4, 3) := by decide +kernel
theorem dL_isAppeal_126 : decode cL_isAppeal 126 = .ok (.iconst 0, 1) := by decide +kernel
theorem dL_isAppeal_127 : decode cL_isAppeal 127 = .ok (.ireturn, 1) := by decide +kernel
theorem dL_isAppeal_128 : decode cL_isAppeal 128 = .ok (.iload 10, 2) := by decide +kernel
theorem dL_isAppeal_130 : decode cL_isAppeal 130 = .ok (.iload 4, 2) := by decide +kernel
theorem dL_isAppeal_132 : decode cL_isAppeal 132 = .ok (.ifCond .eq 7, 3) := by decide +kernel
theorem dL_isAppeal_135 : decode cL_isAppeal 135 = .ok (.iconst 1, 1) := by decide +kernel
theorem dL_isAppeal_136 : decode cL_isAppeal 136 = .ok (.goto 4, 3) := by decide +kernel
theorem dL_isAppeal_139 : decode cL_isAppeal 139 = .ok (.iconst 0, 1) := by decide +kernel
theorem dL_isAppeal_140 : decode cL_isAppeal 140 = .ok (.if_icmp .ne 123, 3) := by decide +kernel
theorem dL_isAppeal_143 : decode cL_isAppeal 143 = .ok (.aload_n 0, 1) := by decide +kernel
theorem dL_isAppeal_144 : decode cL_isAppeal 144 = .ok (.iload_n 1, 1) := by decide +kernel
theorem dL_isAppeal_145 : decode cL_isAppeal 145 = .ok (.iconst 3, 1) := by decide +kernel
theorem dL_isAppeal_146 : decode cL_isAppeal 146 = .ok (.invokevirtual 14, 3) := by decide +kernel
theorem dL_isAppeal_149 : decode cL_isAppeal 149 = .ok (.iload 5, 2) := by decide +kernel
theorem dL_isAppeal_151 : decode cL_isAppeal 151 = .ok (.aload_n 0, 1) := by decide +kernel
theorem dL_isAppeal_152 : decode cL_isAppeal 152 = .ok (.iconst 2, 1) := by decide +kernel
theorem dL_isAppeal_153 : decode cL_isAppeal 153 = .ok (.invokevirtual 8, 3) := by decide +kernel
theorem dL_isAppeal_156 : decode cL_isAppeal 156 = .ok (.isub, 1) := by decide +kernel
theorem dL_isAppeal_157 : decode cL_isAppeal 157 = .ok (.if_icmp .ne 106, 3) := by decide +kernel
theorem dL_isAppeal_160 : decode cL_isAppeal 160 = .ok (.aload_n 0, 1) := by decide +kernel
theorem dL_isAppeal_161 : decode cL_isAppeal 161 = .ok (.bipush 11, 2) := by decide +kernel
theorem dL_isAppeal_163 : decode cL_isAppeal 163 = .ok (.invokevirtual 8, 3) := by decide +kernel
theorem dL_isAppeal_166 : decode cL_isAppeal 166 = .ok (.iload 6, 2) := by decide +kernel
theorem dL_isAppeal_168 : decode cL_isAppeal 168 = .ok (.aload_n 0, 1) := by decide +kernel
theorem dL_isAppeal_169 : decode cL_isAppeal 169 = .ok (.iconst 2, 1) := by decide +kernel
theorem dL_isAppeal_170 : decode cL_isAppeal 170 = .ok (.invokevirtual 8, 3) := by decide +kernel
theorem dL_isAppeal_173 : decode cL_isAppeal 173 = .ok (.iadd, 1) := by decide +kernel
theorem dL_isAppeal_174 : decode cL_isAppeal 174 = .ok (.if_icmp .ne 89, 3) := by decide +kernel
theorem dL_isAppeal_177 : decode cL_isAppeal 177 = .ok (.aload_n 0, 1) := by decide +kernel
theorem dL_isAppeal_178 : decode cL_isAppeal 178 = .ok (.iload_n 1, 1) := by decide +kernel
theorem dL_isAppeal_179 : decode cL_isAppeal 179 = .ok (.iconst 2, 1) := by decide +kernel
theorem dL_isAppeal_180 : decode cL_isAppeal 180 = .ok (.invokevirtual 14, 3) := by decide +kernel
theorem dL_isAppeal_183 : decode cL_isAppeal 183 = .ok (.iload 7, 2) := by decide +kernel
theorem dL_isAppeal_185 : decode cL_isAppeal 185 = .ok (.iload 4, 2) := by decide +kernel
theorem dL_isAppeal_187 : decode cL_isAppeal 187 = .ok (.ifCond .eq 7, 3) := by decide +kernel
theorem dL_isAppeal_190 : decode cL_isAppeal 190 = .ok (.iconst 0, 1) := by decide +kernel
theorem dL_isAppeal_191 : decode cL_isAppeal 191 = .ok (.goto 4, 3) := by decide +kernel
theorem dL_isAppeal_194 : decode cL_isAppeal 194 = .ok (.iconst 1, 1) := by decide +kernel
theorem dL_isAppeal_195 : decode cL_isAppeal 195 = .ok (.iadd, 1) := by decide +kernel
theorem dL_isAppeal_196 : decode cL_isAppeal 196 = .ok (.if_icmp .ne 67, 3) := by decide +kernel
theorem dL_isAppeal_199 : decode cL_isAppeal 199 = .ok (.aload_n 0, 1) := by decide +kernel
theorem dL_isAppeal_200 : decode cL_isAppeal 200 = .ok (.bipush 9, 2) := by decide +kernel
theorem dL_isAppeal_202 : decode cL_isAppeal 202 = .ok (.invokevirtual 8, 3) := by decide +kernel
theorem dL_isAppeal_205 : decode cL_isAppeal 205 = .ok (.iload 4, 2) := by decide +kernel
theorem dL_isAppeal_207 : decode cL_isAppeal 207 = .ok (.ifCond .eq 8, 3) := by decide +kernel
theorem dL_isAppeal_210 : decode cL_isAppeal 210 = .ok (.bipush (-6), 2) := by decide +kernel
theorem dL_isAppeal_212 : decode cL_isAppeal 212 = .ok (.goto 4, 3) := by decide +kernel
theorem dL_isAppeal_215 : decode cL_isAppeal 215 = .ok (.iload_n 2, 1) := by decide +kernel
theorem dL_isAppeal_216 : decode cL_isAppeal 216 = .ok (.if_icmp .ne 47, 3) := by decide +kernel
theorem dL_isAppeal_219 : decode cL_isAppeal 219 = .ok (.aload_n 0, 1) := by decide +kernel
theorem dL_isAppeal_220 : decode cL_isAppeal 220 = .ok (.bipush 15, 2) := by decide +kernel
theorem dL_isAppeal_222 : decode cL_isAppeal 222 = .ok (.invokevirtual 8, 3) := by decide +kernel
theorem dL_isAppeal_225 : decode cL_isAppeal 225 = .ok (.iload 8, 2) := by decide +kernel
theorem dL_isAppeal_227 : decode cL_isAppeal 227 = .ok (.iload 10, 2) := by decide +kernel
theorem dL_isAppeal_229 : decode cL_isAppeal 229 = .ok (.iadd, 1) := by decide +kernel
theorem dL_isAppeal_230 : decode cL_isAppeal 230 = .ok (.if_icmp .ne 33, 3) := by decide +kernel
theorem dL_isAppeal_233 : decode cL_isAppeal 233 = .ok (.aload_n 0, 1) := by decide +kernel
theorem dL_isAppeal_234 : decode cL_isAppeal 234 = .ok (.bipush 8, 2) := by decide +kernel
theorem dL_isAppeal_236 : decode cL_isAppeal 236 = .ok (.invokevirtual 8, 3) := by decide +kernel
theorem dL_isAppeal_239 : decode cL_isAppeal 239 = .ok (.iload 9, 2) := by decide +kernel
theorem dL_isAppeal_241 : decode cL_isAppeal 241 = .ok (.if_icmp .ne 22, 3) := by decide +kernel
theorem dL_isAppeal_244 : decode cL_isAppeal 244 = .ok (.iload 4, 2) := by decide +kernel
theorem dL_isAppeal_246 : decode cL_isAppeal 246 = .ok (.ifCond .eq 13, 3) := by decide +kernel
theorem dL_isAppeal_249 : decode cL_isAppeal 249 = .ok (.aload_n 0, 1) := by decide +kernel
theorem dL_isAppeal_250 : decode cL_isAppeal 250 = .ok (.bipush 10, 2) := by decide +kernel
theorem dL_isAppeal_252 : decode cL_isAppeal 252 = .ok (.invokevirtual 8, 3) := by decide +kernel
theorem dL_isAppeal_255 : decode cL_isAppeal 255 = .ok (.iload_n 1, 1) := by decide +kernel
theorem dL_isAppeal_256 : decode cL_isAppeal 256 = .ok (.if_icmp .ne 7, 3) := by decide +kernel
theorem dL_isAppeal_259 : decode cL_isAppeal 259 = .ok (.iconst 1, 1) := by decide +kernel
theorem dL_isAppeal_260 : decode cL_isAppeal 260 = .ok (.goto 4, 3) := by decide +kernel
theorem dL_isAppeal_263 : decode cL_isAppeal 263 = .ok (.iconst 0, 1) := by decide +kernel
theorem dL_isAppeal_264 : decode cL_isAppeal 264 = .ok (.ireturn, 1) := by decide +kernel
theorem dL_isBest_0 : decode cL_isBest 0 = .ok (.aload_n 0, 1) := by decide +kernel
theorem dL_isBest_1 : decode cL_isBest 1 = .ok (.bipush 7, 2) := by decide +kernel
theorem dL_isBest_3 : decode cL_isBest 3 = .ok (.invokevirtual 8, 3) := by decide +kernel
theorem dL_isBest_6 : decode cL_isBest 6 = .ok (.istore_n 2, 1) := by decide +kernel
theorem dL_isBest_7 : decode cL_isBest 7 = .ok (.aload_n 0, 1) := by decide +kernel
theorem dL_isBest_8 : decode cL_isBest 8 = .ok (.iload_n 1, 1) := by decide +kernel
theorem dL_isBest_9 : decode cL_isBest 9 = .ok (.iconst 0, 1) := by decide +kernel
theorem dL_isBest_10 : decode cL_isBest 10 = .ok (.invokevirtual 34, 3) := by decide +kernel
theorem dL_isBest_13 : decode cL_isBest 13 = .ok (.istore_n 3, 1) := by decide +kernel
theorem dL_isBest_14 : decode cL_isBest 14 = .ok (.aload_n 0, 1) := by decide +kernel
theorem dL_isBest_15 : decode cL_isBest 15 = .ok (.iload_n 1, 1) := by decide +kernel
theorem dL_isBest_16 : decode cL_isBest 16 = .ok (.iconst 1, 1) := by decide +kernel
theorem dL_isBest_17 : decode cL_isBest 17 = .ok (.invokevirtual 34, 3) := by decide +kernel
theorem dL_isBest_20 : decode cL_isBest 20 = .ok (.istore 4, 2) := by decide +kernel
theorem dL_isBest_22 : decode cL_isBest 22 = .ok (.iconst 0, 1) := by decide +kernel
theorem dL_isBest_23 : decode cL_isBest 23 = .ok (.istore 5, 2) := by decide +kernel
theorem dL_isBest_25 : decode cL_isBest 25 = .ok (.iconst (-1), 1) := by decide +kernel
theorem dL_isBest_26 : decode cL_isBest 26 = .ok (.istore 6, 2) := by decide +kernel
theorem dL_isBest_28 : decode cL_isBest 28 = .ok (.iconst 0, 1) := by decide +kernel
theorem dL_isBest_29 : decode cL_isBest 29 = .ok (.istore 7, 2) := by decide +kernel
theorem dL_isBest_31 : decode cL_isBest 31 = .ok (.iload 7, 2) := by decide +kernel
theorem dL_isBest_33 : decode cL_isBest 33 = .ok (.iload_n 2, 1) := by decide +kernel
theorem dL_isBest_34 : decode cL_isBest 34 = .ok (.if_icmp .ge 155, 3) := by decide +kernel
theorem dL_isBest_37 : decode cL_isBest 37 = .ok (.aload_n 0, 1) := by decide +kernel
theorem dL_isBest_38 : decode cL_isBest 38 = .ok (.iconst 0, 1) := by decide +kernel
theorem dL_isBest_39 : decode cL_isBest 39 = .ok (.invokevirtual 37, 3) := by decide +kernel
theorem dL_isBest_42 : decode cL_isBest 42 = .ok (.istore 8, 2) := by decide +kernel
theorem dL_isBest_44 : decode cL_isBest 44 = .ok (.aload_n 0, 1) := by decide +kernel
theorem dL_isBest_45 : decode cL_isBest 45 = .ok (.iload_n 1, 1) := by decide +kernel
theorem dL_isBest_46 : decode cL_isBest 46 = .ok (.iload 7, 2) := by decide +kernel
theorem dL_isBest_48 : decode cL_isBest 48 = .ok (.invokevirtual 40, 3) := by decide +kernel
theorem dL_isBest_51 : decode cL_isBest 51 = .ok (.istore 9, 2) := by decide +kernel
theorem dL_isBest_53 : decode cL_isBest 53 = .ok (.aload_n 0, 1) := by decide +kernel
theorem dL_isBest_54 : decode cL_isBest 54 = .ok (.iload 7, 2) := by decide +kernel
theorem dL_isBest_56 : decode cL_isBest 56 = .ok (.bipush 7, 2) := by decide +kernel
theorem dL_isBest_58 : decode cL_isBest 58 = .ok (.invokevirtual 14, 3) := by decide +kernel
theorem dL_isBest_61 : decode cL_isBest 61 = .ok (.istore 10, 2) := by decide +kernel
theorem dL_isBest_63 : decode cL_isBest 63 = .ok (.aload_n 0, 1) := by decide +kernel
theorem dL_isBest_64 : decode cL_isBest 64 = .ok (.bipush 60, 2) := by decide +kernel
theorem dL_isBest_66 : decode cL_isBest 66 = .ok (.invokevirtual 18, 3) := by decide +kernel
theorem dL_isBest_69 : decode cL_isBest 69 = .ok (.istore 11, 2) := by decide +kernel
theorem dL_isBest_71 : decode cL_isBest 71 = .ok (.aload_n 0, 1) := by decide +kernel
theorem dL_isBest_72 : decode cL_isBest 72 = .ok (.bipush 40, 2) := by decide +kernel
theorem dL_isBest_74 : decode cL_isBest 74 = .ok (.invokevirtual 18, 3) := by decide +kernel
theorem dL_isBest_77 : decode cL_isBest 77 = .ok (.istore 12, 2) := by decide +kernel
theorem dL_isBest_79 : decode cL_isBest 79 = .ok (.aload_n 0, 1) := by decide +kernel
theorem dL_isBest_80 : decode cL_isBest 80 = .ok (.iload 7, 2) := by decide +kernel
theorem dL_isBest_82 : decode cL_isBest 82 = .ok (.bipush 7, 2) := by decide +kernel
theorem dL_isBest_84 : decode cL_isBest 84 = .ok (.invokevirtual 14, 3) := by decide +kernel
theorem dL_isBest_87 : decode cL_isBest 87 = .ok (.iload 10, 2) := by decide +kernel
theorem dL_isBest_89 : decode cL_isBest 89 = .ok (.isub, 1) := by decide +kernel
theorem dL_isBest_90 : decode cL_isBest 90 = .ok (.istore 13, 2) := by decide +kernel
theorem dL_isBest_92 : decode cL_isBest 92 = .ok (.iload 13, 2) := by decide +kernel
theorem dL_isBest_94 : decode cL_isBest 94 = .ok (.iload 6, 2) := by decide +kernel
theorem dL_isBest_96 : decode cL_isBest 96 = .ok (.if_icmp .le 8, 3) := by decide +kernel
theorem dL_isBest_99 : decode cL_isBest 99 = .ok (.iload 7, 2) := by decide +kernel
theorem dL_isBest_101 : decode cL_isBest 101 = .ok (.goto 5, 3) := by decide +kernel
theorem dL_isBest_104 : decode cL_isBest 104 = .ok (.iload 5, 2) := by decide +kernel
theorem dL_isBest_106 : decode cL_isBest 106 = .ok (.istore 5, 2) := by decide +kernel
theorem dL_isBest_108 : decode cL_isBest 108 = .ok (.iload 13, 2) := by decide +kernel
theorem dL_isBest_110 : decode cL_isBest 110 = .ok (.iload 6, 2) := by decide +kernel
theorem dL_isBest_112 : decode cL_isBest 112 = .ok (.if_icmp .le 8, 3) := by decide +kernel
theorem dL_isBest_115 : decode cL_isBest 115 = .ok (.iload 13, 2) := by decide +kernel
theorem dL_isBest_117 : decode cL_isBest 117 = .ok (.goto 5, 3) := by decide +kernel
theorem dL_isBest_120 : decode cL_isBest 120 = .ok (.iload 6, 2) := by decide +kernel
theorem dL_isBest_122 : decode cL_isBest 122 = .ok (.istore 6, 2) := by decide +kernel
theorem dL_isBest_124 : decode cL_isBest 124 = .ok (.iload 7, 2) := by decide +kernel
theorem dL_isBest_126 : decode cL_isBest 126 = .ok (.iload_n 1, 1) := by decide +kernel
theorem dL_isBest_127 : decode cL_isBest 127 = .ok (.if_icmp .ge 10, 3) := by decide +kernel
theorem dL_isBest_130 : decode cL_isBest 130 = .ok (.iload_n 1, 1) := by decide +kernel
theorem dL_isBest_131 : decode cL_isBest 131 = .ok (.iload 7, 2) := by decide +kernel
theorem dL_isBest_133 : decode cL_isBest 133 = .ok (.isub, 1) := by decide +kernel
theorem dL_isBest_134 : decode cL_isBest 134 = .ok (.goto 7, 3) := by decide +kernel
theorem dL_isBest_137 : decode cL_isBest 137 = .ok (.iload 7, 2) := by decide +kernel
theorem dL_isBest_139 : decode cL_isBest 139 = .ok (.iload_n 1, 1) := by decide +kernel
theorem dL_isBest_140 : decode cL_isBest 140 = .ok (.isub, 1) := by decide +kernel
theorem dL_isBest_141 : decode cL_isBest 141 = .ok (.istore 14, 2) := by decide +kernel
theorem dL_isBest_143 : decode cL_isBest 143 = .ok (.iload 9, 2) := by decide +kernel
theorem dL_isBest_145 : decode cL_isBest 145 = .ok (.iload 14, 2) := by decide +kernel
theorem dL_isBest_147 : decode cL_isBest 147 = .ok (.ifCond .ne 7, 3) := by decide +kernel
theorem dL_isBest_150 : decode cL_isBest 150 = .ok (.iconst 0, 1) := by decide +kernel
theorem dL_isBest_151 : decode cL_isBest 151 = .ok (.goto 7, 3) := by decide +kernel
theorem dL_isBest_154 : decode cL_isBest 154 = .ok (.iload 14, 2) := by decide +kernel
theorem dL_isBest_156 : decode cL_isBest 156 = .ok (.iconst 1, 1) := by decide +kernel
theorem dL_isBest_157 : decode cL_isBest 157 = .ok (.iadd, 1) := by decide +kernel
theorem dL_isBest_158 : decode cL_isBest 158 = .ok (.if_icmp .ne 23, 3) := by decide +kernel
theorem dL_isBest_161 : decode cL_isBest 161 = .ok (.iload 11, 2) := by decide +kernel
theorem dL_isBest_163 : decode cL_isBest 163 = .ok (.ifCond .lt 18, 3) := by decide +kernel
theorem dL_isBest_166 : decode cL_isBest 166 = .ok (.iload 12, 2) := by decide +kernel
theorem dL_isBest_168 : decode cL_isBest 168 = .ok (.ifCond .lt 13, 3) := by decide +kernel
theorem dL_isBest_171 : decode cL_isBest 171 = .ok (.aload_n 0, 1) := by decide +kernel
theorem dL_isBest_172 : decode cL_isBest 172 = .ok (.iconst 0, 1) := by decide +kernel
theorem dL_isBest_173 : decode cL_isBest 173 = .ok (.invokevirtual 43, 3) := by decide +kernel
theorem dL_isBest_176 : decode cL_isBest 176 = .ok (.iload 8, 2) := by decide +kernel
theorem dL_isBest_178 : decode cL_isBest 178 = .ok (.if_icmp .eq 5, 3) := by decide +kernel
theorem dL_isBest_181 : decode cL_isBest 181 = .ok (.iconst 0, 1) := by decide +kernel
theorem dL_isBest_182 : decode cL_isBest 182 = .ok (.ireturn, 1) := by decide +kernel
theorem dL_isBest_183 : decode cL_isBest 183 = .ok (.iinc 7 1, 3) := by decide +kernel
theorem dL_isBest_186 : decode cL_isBest 186 = .ok (.goto (-155), 3) := by decide +kernel
theorem dL_isBest_189 : decode cL_isBest 189 = .ok (.iload_n 3, 1) := by decide +kernel
theorem dL_isBest_190 : decode cL_isBest 190 = .ok (.iload 5, 2) := by decide +kernel
theorem dL_isBest_192 : decode cL_isBest 192 = .ok (.if_icmp .ne 14, 3) := by decide +kernel
theorem dL_isBest_195 : decode cL_isBest 195 = .ok (.iload 4, 2) := by decide +kernel
theorem dL_isBest_197 : decode cL_isBest 197 = .ok (.iload 6, 2) := by decide +kernel
theorem dL_isBest_199 : decode cL_isBest 199 = .ok (.if_icmp .ne 7, 3) := by decide +kernel
theorem dL_isBest_202 : decode cL_isBest 202 = .ok (.iconst 1, 1) := by decide +kernel
theorem dL_isBest_203 : decode cL_isBest 203 = .ok (.goto 4, 3) := by decide +kernel
theorem dL_isBest_206 : decode cL_isBest 206 = .ok (.iconst 0, 1) := by decide +kernel
theorem dL_isBest_207 : decode cL_isBest 207 = .ok (.ireturn, 1) := by decide +kernel
theorem dL_isMoved_0 : decode cL_isMoved 0 = .ok (.aload_n 0, 1) := by decide +kernel
theorem dL_isMoved_1 : decode cL_isMoved 1 = .ok (.bipush 7, 2) := by decide +kernel
theorem dL_isMoved_3 : decode cL_isMoved 3 = .ok (.invokevirtual 8, 3) := by decide +kernel
theorem dL_isMoved_6 : decode cL_isMoved 6 = .ok (.istore_n 3, 1) := by decide +kernel
theorem dL_isMoved_7 : decode cL_isMoved 7 = .ok (.aload_n 0, 1) := by decide +kernel
theorem dL_isMoved_8 : decode cL_isMoved 8 = .ok (.bipush 9, 2) := by decide +kernel
theorem dL_isMoved_10 : decode cL_isMoved 10 = .ok (.invokevirtual 8, 3) := by decide +kernel
theorem dL_isMoved_13 : decode cL_isMoved 13 = .ok (.istore 4, 2) := by decide +kernel
theorem dL_isMoved_15 : decode cL_isMoved 15 = .ok (.aload_n 0, 1) := by decide +kernel
theorem dL_isMoved_16 : decode cL_isMoved 16 = .ok (.bipush 10, 2) := by decide +kernel
theorem dL_isMoved_18 : decode cL_isMoved 18 = .ok (.invokevirtual 8, 3) := by decide +kernel
theorem dL_isMoved_21 : decode cL_isMoved 21 = .ok (.istore 5, 2) := by decide +kernel
theorem dL_isMoved_23 : decode cL_isMoved 23 = .ok (.aload_n 0, 1) := by decide +kernel
theorem dL_isMoved_24 : decode cL_isMoved 24 = .ok (.iload_n 1, 1) := by decide +kernel
theorem dL_isMoved_25 : decode cL_isMoved 25 = .ok (.iconst 0, 1) := by decide +kernel
theorem dL_isMoved_26 : decode cL_isMoved 26 = .ok (.invokevirtual 14, 3) := by decide +kernel
theorem dL_isMoved_29 : decode cL_isMoved 29 = .ok (.istore 6, 2) := by decide +kernel
theorem dL_isMoved_31 : decode cL_isMoved 31 = .ok (.aload_n 0, 1) := by decide +kernel
theorem dL_isMoved_32 : decode cL_isMoved 32 = .ok (.iload_n 1, 1) := by decide +kernel
theorem dL_isMoved_33 : decode cL_isMoved 33 = .ok (.iconst 3, 1) := by decide +kernel
theorem dL_isMoved_34 : decode cL_isMoved 34 = .ok (.invokevirtual 14, 3) := by decide +kernel
theorem dL_isMoved_37 : decode cL_isMoved 37 = .ok (.istore 7, 2) := by decide +kernel
theorem dL_isMoved_39 : decode cL_isMoved 39 = .ok (.iload 4, 2) := by decide +kernel
theorem dL_isMoved_41 : decode cL_isMoved 41 = .ok (.ifCond .lt 8, 3) := by decide +kernel
theorem dL_isMoved_44 : decode cL_isMoved 44 = .ok (.iload 4, 2) := by decide +kernel
end
section
theorem dL_isMoved_46 : decode cL_isMoved 46 = .ok (.goto 5, 3) := by decide +kernel
theorem dL_isMoved_49 : decode cL_isMoved 49 = .ok (.iload 5, 2) := by decide +kernel
theorem dL_isMoved_51 : decode cL_isMoved 51 = .ok (.istore 8, 2) := by decide +kernel
theorem dL_isMoved_53 : decode cL_isMoved 53 = .ok (.iload 8, 2) := by decide +kernel
theorem dL_isMoved_55 : decode cL_isMoved 55 = .ok (.iload_n 3, 1) := by decide +kernel
theorem dL_isMoved_56 : decode cL_isMoved 56 = .ok (.if_icmp .ge 14, 3) := by decide +kernel
theorem dL_isMoved_59 : decode cL_isMoved 59 = .ok (.aload_n 0, 1) := by decide +kernel
theorem dL_isMoved_60 : decode cL_isMoved 60 = .ok (.iload 8, 2) := by decide +kernel
theorem dL_isMoved_62 : decode cL_isMoved 62 = .ok (.bipush 7, 2) := by decide +kernel
theorem dL_isMoved_64 : decode cL_isMoved 64 = .ok (.invokevirtual 14, 3) := by decide +kernel
theorem dL_isMoved_67 : decode cL_isMoved 67 = .ok (.goto 4, 3) := by decide +kernel
theorem dL_isMoved_70 : decode cL_isMoved 70 = .ok (.iconst 0, 1) := by decide +kernel
theorem dL_isMoved_71 : decode cL_isMoved 71 = .ok (.istore 9, 2) := by decide +kernel
theorem dL_isMoved_73 : decode cL_isMoved 73 = .ok (.aload_n 0, 1) := by decide +kernel
theorem dL_isMoved_74 : decode cL_isMoved 74 = .ok (.iload_n 1, 1) := by decide +kernel
theorem dL_isMoved_75 : decode cL_isMoved 75 = .ok (.iload_n 2, 1) := by decide +kernel
theorem dL_isMoved_76 : decode cL_isMoved 76 = .ok (.invokevirtual 40, 3) := by decide +kernel
theorem dL_isMoved_79 : decode cL_isMoved 79 = .ok (.istore 10, 2) := by decide +kernel
theorem dL_isMoved_81 : decode cL_isMoved 81 = .ok (.iload 4, 2) := by decide +kernel
theorem dL_isMoved_83 : decode cL_isMoved 83 = .ok (.ifCond .lt 12, 3) := by decide +kernel
theorem dL_isMoved_86 : decode cL_isMoved 86 = .ok (.aload_n 0, 1) := by decide +kernel
theorem dL_isMoved_87 : decode cL_isMoved 87 = .ok (.bipush 9, 2) := by decide +kernel
theorem dL_isMoved_89 : decode cL_isMoved 89 = .ok (.invokevirtual 8, 3) := by decide +kernel
theorem dL_isMoved_92 : decode cL_isMoved 92 = .ok (.goto 9, 3) := by decide +kernel
theorem dL_isMoved_95 : decode cL_isMoved 95 = .ok (.aload_n 0, 1) := by decide +kernel
theorem dL_isMoved_96 : decode cL_isMoved 96 = .ok (.bipush 10, 2) := by decide +kernel
theorem dL_isMoved_98 : decode cL_isMoved 98 = .ok (.invokevirtual 8, 3) := by decide +kernel
theorem dL_isMoved_101 : decode cL_isMoved 101 = .ok (.istore 11, 2) := by decide +kernel
theorem dL_isMoved_103 : decode cL_isMoved 103 = .ok (.iload 8, 2) := by decide +kernel
theorem dL_isMoved_105 : decode cL_isMoved 105 = .ok (.iload_n 1, 1) := by decide +kernel
theorem dL_isMoved_106 : decode cL_isMoved 106 = .ok (.if_icmp .ne 7, 3) := by decide +kernel
theorem dL_isMoved_109 : decode cL_isMoved 109 = .ok (.iload_n 2, 1) := by decide +kernel
theorem dL_isMoved_110 : decode cL_isMoved 110 = .ok (.goto 43, 3) := by decide +kernel
theorem dL_isMoved_113 : decode cL_isMoved 113 = .ok (.iload 8, 2) := by decide +kernel
theorem dL_isMoved_115 : decode cL_isMoved 115 = .ok (.iload_n 1, 1) := by decide +kernel
theorem dL_isMoved_116 : decode cL_isMoved 116 = .ok (.if_icmp .le 16, 3) := by decide +kernel
theorem dL_isMoved_119 : decode cL_isMoved 119 = .ok (.iload 8, 2) := by decide +kernel
theorem dL_isMoved_121 : decode cL_isMoved 121 = .ok (.iload_n 2, 1) := by decide +kernel
theorem dL_isMoved_122 : decode cL_isMoved 122 = .ok (.if_icmp .gt 10, 3) := by decide +kernel
theorem dL_isMoved_125 : decode cL_isMoved 125 = .ok (.iload 8, 2) := by decide +kernel
theorem dL_isMoved_127 : decode cL_isMoved 127 = .ok (.iconst 1, 1) := by decide +kernel
theorem dL_isMoved_128 : decode cL_isMoved 128 = .ok (.isub, 1) := by decide +kernel
theorem dL_isMoved_129 : decode cL_isMoved 129 = .ok (.goto 24, 3) := by decide +kernel
theorem dL_isMoved_132 : decode cL_isMoved 132 = .ok (.iload 8, 2) := by decide +kernel
theorem dL_isMoved_134 : decode cL_isMoved 134 = .ok (.iload_n 1, 1) := by decide +kernel
theorem dL_isMoved_135 : decode cL_isMoved 135 = .ok (.if_icmp .ge 16, 3) := by decide +kernel
theorem dL_isMoved_138 : decode cL_isMoved 138 = .ok (.iload 8, 2) := by decide +kernel
theorem dL_isMoved_140 : decode cL_isMoved 140 = .ok (.iload_n 2, 1) := by decide +kernel
theorem dL_isMoved_141 : decode cL_isMoved 141 = .ok (.if_icmp .lt 10, 3) := by decide +kernel
theorem dL_isMoved_144 : decode cL_isMoved 144 = .ok (.iload 8, 2) := by decide +kernel
theorem dL_isMoved_146 : decode cL_isMoved 146 = .ok (.iconst 1, 1) := by decide +kernel
theorem dL_isMoved_147 : decode cL_isMoved 147 = .ok (.iadd, 1) := by decide +kernel
theorem dL_isMoved_148 : decode cL_isMoved 148 = .ok (.goto 5, 3) := by decide +kernel
theorem dL_isMoved_151 : decode cL_isMoved 151 = .ok (.iload 8, 2) := by decide +kernel
theorem dL_isMoved_153 : decode cL_isMoved 153 = .ok (.istore 12, 2) := by decide +kernel
theorem dL_isMoved_155 : decode cL_isMoved 155 = .ok (.iload 10, 2) := by decide +kernel
theorem dL_isMoved_157 : decode cL_isMoved 157 = .ok (.ifCond .lt 76, 3) := by decide +kernel
theorem dL_isMoved_160 : decode cL_isMoved 160 = .ok (.iload 11, 2) := by decide +kernel
theorem dL_isMoved_162 : decode cL_isMoved 162 = .ok (.iload 12, 2) := by decide +kernel
theorem dL_isMoved_164 : decode cL_isMoved 164 = .ok (.if_icmp .ne 69, 3) := by decide +kernel
theorem dL_isMoved_167 : decode cL_isMoved 167 = .ok (.aload_n 0, 1) := by decide +kernel
theorem dL_isMoved_168 : decode cL_isMoved 168 = .ok (.bipush 9, 2) := by decide +kernel
theorem dL_isMoved_170 : decode cL_isMoved 170 = .ok (.invokevirtual 8, 3) := by decide +kernel
theorem dL_isMoved_173 : decode cL_isMoved 173 = .ok (.ifCond .lt 7, 3) := by decide +kernel
theorem dL_isMoved_176 : decode cL_isMoved 176 = .ok (.iconst 1, 1) := by decide +kernel
theorem dL_isMoved_177 : decode cL_isMoved 177 = .ok (.goto 4, 3) := by decide +kernel
theorem dL_isMoved_180 : decode cL_isMoved 180 = .ok (.iconst 0, 1) := by decide +kernel
theorem dL_isMoved_181 : decode cL_isMoved 181 = .ok (.iload 4, 2) := by decide +kernel
theorem dL_isMoved_183 : decode cL_isMoved 183 = .ok (.ifCond .lt 7, 3) := by decide +kernel
theorem dL_isMoved_186 : decode cL_isMoved 186 = .ok (.iconst 1, 1) := by decide +kernel
theorem dL_isMoved_187 : decode cL_isMoved 187 = .ok (.goto 4, 3) := by decide +kernel
theorem dL_isMoved_190 : decode cL_isMoved 190 = .ok (.iconst 0, 1) := by decide +kernel
theorem dL_isMoved_191 : decode cL_isMoved 191 = .ok (.if_icmp .ne 42, 3) := by decide +kernel
theorem dL_isMoved_194 : decode cL_isMoved 194 = .ok (.aload_n 0, 1) := by decide +kernel
theorem dL_isMoved_195 : decode cL_isMoved 195 = .ok (.iload_n 2, 1) := by decide +kernel
theorem dL_isMoved_196 : decode cL_isMoved 196 = .ok (.iconst 0, 1) := by decide +kernel
theorem dL_isMoved_197 : decode cL_isMoved 197 = .ok (.invokevirtual 14, 3) := by decide +kernel
theorem dL_isMoved_200 : decode cL_isMoved 200 = .ok (.iload 6, 2) := by decide +kernel
theorem dL_isMoved_202 : decode cL_isMoved 202 = .ok (.if_icmp .ne 31, 3) := by decide +kernel
theorem dL_isMoved_205 : decode cL_isMoved 205 = .ok (.aload_n 0, 1) := by decide +kernel
theorem dL_isMoved_206 : decode cL_isMoved 206 = .ok (.iload_n 2, 1) := by decide +kernel
theorem dL_isMoved_207 : decode cL_isMoved 207 = .ok (.iconst 3, 1) := by decide +kernel
theorem dL_isMoved_208 : decode cL_isMoved 208 = .ok (.invokevirtual 14, 3) := by decide +kernel
theorem dL_isMoved_211 : decode cL_isMoved 211 = .ok (.iload 7, 2) := by decide +kernel
theorem dL_isMoved_213 : decode cL_isMoved 213 = .ok (.if_icmp .ne 20, 3) := by decide +kernel
theorem dL_isMoved_216 : decode cL_isMoved 216 = .ok (.aload_n 0, 1) := by decide +kernel
theorem dL_isMoved_217 : decode cL_isMoved 217 = .ok (.iload 11, 2) := by decide +kernel
theorem dL_isMoved_219 : decode cL_isMoved 219 = .ok (.bipush 7, 2) := by decide +kernel
theorem dL_isMoved_221 : decode cL_isMoved 221 = .ok (.invokevirtual 14, 3) := by decide +kernel
theorem dL_isMoved_224 : decode cL_isMoved 224 = .ok (.iload 9, 2) := by decide +kernel
theorem dL_isMoved_226 : decode cL_isMoved 226 = .ok (.if_icmp .ne 7, 3) := by decide +kernel
theorem dL_isMoved_229 : decode cL_isMoved 229 = .ok (.iconst 1, 1) := by decide +kernel
theorem dL_isMoved_230 : decode cL_isMoved 230 = .ok (.goto 4, 3) := by decide +kernel
theorem dL_isMoved_233 : decode cL_isMoved 233 = .ok (.iconst 0, 1) := by decide +kernel
theorem dL_isMoved_234 : decode cL_isMoved 234 = .ok (.ireturn, 1) := by decide +kernel
theorem dL_does_0 : decode cL_does 0 = .ok (.aload_n 0, 1) := by decide +kernel
theorem dL_does_1 : decode cL_does 1 = .ok (.bipush 7, 2) := by decide +kernel
theorem dL_does_3 : decode cL_does 3 = .ok (.invokevirtual 8, 3) := by decide +kernel
theorem dL_does_6 : decode cL_does 6 = .ok (.istore_n 3, 1) := by decide +kernel
theorem dL_does_7 : decode cL_does 7 = .ok (.iload_n 3, 1) := by decide +kernel
theorem dL_does_8 : decode cL_does 8 = .ok (.ifCond .ne 7, 3) := by decide +kernel
theorem dL_does_11 : decode cL_does 11 = .ok (.iconst 0, 1) := by decide +kernel
theorem dL_does_12 : decode cL_does 12 = .ok (.goto 10, 3) := by decide +kernel
theorem dL_does_15 : decode cL_does 15 = .ok (.iload_n 1, 1) := by decide +kernel
theorem dL_does_16 : decode cL_does 16 = .ok (.iconst 4, 1) := by decide +kernel
theorem dL_does_17 : decode cL_does 17 = .ok (.ishr, 1) := by decide +kernel
theorem dL_does_18 : decode cL_does 18 = .ok (.iload_n 3, 1) := by decide +kernel
theorem dL_does_19 : decode cL_does 19 = .ok (.invokestatic 46, 3) := by decide +kernel
theorem dL_does_22 : decode cL_does 22 = .ok (.istore 4, 2) := by decide +kernel
theorem dL_does_24 : decode cL_does 24 = .ok (.iload_n 1, 1) := by decide +kernel
theorem dL_does_25 : decode cL_does 25 = .ok (.bipush 16, 2) := by decide +kernel
theorem dL_does_27 : decode cL_does 27 = .ok (.invokestatic 46, 3) := by decide +kernel
theorem dL_does_30 : decode cL_does 30 = .ok (.tableswitch 530 0 12 #[66, 66, 66, 164, 198, 262, 262, 274, 328, 328, 466, 497, 497], 66) := by decide +kernel
theorem dL_does_96 : decode cL_does 96 = .ok (.aload_n 0, 1) := by decide +kernel
theorem dL_does_97 : decode cL_does 97 = .ok (.iconst 1, 1) := by decide +kernel
theorem dL_does_98 : decode cL_does 98 = .ok (.iload_n 2, 1) := by decide +kernel
theorem dL_does_99 : decode cL_does 99 = .ok (.bipush 9, 2) := by decide +kernel
theorem dL_does_101 : decode cL_does 101 = .ok (.invokestatic 46, 3) := by decide +kernel
theorem dL_does_104 : decode cL_does 104 = .ok (.iadd, 1) := by decide +kernel
theorem dL_does_105 : decode cL_does 105 = .ok (.iload_n 2, 1) := by decide +kernel
theorem dL_does_106 : decode cL_does 106 = .ok (.iconst 4, 1) := by decide +kernel
theorem dL_does_107 : decode cL_does 107 = .ok (.ishr, 1) := by decide +kernel
theorem dL_does_108 : decode cL_does 108 = .ok (.bipush 101, 2) := by decide +kernel
theorem dL_does_110 : decode cL_does 110 = .ok (.invokestatic 46, 3) := by decide +kernel
theorem dL_does_113 : decode cL_does 113 = .ok (.invokevirtual 51, 3) := by decide +kernel
theorem dL_does_116 : decode cL_does 116 = .ok (.istore 5, 2) := by decide +kernel
theorem dL_does_118 : decode cL_does 118 = .ok (.iload_n 3, 1) := by decide +kernel
theorem dL_does_119 : decode cL_does 119 = .ok (.bipush 8, 2) := by decide +kernel
theorem dL_does_121 : decode cL_does 121 = .ok (.if_icmp .ne 18, 3) := by decide +kernel
theorem dL_does_124 : decode cL_does 124 = .ok (.iload 5, 2) := by decide +kernel
theorem dL_does_126 : decode cL_does 126 = .ok (.bipush (-4), 2) := by decide +kernel
theorem dL_does_128 : decode cL_does 128 = .ok (.if_icmp .ne 7, 3) := by decide +kernel
theorem dL_does_131 : decode cL_does 131 = .ok (.iconst 1, 1) := by decide +kernel
theorem dL_does_132 : decode cL_does 132 = .ok (.goto 61, 3) := by decide +kernel
theorem dL_does_135 : decode cL_does 135 = .ok (.iconst 0, 1) := by decide +kernel
theorem dL_does_136 : decode cL_does 136 = .ok (.goto 57, 3) := by decide +kernel
theorem dL_does_139 : decode cL_does 139 = .ok (.iload 5, 2) := by decide +kernel
theorem dL_does_141 : decode cL_does 141 = .ok (.iload_n 3, 1) := by decide +kernel
theorem dL_does_142 : decode cL_does 142 = .ok (.if_icmp .ne 50, 3) := by decide +kernel
theorem dL_does_145 : decode cL_does 145 = .ok (.aload_n 0, 1) := by decide +kernel
theorem dL_does_146 : decode cL_does 146 = .ok (.iload_n 3, 1) := by decide +kernel
theorem dL_does_147 : decode cL_does 147 = .ok (.iconst 0, 1) := by decide +kernel
theorem dL_does_148 : decode cL_does 148 = .ok (.invokevirtual 14, 3) := by decide +kernel
theorem dL_does_151 : decode cL_does 151 = .ok (.iconst 1, 1) := by decide +kernel
theorem dL_does_152 : decode cL_does 152 = .ok (.iload_n 2, 1) := by decide +kernel
theorem dL_does_153 : decode cL_does 153 = .ok (.bipush 9, 2) := by decide +kernel
theorem dL_does_155 : decode cL_does 155 = .ok (.invokestatic 46, 3) := by decide +kernel
theorem dL_does_158 : decode cL_does 158 = .ok (.iadd, 1) := by decide +kernel
theorem dL_does_159 : decode cL_does 159 = .ok (.if_icmp .ne 33, 3) := by decide +kernel
theorem dL_does_162 : decode cL_does 162 = .ok (.aload_n 0, 1) := by decide +kernel
theorem dL_does_163 : decode cL_does 163 = .ok (.iload_n 3, 1) := by decide +kernel
theorem dL_does_164 : decode cL_does 164 = .ok (.iconst 1, 1) := by decide +kernel
theorem dL_does_165 : decode cL_does 165 = .ok (.invokevirtual 14, 3) := by decide +kernel
theorem dL_does_168 : decode cL_does 168 = .ok (.iload_n 2, 1) := by decide +kernel
theorem dL_does_169 : decode cL_does 169 = .ok (.iconst 4, 1) := by decide +kernel
theorem dL_does_170 : decode cL_does 170 = .ok (.ishr, 1) := by decide +kernel
theorem dL_does_171 : decode cL_does 171 = .ok (.bipush 101, 2) := by decide +kernel
theorem dL_does_173 : decode cL_does 173 = .ok (.invokestatic 46, 3) := by decide +kernel
theorem dL_does_176 : decode cL_does 176 = .ok (.if_icmp .ne 16, 3) := by decide +kernel
theorem dL_does_179 : decode cL_does 179 = .ok (.aload_n 0, 1) := by decide +kernel
theorem dL_does_180 : decode cL_does 180 = .ok (.iload_n 3, 1) := by decide +kernel
theorem dL_does_181 : decode cL_does 181 = .ok (.iconst 3, 1) := by decide +kernel
theorem dL_does_182 : decode cL_does 182 = .ok (.invokevirtual 14, 3) := by decide +kernel
theorem dL_does_185 : decode cL_does 185 = .ok (.ifCond .ne 7, 3) := by decide +kernel
theorem dL_does_188 : decode cL_does 188 = .ok (.iconst 1, 1) := by decide +kernel
theorem dL_does_189 : decode cL_does 189 = .ok (.goto 4, 3) := by decide +kernel
theorem dL_does_192 : decode cL_does 192 = .ok (.iconst 0, 1) := by decide +kernel
theorem dL_does_193 : decode cL_does 193 = .ok (.ireturn, 1) := by decide +kernel
theorem dL_does_194 : decode cL_does 194 = .ok (.iload_n 3, 1) := by decide +kernel
theorem dL_does_195 : decode cL_does 195 = .ok (.ifCond .ne 21, 3) := by decide +kernel
theorem dL_does_198 : decode cL_does 198 = .ok (.aload_n 0, 1) := by decide +kernel
theorem dL_does_199 : decode cL_does 199 = .ok (.iconst 0, 1) := by decide +kernel
theorem dL_does_200 : decode cL_does 200 = .ok (.iconst 0, 1) := by decide +kernel
theorem dL_does_201 : decode cL_does 201 = .ok (.invokevirtual 40, 3) := by decide +kernel
theorem dL_does_204 : decode cL_does 204 = .ok (.iconst (-1), 1) := by decide +kernel
theorem dL_does_205 : decode cL_does 205 = .ok (.if_icmp .ne 7, 3) := by decide +kernel
theorem dL_does_208 : decode cL_does 208 = .ok (.iconst 1, 1) := by decide +kernel
theorem dL_does_209 : decode cL_does 209 = .ok (.goto 18, 3) := by decide +kernel
theorem dL_does_212 : decode cL_does 212 = .ok (.iconst 0, 1) := by decide +kernel
theorem dL_does_213 : decode cL_does 213 = .ok (.goto 14, 3) := by decide +kernel
theorem dL_does_216 : decode cL_does 216 = .ok (.aload_n 0, 1) := by decide +kernel
theorem dL_does_217 : decode cL_does 217 = .ok (.iload 4, 2) := by decide +kernel
theorem dL_does_219 : decode cL_does 219 = .ok (.iload_n 2, 1) := by decide +kernel
theorem dL_does_220 : decode cL_does 220 = .ok (.iload_n 3, 1) := by decide +kernel
theorem dL_does_221 : decode cL_does 221 = .ok (.invokestatic 46, 3) := by decide +kernel
theorem dL_does_224 : decode cL_does 224 = .ok (.invokestatic 54, 3) := by decide +kernel
theorem dL_does_227 : decode cL_does 227 = .ok (.ireturn, 1) := by decide +kernel
theorem dL_does_228 : decode cL_does 228 = .ok (.aload_n 0, 1) := by decide +kernel
theorem dL_does_229 : decode cL_does 229 = .ok (.bipush 9, 2) := by decide +kernel
theorem dL_does_231 : decode cL_does 231 = .ok (.invokevirtual 8, 3) := by decide +kernel
theorem dL_does_234 : decode cL_does 234 = .ok (.istore 6, 2) := by decide +kernel
theorem dL_does_236 : decode cL_does 236 = .ok (.aload_n 0, 1) := by decide +kernel
theorem dL_does_237 : decode cL_does 237 = .ok (.invokevirtual 58, 3) := by decide +kernel
theorem dL_does_240 : decode cL_does 240 = .ok (.iload 6, 2) := by decide +kernel
theorem dL_does_242 : decode cL_does 242 = .ok (.ifCond .ge 8, 3) := by decide +kernel
theorem dL_does_245 : decode cL_does 245 = .ok (.bipush (-5), 2) := by decide +kernel
theorem dL_does_247 : decode cL_does 247 = .ok (.goto 5, 3) := by decide +kernel
theorem dL_does_250 : decode cL_does 250 = .ok (.iload 6, 2) := by decide +kernel
theorem dL_does_252 : decode cL_does 252 = .ok (.if_icmp .ne 38, 3) := by decide +kernel
theorem dL_does_255 : decode cL_does 255 = .ok (.aload_n 0, 1) := by decide +kernel
theorem dL_does_256 : decode cL_does 256 = .ok (.bipush 9, 2) := by decide +kernel
theorem dL_does_258 : decode cL_does 258 = .ok (.invokevirtual 8, 3) := by decide +kernel
theorem dL_does_261 : decode cL_does 261 = .ok (.bipush (-6), 2) := by decide +kernel
theorem dL_does_263 : decode cL_does 263 = .ok (.if_icmp .ne 27, 3) := by decide +kernel
theorem dL_does_266 : decode cL_does 266 = .ok (.iload 6, 2) := by decide +kernel
theorem dL_does_268 : decode cL_does 268 = .ok (.ifCond .lt 18, 3) := by decide +kernel
theorem dL_does_271 : decode cL_does 271 = .ok (.aload_n 0, 1) := by decide +kernel
theorem dL_does_272 : decode cL_does 272 = .ok (.bipush 10, 2) := by decide +kernel
theorem dL_does_274 : decode cL_does 274 = .ok (.invokevirtual 8, 3) := by decide +kernel
theorem dL_does_277 : decode cL_does 277 = .ok (.iload 6, 2) := by decide +kernel
theorem dL_does_279 : decode cL_does 279 = .ok (.iconst 1, 1) := by decide +kernel
theorem dL_does_280 : decode cL_does 280 = .ok (.iadd, 1) := by decide +kernel
theorem dL_does_281 : decode cL_does 281 = .ok (.iload_n 3, 1) := by decide +kernel
theorem dL_does_282 : decode cL_does 282 = .ok (.irem, 1) := by decide +kernel
theorem dL_does_283 : decode cL_does 283 = .ok (.if_icmp .ne 7, 3) := by decide +kernel
theorem dL_does_286 : decode cL_does 286 = .ok (.iconst 1, 1) := by decide +kernel
theorem dL_does_287 : decode cL_does 287 = .ok (.goto 4, 3) := by decide +kernel
theorem dL_does_290 : decode cL_does 290 = .ok (.iconst 0, 1) := by decide +kernel
theorem dL_does_291 : decode cL_does 291 = .ok (.ireturn, 1) := by decide +kernel
theorem dL_does_292 : decode cL_does 292 = .ok (.aload_n 0, 1) := by decide +kernel
theorem dL_does_293 : decode cL_does 293 = .ok (.iload_n 2, 1) := by decide +kernel
theorem dL_does_294 : decode cL_does 294 = .ok (.iload_n 3, 1) := by decide +kernel
theorem dL_does_295 : decode cL_does 295 = .ok (.iconst 1, 1) := by decide +kernel
theorem dL_does_296 : decode cL_does 296 = .ok (.iadd, 1) := by decide +kernel
theorem dL_does_297 : decode cL_does 297 = .ok (.invokestatic 46, 3) := by decide +kernel
theorem dL_does_300 : decode cL_does 300 = .ok (.invokestatic 61, 3) := by decide +kernel
theorem dL_does_303 : decode cL_does 303 = .ok (.ireturn, 1) := by decide +kernel
theorem dL_does_304 : decode cL_does 304 = .ok (.aload_n 0, 1) := by decide +kernel
theorem dL_does_305 : decode cL_does 305 = .ok (.bipush 11, 2) := by decide +kernel
theorem dL_does_307 : decode cL_does 307 = .ok (.invokevirtual 8, 3) := by decide +kernel
theorem dL_does_310 : decode cL_does 310 = .ok (.istore 7, 2) := by decide +kernel
theorem dL_does_312 : decode cL_does 312 = .ok (.iconst 1, 1) := by decide +kernel
theorem dL_does_313 : decode cL_does 313 = .ok (.iload_n 2, 1) := by decide +kernel
theorem dL_does_314 : decode cL_does 314 = .ok (.sipush 900, 3) := by decide +kernel
theorem dL_does_317 : decode cL_does 317 = .ok (.invokestatic 46, 3) := by decide +kernel
theorem dL_does_320 : decode cL_does 320 = .ok (.iadd, 1) := by decide +kernel
theorem dL_does_321 : decode cL_does 321 = .ok (.istore 8, 2) := by decide +kernel
theorem dL_does_323 : decode cL_does 323 = .ok (.aload_n 0, 1) := by decide +kernel
theorem dL_does_324 : decode cL_does 324 = .ok (.iload 8, 2) := by decide +kernel
theorem dL_does_326 : decode cL_does 326 = .ok (.invokevirtual 65, 3) := by decide +kernel
theorem dL_does_329 : decode cL_does 329 = .ok (.iload 7, 2) := by decide +kernel
theorem dL_does_331 : decode cL_does 331 = .ok (.iload 8, 2) := by decide +kernel
theorem dL_does_333 : decode cL_does 333 = .ok (.iadd, 1) := by decide +kernel
theorem dL_does_334 : decode cL_does 334 = .ok (.ldc 68, 2) := by decide +kernel
theorem dL_does_336 : decode cL_does 336 = .ok (.if_icmp .le 8, 3) := by decide +kernel
theorem dL_does_339 : decode cL_does 339 = .ok (.bipush (-4), 2) := by decide +kernel
theorem dL_does_341 : decode cL_does 341 = .ok (.goto 8, 3) := by decide +kernel
theorem dL_does_344 : decode cL_does 344 = .ok (.iload 7, 2) := by decide +kernel
theorem dL_does_346 : decode cL_does 346 = .ok (.iload 8, 2) := by decide +kernel
theorem dL_does_348 : decode cL_does 348 = .ok (.iadd, 1) := by decide +kernel
theorem dL_does_349 : decode cL_does 349 = .ok (.if_icmp .ne 7, 3) := by decide +kernel
theorem dL_does_352 : decode cL_does 352 = .ok (.iconst 1, 1) := by decide +kernel
theorem dL_does_353 : decode cL_does 353 = .ok (.goto 4, 3) := by decide +kernel
theorem dL_does_356 : decode cL_does 356 = .ok (.iconst 0, 1) := by decide +kernel
theorem dL_does_357 : decode cL_does 357 = .ok (.ireturn, 1) := by decide +kernel
theorem dL_does_358 : decode cL_does 358 = .ok (.iload_n 1, 1) := by decide +kernel
theorem dL_does_359 : decode cL_does 359 = .ok (.iconst 4, 1) := by decide +kernel
theorem dL_does_360 : decode cL_does 360 = .ok (.ishr, 1) := by decide +kernel
theorem dL_does_361 : decode cL_does 361 = .ok (.bipush 6, 2) := by decide +kernel
theorem dL_does_363 : decode cL_does 363 = .ok (.invokestatic 46, 3) := by decide +kernel
theorem dL_does_366 : decode cL_does 366 = .ok (.istore 9, 2) := by decide +kernel
theorem dL_does_368 : decode cL_does 368 = .ok (.iload 9, 2) := by decide +kernel
theorem dL_does_370 : decode cL_does 370 = .ok (.ifCond .ne 15, 3) := by decide +kernel
theorem dL_does_373 : decode cL_does 373 = .ok (.bipush 40, 2) := by decide +kernel
theorem dL_does_375 : decode cL_does 375 = .ok (.iload_n 2, 1) := by decide +kernel
theorem dL_does_376 : decode cL_does 376 = .ok (.bipush 60, 2) := by decide +kernel
theorem dL_does_378 : decode cL_does 378 = .ok (.invokestatic 46, 3) := by decide +kernel
theorem dL_does_381 : decode cL_does 381 = .ok (.iadd, 1) := by decide +kernel
theorem dL_does_382 : decode cL_does 382 = .ok (.goto 74, 3) := by decide +kernel
theorem dL_does_385 : decode cL_does 385 = .ok (.iload 9, 2) := by decide +kernel
theorem dL_does_387 : decode cL_does 387 = .ok (.iconst 1, 1) := by decide +kernel
theorem dL_does_388 : decode cL_does 388 = .ok (.if_icmp .ne 13, 3) := by decide +kernel
theorem dL_does_391 : decode cL_does 391 = .ok (.iload_n 2, 1) := by decide +kernel
theorem dL_does_392 : decode cL_does 392 = .ok (.sipush 201, 3) := by decide +kernel
theorem dL_does_395 : decode cL_does 395 = .ok (.invokestatic 46, 3) := by decide +kernel
theorem dL_does_398 : decode cL_does 398 = .ok (.goto 58, 3) := by decide +kernel
theorem dL_does_401 : decode cL_does 401 = .ok (.iload 9, 2) := by decide +kernel
theorem dL_does_403 : decode cL_does 403 = .ok (.iconst 2, 1) := by decide +kernel
theorem dL_does_404 : decode cL_does 404 = .ok (.if_icmp .ne 12, 3) := by decide +kernel
theorem dL_does_407 : decode cL_does 407 = .ok (.iload_n 2, 1) := by decide +kernel
theorem dL_does_408 : decode cL_does 408 = .ok (.bipush 30, 2) := by decide +kernel
theorem dL_does_410 : decode cL_does 410 = .ok (.invokestatic 46, 3) := by decide +kernel
theorem dL_does_413 : decode cL_does 413 = .ok (.goto 43, 3) := by decide +kernel
theorem dL_does_416 : decode cL_does 416 = .ok (.iload 9, 2) := by decide +kernel
theorem dL_does_418 : decode cL_does 418 = .ok (.iconst 3, 1) := by decide +kernel
theorem dL_does_419 : decode cL_does 419 = .ok (.if_icmp .ne 14, 3) := by decide +kernel
theorem dL_does_422 : decode cL_does 422 = .ok (.iconst 5, 1) := by decide +kernel
theorem dL_does_423 : decode cL_does 423 = .ok (.iload_n 2, 1) := by decide +kernel
theorem dL_does_424 : decode cL_does 424 = .ok (.bipush 36, 2) := by decide +kernel
theorem dL_does_426 : decode cL_does 426 = .ok (.invokestatic 46, 3) := by decide +kernel
theorem dL_does_429 : decode cL_does 429 = .ok (.iadd, 1) := by decide +kernel
theorem dL_does_430 : decode cL_does 430 = .ok (.goto 26, 3) := by decide +kernel
theorem dL_does_433 : decode cL_does 433 = .ok (.iload 9, 2) := by decide +kernel
theorem dL_does_435 : decode cL_does 435 = .ok (.iconst 4, 1) := by decide +kernel
theorem dL_does_436 : decode cL_does 436 = .ok (.if_icmp .ne 14, 3) := by decide +kernel
theorem dL_does_439 : decode cL_does 439 = .ok (.iconst 1, 1) := by decide +kernel
theorem dL_does_440 : decode cL_does 440 = .ok (.iload_n 2, 1) := by decide +kernel
theorem dL_does_441 : decode cL_does 441 = .ok (.bipush 9, 2) := by decide +kernel
theorem dL_does_443 : decode cL_does 443 = .ok (.invokestatic 46, 3) := by decide +kernel
theorem dL_does_446 : decode cL_does 446 = .ok (.iadd, 1) := by decide +kernel
theorem dL_does_447 : decode cL_does 447 = .ok (.goto 9, 3) := by decide +kernel
theorem dL_does_450 : decode cL_does 450 = .ok (.iload_n 2, 1) := by decide +kernel
theorem dL_does_451 : decode cL_does 451 = .ok (.bipush 61, 2) := by decide +kernel
theorem dL_does_453 : decode cL_does 453 = .ok (.invokestatic 46, 3) := by decide +kernel
theorem dL_does_456 : decode cL_does 456 = .ok (.istore 10, 2) := by decide +kernel
theorem dL_does_458 : decode cL_does 458 = .ok (.aload_n 0, 1) := by decide +kernel
theorem dL_does_459 : decode cL_does 459 = .ok (.iload 9, 2) := by decide +kernel
theorem dL_does_461 : decode cL_does 461 = .ok (.invokevirtual 8, 3) := by decide +kernel
theorem dL_does_464 : decode cL_does 464 = .ok (.istore 11, 2) := by decide +kernel
theorem dL_does_466 : decode cL_does 466 = .ok (.aload_n 0, 1) := by decide +kernel
theorem dL_does_467 : decode cL_does 467 = .ok (.iload 9, 2) := by decide +kernel
theorem dL_does_469 : decode cL_does 469 = .ok (.iload 10, 2) := by decide +kernel
theorem dL_does_471 : decode cL_does 471 = .ok (.invokevirtual 69, 3) := by decide +kernel
theorem dL_does_474 : decode cL_does 474 = .ok (.iload 11, 2) := by decide +kernel
theorem dL_does_476 : decode cL_does 476 = .ok (.if_icmp .ne 18, 3) := by decide +kernel
theorem dL_does_479 : decode cL_does 479 = .ok (.aload_n 0, 1) := by decide +kernel
theorem dL_does_480 : decode cL_does 480 = .ok (.iload 9, 2) := by decide +kernel
theorem dL_does_482 : decode cL_does 482 = .ok (.invokevirtual 8, 3) := by decide +kernel
theorem dL_does_485 : decode cL_does 485 = .ok (.iload 10, 2) := by decide +kernel
theorem dL_does_487 : decode cL_does 487 = .ok (.if_icmp .ne 7, 3) := by decide +kernel
theorem dL_does_490 : decode cL_does 490 = .ok (.iconst 1, 1) := by decide +kernel
theorem dL_does_491 : decode cL_does 491 = .ok (.goto 4, 3) := by decide +kernel
theorem dL_does_494 : decode cL_does 494 = .ok (.iconst 0, 1) := by decide +kernel
theorem dL_does_495 : decode cL_does 495 = .ok (.ireturn, 1) := by decide +kernel
theorem dL_does_496 : decode cL_does 496 = .ok (.iload_n 3, 1) := by decide +kernel
theorem dL_does_497 : decode cL_does 497 = .ok (.ifCond .eq 24, 3) := by decide +kernel
theorem dL_does_500 : decode cL_does 500 = .ok (.aload_n 0, 1) := by decide +kernel
theorem dL_does_501 : decode cL_does 501 = .ok (.bipush 6, 2) := by decide +kernel
theorem dL_does_503 : decode cL_does 503 = .ok (.invokevirtual 8, 3) := by decide +kernel
theorem dL_does_506 : decode cL_does 506 = .ok (.sipush 9800, 3) := by decide +kernel
theorem dL_does_509 : decode cL_does 509 = .ok (.if_icmp .gt 12, 3) := by decide +kernel
theorem dL_does_512 : decode cL_does 512 = .ok (.aload_n 0, 1) := by decide +kernel
theorem dL_does_513 : decode cL_does 513 = .ok (.iload 4, 2) := by decide +kernel
theorem dL_does_515 : decode cL_does 515 = .ok (.invokestatic 72, 3) := by decide +kernel
theorem dL_does_518 : decode cL_does 518 = .ok (.ifCond .eq 7, 3) := by decide +kernel
theorem dL_does_521 : decode cL_does 521 = .ok (.iconst 1, 1) := by decide +kernel
theorem dL_does_522 : decode cL_does 522 = .ok (.goto 4, 3) := by decide +kernel
theorem dL_does_525 : decode cL_does 525 = .ok (.iconst 0, 1) := by decide +kernel
theorem dL_does_526 : decode cL_does 526 = .ok (.ireturn, 1) := by decide +kernel
theorem dL_does_527 : decode cL_does 527 = .ok (.aload_n 0, 1) := by decide +kernel
theorem dL_does_528 : decode cL_does 528 = .ok (.bipush 6, 2) := by decide +kernel
theorem dL_does_530 : decode cL_does 530 = .ok (.invokevirtual 8, 3) := by decide +kernel
theorem dL_does_533 : decode cL_does 533 = .ok (.sipush 9800, 3) := by decide +kernel
theorem dL_does_536 : decode cL_does 536 = .ok (.if_icmp .gt 18, 3) := by decide +kernel
theorem dL_does_539 : decode cL_does 539 = .ok (.aload_n 0, 1) := by decide +kernel
theorem dL_does_540 : decode cL_does 540 = .ok (.iconst 1, 1) := by decide +kernel
theorem dL_does_541 : decode cL_does 541 = .ok (.iload_n 2, 1) := by decide +kernel
theorem dL_does_542 : decode cL_does 542 = .ok (.bipush 99, 2) := by decide +kernel
theorem dL_does_544 : decode cL_does 544 = .ok (.invokestatic 46, 3) := by decide +kernel
theorem dL_does_547 : decode cL_does 547 = .ok (.iadd, 1) := by decide +kernel
theorem dL_does_548 : decode cL_does 548 = .ok (.invokestatic 75, 3) := by decide +kernel
theorem dL_does_551 : decode cL_does 551 = .ok (.ifCond .eq 7, 3) := by decide +kernel
theorem dL_does_554 : decode cL_does 554 = .ok (.iconst 1, 1) := by decide +kernel
theorem dL_does_555 : decode cL_does 555 = .ok (.goto 4, 3) := by decide +kernel
theorem dL_does_558 : decode cL_does 558 = .ok (.iconst 0, 1) := by decide +kernel
theorem dL_does_559 : decode cL_does 559 = .ok (.ireturn, 1) := by decide +kernel
theorem dL_does_560 : decode cL_does 560 = .ok (.aload_n 0, 1) := by decide +kernel
theorem dL_does_561 : decode cL_does 561 = .ok (.bipush 6, 2) := by decide +kernel
theorem dL_does_563 : decode cL_does 563 = .ok (.invokevirtual 8, 3) := by decide +kernel
theorem dL_does_566 : decode cL_does 566 = .ok (.sipush 9800, 3) := by decide +kernel
theorem dL_does_569 : decode cL_does 569 = .ok (.if_icmp .gt 10, 3) := by decide +kernel
theorem dL_does_572 : decode cL_does 572 = .ok (.aload_n 0, 1) := by decide +kernel
theorem dL_does_573 : decode cL_does 573 = .ok (.invokestatic 78, 3) := by decide +kernel
theorem dL_does_576 : decode cL_does 576 = .ok (.ifCond .eq 7, 3) := by decide +kernel
theorem dL_does_579 : decode cL_does 579 = .ok (.iconst 1, 1) := by decide +kernel
theorem dL_does_580 : decode cL_does 580 = .ok (.goto 4, 3) := by decide +kernel
theorem dL_does_583 : decode cL_does 583 = .ok (.iconst 0, 1) := by decide +kernel
theorem dL_does_584 : decode cL_does 584 = .ok (.ireturn, 1) := by decide +kernel
theorem dL_law_0 : decode cL_law 0 = .ok (.new 9, 3) := by decide +kernel
theorem dL_law_3 : decode cL_law 3 = .ok (.dup, 1) := by decide +kernel
theorem dL_law_4 : decode cL_law 4 = .ok (.invokespecial 82, 3) := by decide +kernel
theorem dL_law_7 : decode cL_law 7 = .ok (.astore_n 1, 1) := by decide +kernel
theorem dL_law_8 : decode cL_law 8 = .ok (.aload_n 1, 1) := by decide +kernel
theorem dL_law_9 : decode cL_law 9 = .ok (.invokestatic 83, 3) := by decide +kernel
theorem dL_law_12 : decode cL_law 12 = .ok (.ifCond .eq 40, 3) := by decide +kernel
theorem dL_law_15 : decode cL_law 15 = .ok (.aload_n 1, 1) := by decide +kernel
theorem dL_law_16 : decode cL_law 16 = .ok (.iconst 0, 1) := by decide +kernel
theorem dL_law_17 : decode cL_law 17 = .ok (.invokevirtual 24, 3) := by decide +kernel
theorem dL_law_20 : decode cL_law 20 = .ok (.bipush (-6), 2) := by decide +kernel
theorem dL_law_22 : decode cL_law 22 = .ok (.if_icmp .ne 30, 3) := by decide +kernel
theorem dL_law_25 : decode cL_law 25 = .ok (.aload_n 1, 1) := by decide +kernel
theorem dL_law_26 : decode cL_law 26 = .ok (.invokevirtual 58, 3) := by decide +kernel
theorem dL_law_29 : decode cL_law 29 = .ok (.bipush (-5), 2) := by decide +kernel
theorem dL_law_31 : decode cL_law 31 = .ok (.if_icmp .ne 21, 3) := by decide +kernel
theorem dL_law_34 : decode cL_law 34 = .ok (.aload_n 1, 1) := by decide +kernel
theorem dL_law_35 : decode cL_law 35 = .ok (.iconst 0, 1) := by decide +kernel
theorem dL_law_36 : decode cL_law 36 = .ok (.invokevirtual 31, 3) := by decide +kernel
theorem dL_law_39 : decode cL_law 39 = .ok (.iconst (-1), 1) := by decide +kernel
theorem dL_law_40 : decode cL_law 40 = .ok (.if_icmp .ne 12, 3) := by decide +kernel
theorem dL_law_43 : decode cL_law 43 = .ok (.aload_n 1, 1) := by decide +kernel
theorem dL_law_44 : decode cL_law 44 = .ok (.invokevirtual 86, 3) := by decide +kernel
theorem dL_law_47 : decode cL_law 47 = .ok (.bipush (-5), 2) := by decide +kernel
theorem dL_law_49 : decode cL_law 49 = .ok (.if_icmp .eq 5, 3) := by decide +kernel
theorem dL_law_52 : decode cL_law 52 = .ok (.iconst 0, 1) := by decide +kernel
theorem dL_law_53 : decode cL_law 53 = .ok (.ireturn, 1) := by decide +kernel
theorem dL_law_54 : decode cL_law 54 = .ok (.iconst 0, 1) := by decide +kernel
theorem dL_law_55 : decode cL_law 55 = .ok (.istore_n 2, 1) := by decide +kernel
theorem dL_law_56 : decode cL_law 56 = .ok (.iload_n 2, 1) := by decide +kernel
theorem dL_law_57 : decode cL_law 57 = .ok (.bipush 100, 2) := by decide +kernel
theorem dL_law_59 : decode cL_law 59 = .ok (.if_icmp .ge 41, 3) := by decide +kernel
theorem dL_law_62 : decode cL_law 62 = .ok (.aload_n 1, 1) := by decide +kernel
theorem dL_law_63 : decode cL_law 63 = .ok (.aload_n 0, 1) := by decide +kernel
theorem dL_law_64 : decode cL_law 64 = .ok (.iconst 2, 1) := by decide +kernel
theorem dL_law_65 : decode cL_law 65 = .ok (.iload_n 2, 1) := by decide +kernel
theorem dL_law_66 : decode cL_law 66 = .ok (.imul, 1) := by decide +kernel
theorem dL_law_67 : decode cL_law 67 = .ok (.invokestatic 89, 3) := by decide +kernel
theorem dL_law_70 : decode cL_law 70 = .ok (.aload_n 0, 1) := by decide +kernel
theorem dL_law_71 : decode cL_law 71 = .ok (.iconst 2, 1) := by decide +kernel
theorem dL_law_72 : decode cL_law 72 = .ok (.iload_n 2, 1) := by decide +kernel
theorem dL_law_73 : decode cL_law 73 = .ok (.imul, 1) := by decide +kernel
theorem dL_law_74 : decode cL_law 74 = .ok (.iconst 1, 1) := by decide +kernel
theorem dL_law_75 : decode cL_law 75 = .ok (.iadd, 1) := by decide +kernel
theorem dL_law_76 : decode cL_law 76 = .ok (.invokestatic 89, 3) := by decide +kernel
theorem dL_law_79 : decode cL_law 79 = .ok (.invokestatic 93, 3) := by decide +kernel
theorem dL_law_82 : decode cL_law 82 = .ok (.ifCond .eq 10, 3) := by decide +kernel
theorem dL_law_85 : decode cL_law 85 = .ok (.aload_n 1, 1) := by decide +kernel
theorem dL_law_86 : decode cL_law 86 = .ok (.invokestatic 83, 3) := by decide +kernel
theorem dL_law_89 : decode cL_law 89 = .ok (.ifCond .ne 5, 3) := by decide +kernel
theorem dL_law_92 : decode cL_law 92 = .ok (.iconst 0, 1) := by decide +kernel
theorem dL_law_93 : decode cL_law 93 = .ok (.ireturn, 1) := by decide +kernel
theorem dL_law_94 : decode cL_law 94 = .ok (.iinc 2 1, 3) := by decide +kernel
theorem dL_law_97 : decode cL_law 97 = .ok (.goto (-41), 3) := by decide +kernel
theorem dL_law_100 : decode cL_law 100 = .ok (.aload_n 1, 1) := by decide +kernel
theorem dL_law_101 : decode cL_law 101 = .ok (.iconst 0, 1) := by decide +kernel
theorem dL_law_102 : decode cL_law 102 = .ok (.iconst 1, 1) := by decide +kernel
theorem dL_law_103 : decode cL_law 103 = .ok (.invokevirtual 51, 3) := by decide +kernel
theorem dL_law_106 : decode cL_law 106 = .ok (.bipush (-2), 2) := by decide +kernel
theorem dL_law_108 : decode cL_law 108 = .ok (.if_icmp .ne 97, 3) := by decide +kernel
theorem dL_law_111 : decode cL_law 111 = .ok (.aload_n 1, 1) := by decide +kernel
theorem dL_law_112 : decode cL_law 112 = .ok (.iconst 1, 1) := by decide +kernel
theorem dL_law_113 : decode cL_law 113 = .ok (.bipush 101, 2) := by decide +kernel
theorem dL_law_115 : decode cL_law 115 = .ok (.invokevirtual 51, 3) := by decide +kernel
theorem dL_law_118 : decode cL_law 118 = .ok (.bipush (-2), 2) := by decide +kernel
theorem dL_law_120 : decode cL_law 120 = .ok (.if_icmp .ne 85, 3) := by decide +kernel
theorem dL_law_123 : decode cL_law 123 = .ok (.aload_n 1, 1) := by decide +kernel
theorem dL_law_124 : decode cL_law 124 = .ok (.iconst 0, 1) := by decide +kernel
theorem dL_law_125 : decode cL_law 125 = .ok (.invokevirtual 65, 3) := by decide +kernel
theorem dL_law_128 : decode cL_law 128 = .ok (.bipush (-2), 2) := by decide +kernel
theorem dL_law_130 : decode cL_law 130 = .ok (.if_icmp .ne 75, 3) := by decide +kernel
theorem dL_law_133 : decode cL_law 133 = .ok (.aload_n 1, 1) := by decide +kernel
theorem dL_law_134 : decode cL_law 134 = .ok (.bipush 100, 2) := by decide +kernel
theorem dL_law_136 : decode cL_law 136 = .ok (.invokevirtual 18, 3) := by decide +kernel
theorem dL_law_139 : decode cL_law 139 = .ok (.bipush (-2), 2) := by decide +kernel
theorem dL_law_141 : decode cL_law 141 = .ok (.if_icmp .ne 64, 3) := by decide +kernel
theorem dL_law_144 : decode cL_law 144 = .ok (.aload_n 1, 1) := by decide +kernel
theorem dL_law_145 : decode cL_law 145 = .ok (.iconst 3, 1) := by decide +kernel
theorem dL_law_146 : decode cL_law 146 = .ok (.iconst 4, 1) := by decide +kernel
theorem dL_law_147 : decode cL_law 147 = .ok (.invokevirtual 69, 3) := by decide +kernel
theorem dL_law_150 : decode cL_law 150 = .ok (.bipush (-2), 2) := by decide +kernel
theorem dL_law_152 : decode cL_law 152 = .ok (.if_icmp .ne 53, 3) := by decide +kernel
theorem dL_law_155 : decode cL_law 155 = .ok (.aload_n 1, 1) := by decide +kernel
theorem dL_law_156 : decode cL_law 156 = .ok (.bipush 6, 2) := by decide +kernel
theorem dL_law_158 : decode cL_law 158 = .ok (.iconst 0, 1) := by decide +kernel
theorem dL_law_159 : decode cL_law 159 = .ok (.invokevirtual 69, 3) := by decide +kernel
theorem dL_law_162 : decode cL_law 162 = .ok (.bipush (-2), 2) := by decide +kernel
theorem dL_law_164 : decode cL_law 164 = .ok (.if_icmp .ne 41, 3) := by decide +kernel
theorem dL_law_167 : decode cL_law 167 = .ok (.aload_n 1, 1) := by decide +kernel
theorem dL_law_168 : decode cL_law 168 = .ok (.sipush 501, 3) := by decide +kernel
theorem dL_law_171 : decode cL_law 171 = .ok (.iconst 0, 1) := by decide +kernel
theorem dL_law_172 : decode cL_law 172 = .ok (.invokevirtual 21, 3) := by decide +kernel
theorem dL_law_175 : decode cL_law 175 = .ok (.bipush (-2), 2) := by decide +kernel
theorem dL_law_177 : decode cL_law 177 = .ok (.if_icmp .ne 28, 3) := by decide +kernel
theorem dL_law_180 : decode cL_law 180 = .ok (.aload_n 1, 1) := by decide +kernel
theorem dL_law_181 : decode cL_law 181 = .ok (.iconst 2, 1) := by decide +kernel
theorem dL_law_182 : decode cL_law 182 = .ok (.invokevirtual 24, 3) := by decide +kernel
theorem dL_law_185 : decode cL_law 185 = .ok (.bipush (-2), 2) := by decide +kernel
theorem dL_law_187 : decode cL_law 187 = .ok (.if_icmp .ne 18, 3) := by decide +kernel
theorem dL_law_190 : decode cL_law 190 = .ok (.aload_n 1, 1) := by decide +kernel
theorem dL_law_191 : decode cL_law 191 = .ok (.bipush 21, 2) := by decide +kernel
theorem dL_law_193 : decode cL_law 193 = .ok (.invokevirtual 8, 3) := by decide +kernel
theorem dL_law_196 : decode cL_law 196 = .ok (.bipush (-2), 2) := by decide +kernel
theorem dL_law_198 : decode cL_law 198 = .ok (.if_icmp .ne 7, 3) := by decide +kernel
theorem dL_law_201 : decode cL_law 201 = .ok (.iconst 1, 1) := by decide +kernel
theorem dL_law_202 : decode cL_law 202 = .ok (.goto 4, 3) := by decide +kernel
theorem dL_law_205 : decode cL_law 205 = .ok (.iconst 0, 1) := by decide +kernel
theorem dL_law_206 : decode cL_law 206 = .ok (.ireturn, 1) := by decide +kernel
theorem dJ6_compare_7cf53_0 : decode cJ6_compare_7cf53 0 = .ok (.iload_n 0, 1) := by decide +kernel
theorem dJ6_compare_7cf53_1 : decode cJ6_compare_7cf53 1 = .ok (.iload_n 1, 1) := by decide +kernel
theorem dJ6_compare_7cf53_2 : decode cJ6_compare_7cf53 2 = .ok (.if_icmp .ge 7, 3) := by decide +kernel
theorem dJ6_compare_7cf53_5 : decode cJ6_compare_7cf53 5 = .ok (.iconst (-1), 1) := by decide +kernel
theorem dJ6_compare_7cf53_6 : decode cJ6_compare_7cf53 6 = .ok (.goto 13, 3) := by decide +kernel
theorem dJ6_compare_7cf53_9 : decode cJ6_compare_7cf53 9 = .ok (.iload_n 0, 1) := by decide +kernel
theorem dJ6_compare_7cf53_10 : decode cJ6_compare_7cf53 10 = .ok (.iload_n 1, 1) := by decide +kernel
theorem dJ6_compare_7cf53_11 : decode cJ6_compare_7cf53 11 = .ok (.if_icmp .ne 7, 3) := by decide +kernel
theorem dJ6_compare_7cf53_14 : decode cJ6_compare_7cf53 14 = .ok (.iconst 0, 1) := by decide +kernel
theorem dJ6_compare_7cf53_15 : decode cJ6_compare_7cf53 15 = .ok (.goto 4, 3) := by decide +kernel
theorem dJ6_compare_7cf53_18 : decode cJ6_compare_7cf53 18 = .ok (.iconst 1, 1) := by decide +kernel
theorem dJ6_compare_7cf53_19 : decode cJ6_compare_7cf53 19 = .ok (.ireturn, 1) := by decide +kernel
theorem dJ9_abs_0f7a4_0 : decode cJ9_abs_0f7a4 0 = .ok (.iload_n 0, 1) := by decide +kernel
theorem dJ9_abs_0f7a4_1 : decode cJ9_abs_0f7a4 1 = .ok (.ifCond .ge 8, 3) := by decide +kernel
theorem dJ9_abs_0f7a4_4 : decode cJ9_abs_0f7a4 4 = .ok (.iload_n 0, 1) := by decide +kernel
theorem dJ9_abs_0f7a4_5 : decode cJ9_abs_0f7a4 5 = .ok (.ineg, 1) := by decide +kernel
theorem dJ9_abs_0f7a4_6 : decode cJ9_abs_0f7a4 6 = .ok (.goto 4, 3) := by decide +kernel
theorem dJ9_abs_0f7a4_9 : decode cJ9_abs_0f7a4 9 = .ok (.iload_n 0, 1) := by decide +kernel
theorem dJ9_abs_0f7a4_10 : decode cJ9_abs_0f7a4 10 = .ok (.ireturn, 1) := by decide +kernel
theorem dJ9_max_7cf53_0 : decode cJ9_max_7cf53 0 = .ok (.iload_n 0, 1) := by decide +kernel
theorem dJ9_max_7cf53_1 : decode cJ9_max_7cf53 1 = .ok (.iload_n 1, 1) := by decide +kernel
theorem dJ9_max_7cf53_2 : decode cJ9_max_7cf53 2 = .ok (.if_icmp .lt 7, 3) := by decide +kernel
theorem dJ9_max_7cf53_5 : decode cJ9_max_7cf53 5 = .ok (.iload_n 0, 1) := by decide +kernel
theorem dJ9_max_7cf53_6 : decode cJ9_max_7cf53 6 = .ok (.goto 4, 3) := by decide +kernel
theorem dJ9_max_7cf53_9 : decode cJ9_max_7cf53 9 = .ok (.iload_n 1, 1) := by decide +kernel
theorem dJ9_max_7cf53_10 : decode cJ9_max_7cf53 10 = .ok (.ireturn, 1) := by decide +kernel
theorem dJ9_min_7cf53_0 : decode cJ9_min_7cf53 0 = .ok (.iload_n 0, 1) := by decide +kernel
theorem dJ9_min_7cf53_1 : decode cJ9_min_7cf53 1 = .ok (.iload_n 1, 1) := by decide +kernel
theorem dJ9_min_7cf53_2 : decode cJ9_min_7cf53 2 = .ok (.if_icmp .gt 7, 3) := by decide +kernel
theorem dJ9_min_7cf53_5 : decode cJ9_min_7cf53 5 = .ok (.iload_n 0, 1) := by decide +kernel
theorem dJ9_min_7cf53_6 : decode cJ9_min_7cf53 6 = .ok (.goto 4, 3) := by decide +kernel
theorem dJ9_min_7cf53_9 : decode cJ9_min_7cf53 9 = .ok (.iload_n 1, 1) := by decide +kernel
theorem dJ9_min_7cf53_10 : decode cJ9_min_7cf53 10 = .ok (.ireturn, 1) := by decide +kernel
end
section
def TW : List Cond := lw_tbl.filter goodWord
theorem tw_in {w : Cond} (h : w ∈ lw_tbl) (g : goodWord w = true) : w ∈ TW := List.mem_filter.mpr ⟨h, g⟩
theorem tw_tbl {w : Cond} (h : w ∈ TW) : w ∈ lw_tbl := (List.mem_filter.mp h).1
theorem tw_good : GoodIn TW TW := fun w h => ⟨h, good_of_word (List.mem_filter.mp h).2⟩
theorem tw_t {w : Cond} (i : Nat) (h : tables_1[i]? = some w) (g : goodWord w = true) : w ∈ TW := tw_in (List.mem_append_right _ (List.mem_of_getElem? h)) g
theorem tw_test : Cond.fieldLink RX2 7 "PurrProbates$Person" "warmth" "I" ∈ TW := tw_t 39 (by decide +kernel) (by decide +kernel)
theorem tw_test2 : Cond.fieldLink RX2 7 "PurrProbates$Person" "warmth" "I" ∈ TW := tw_t 39 rfl rfl
theorem uw2 : ∀ w ∈ u_ws RX2 TX2 6, w ∈ TW := fun w h => tw_in ((by decide +kernel : ∀ w ∈ u_ws RX2 TX2 6, w ∈ lw_tbl) w h) ((by decide +kernel : ∀ w ∈ u_ws RX2 TX2 6, goodWord w = true) w h)
end
section
/-! the judgement 'ex': W over a heap that is told by a function from addresses to cells -/
abbrev HP : Type := Nat → Option va_E
def hu (h : HP) (a : Nat) (e : va_E) : HP := fun q => if q = a then some e else h q
theorem hu_s {h : HP} {a : Nat} {e : va_E} : hu h a e a = some e := by simp [hu]
theorem hu_n {h : HP} {a b : Nat} {e : va_E} (n : b ≠ a) : hu h a e b = h b := by simp [hu, n]
abbrev GG : Type := va_G × (Nat → ClassId) × Nat × (Nat → Nat)
abbrev tyG (G : GG) : List (ClassId × FieldType) := [(G.2.1 0, .int), (G.2.1 1, .char), (G.2.1 1, .char), (G.2.1 3, .object RX2), (G.2.1 4, .object RX3)]
abbrev fr (G : GG) : Nat → Prop := fun q => G.2.2.1 ≤ q
def Rel (G : GG) (h : HP) (z : Nat) (H : Heap) : Prop := H.size = z ∧ G.2.2.1 ≤ z ∧ ∀ (a : Nat) (e : va_E), h a = some e → G.2.2.1 ≤ a ∧ va_at G.1 vwCl (a, e) H
def fV : Nat → Int32 := fun k => match k with
  | 0 => 70
  | 1 => 30
  | 2 => 10
  | 3 => 28
  | 4 => 3
  | _ => 20
def loV : Nat → Int32 := fun k => match k with
  | 0 => 1
  | 1 => 0
  | 2 => 0
  | 3 => 5
  | 4 => 1
  | _ => 0
def hiV : Nat → Int32 := fun k => match k with
  | 0 => 200
  | 1 => 200
  | 2 => 99
  | 3 => 40
  | 4 => 9
  | _ => 60
def stV : Nat → Nat → Int32 := fun k => match k with
  | 0 => fV
  | 1 => loV
  | _ => hiV
def stN : Nat → String := fun k => match k with
  | 0 => "FIRST_VALUES"
  | 1 => "LOWEST_VALUES"
  | _ => "HIGHEST_VALUES"
def vS (G : GG) (k : Nat) (U : State) (H : Heap) : Prop := ∃ cell : Cell, H[G.2.2.2 k]? = some cell ∧ U.isArrayOf cell .int ∧ cell.vm ≠ .unknown ∧ cell.slots.size = 6 ∧ (∀ j : Nat, j < 6 → cell.slots[j]? = some (.int (stV k j))) ∧ cell.cls = G.2.1 0 ∧ ¬ fr G (G.2.2.2 k)
theorem vS.moved {G : GG} {k : Nat} {u U : State} {H : Heap} (hvm : u.vm.Alike U.vm) (h : vS G k u H) : vS G k U H := by
  obtain ⟨cell, h1, h2, h3⟩ := h
  exact ⟨cell, h1, State.isArrayOf_alike hvm h2, h3⟩
theorem vS.kept {G : GG} {k : Nat} {U : State} {H H1 : Heap} (h : vS G k U H) (hq : ∀ a : Nat, a < H.size → ¬ fr G a → H1[a]? = H[a]?) : vS G k U H1 := by
  obtain ⟨cell, h1, h2, h3, h4, h5, h6, h7⟩ := h
  exact ⟨cell, by rw [hq _ (Array.getElem?_eq_some_iff.mp h1).1 h7]; exact h1, h2, h3, h4, h5, h6, h7⟩
def KK (G : GG) (U : State) (H : Heap) : Prop := va_K G.1 vwCl (tyG G) U ∧ (∀ k : Nat, k < 3 → va_Z RX4 (stN k) "[I" (.ref (G.2.2.2 k)) (fr G) U H ∧ vS G k U H) ∧ va_AO RX2 U ∧ va_AO RX3 U ∧ va_Nw (.castable "[I" "java/lang/Cloneable") U ∧ va_Nw (.methodLinkNest RX4 32 yX1_init RX4) U ∧ va_Nw (.methodLinkNest RX3 63 yX2_init RX4) U ∧ va_Nw (.fieldLinkNest RX3 9 RX4 "FIRST_VALUES" "[I" RX4) U
theorem KK.calling {G : GG} {U : State} {H : Heap} {g : JFrame} {mk : MethodId} {a : Array Value} (h : KK G U H) : KK G (U.calling g mk a) H := by
  obtain ⟨h1, h2, h3, h4, h5, h6, h7, h8⟩ := h
  have e : (U.calling g mk a).vm = U.vm := rfl
  have al : U.vm.Alike (U.calling g mk a).vm := Vm.Alike.refl U.vm
  exact ⟨va_K.moved al h1, fun k hk => ⟨va_Z.moved al (h2 k hk).1, vS.moved al (h2 k hk).2⟩, va_AO.moved al h3, va_AO.moved al h4, va_Nw.same rfl rfl h5, va_Nw.same rfl rfl h6, va_Nw.same rfl rfl h7, va_Nw.same rfl rfl h8⟩
theorem KK.warm {G : GG} {s U : State} {H H1 : Heap} (hW : s.WarmedH U.vm) (hq : ∀ a : Nat, a < H.size → ¬ fr G a → H1[a]? = H[a]?) (h : KK G s H) : KK G U H1 := by
  obtain ⟨h1, h2, h3, h4, h5, h6, h7, h8⟩ := h
  have al : s.vm.Alike U.vm := hW.alike
  exact ⟨va_K.moved al h1, fun k hk => ⟨va_Z.kept (va_Z.moved al (h2 k hk).1) hq, vS.kept (vS.moved al (h2 k hk).2) hq⟩, va_AO.moved al h3, va_AO.moved al h4, va_Nw.warmC hW h5, va_Nw.warmM hW h6, va_Nw.warmM hW h7, va_Nw.warmF hW h8⟩
abbrev CT : Type := Program × Env × State × MethodId × Array Value × List Frame × Method × Code
abbrev rmx (d mc ms : Nat) : Room := { frames := d, cells := mc, slots := ms, locals := 36 * d }
def Fx (G : GG) (X : CT) (cc : ByteArray) (own : String) (nL : Nat) (ret : Option FieldType) : Prop :=
  X.1.tables.exec = Jvm.exec ∧ X.2.2.2.2.2.2.2.code = cc ∧ X.2.2.2.2.2.2.2.maxLocals = nL ∧ X.2.2.1.vm.findClass own = some X.2.2.2.1.cls ∧ (∀ w ∈ TW, w.before X.2.2.2.2.1 X.2.2.1 = true) ∧ X.2.2.2.2.2.2.1.locks = false ∧ X.2.2.2.2.2.2.1.sig.returnType = ret ∧ KK G X.2.2.1 X.2.2.1.heap
def ex (G : GG) (l : Launch) (X : CT) (Q : State → Prop) (d mc ms cs sl : Nat) (cc : ByteArray) (own : String) (nL : Nat) (ret : Option FieldType) (h : HP) (z pc : Nat) (lv : List (Nat × Value)) (st : List Value) : Prop :=
  ∀ (H : Heap) (locs : List Loc) (ls : Array Slot), Fx G X cc own nL ret → Rel G h z H → va_S (fr G) X.2.2.1.heap H locs → lv_has ls nL lv → W X.1 l X.2.1 (rmx d mc ms) X.2.2.1 X.2.2.2.1 X.2.2.2.2.1 X.2.2.2.2.2.1 X.2.2.2.2.2.2.1 X.2.2.2.2.2.2.2 H locs cs sl Q (F0 X.2.2.2.1 pc ls st)
/-- what a method leaves -/
def QC (G : GG) (post : Option Value → HP → Nat → Prop) : Array Value → State → Outcome → State → Prop := fun _ st oc t => (∃ (r : Option Value) (h : HP) (z : Nat), oc = .returned r ∧ post r h z ∧ Rel G h z t.heap) ∧ va_F (fr G) st t
def PC (G : GG) (as : List Value) (h : HP) (z : Nat) : Array Value → State → Prop := fun v U => v = as.toArray ∧ Rel G h z U.heap ∧ KK G U U.heap
def RQ (G : GG) (X : CT) (Q : State → Prop) (cs sl : Nat) (post : Option Value → HP → Nat → Prop) : Prop := Q = MQ X.2.2.2.2.2.1 (QC G post) X.2.2.2.2.1 X.2.2.1 cs sl (fr G)
/-- a method's contract -/
def Ct (G : GG) (l : Launch) (d mc ms : Nat) (y : MethodName) (cc : ByteArray) (nL : Nat) (ret : Option FieldType) (as : List Value) (h : HP) (z : Nat) (post : Option Value → HP → Nat → Prop) : Prop :=
  Met l y (Cond.code y cc nL ret :: TW) (rmx d mc ms) (PC G as h z) (QC G post) mc ms (fr G)
theorem Ct.intro {G : GG} {l : Launch} {d mc ms : Nat} {y : MethodName} {cc : ByteArray} {nL : Nat} {ret : Option FieldType} {as : List Value} {h : HP} {z : Nat} {post : Option Value → HP → Nat → Prop} {lv : List (Nat × Value)} (hy : plainName y.cls = true) (hn : (lg_sl as).length ≤ nL) (hlv : lv_args 0 as = lv)
    (body : ∀ (X : CT) (Q : State → Prop), RQ G X Q mc ms post → X.2.2.2.2.2.2.1.name = y.name → ex G l X Q d mc ms 0 0 cc y.cls nL ret h z 0 lv []) : Ct G l d mc ms y cc nL ret as h z post := by
  refine Met.ofW (cc := cc) (maxL := nL) (ret := ret) hy rfl ?_
  intro p e s m args below meth c s₁ B hml hv
  obtain ⟨rfl, hR, hKK⟩ := hv
  have hts0 := atoms_spec (ws := Cond.code y cc nL ret :: TW) B.pre
  have hown : s.vm.findClass y.cls = some m.cls := findClass_of_methodNamed B.named
  have hl := lv_entry as (n := nL) hn
  rw [hlv] at hl
  rw [lg_entry_eq]
  exact body (p, e, s, m, as.toArray, below, meth, c) _ rfl (name_of_methodNamed B.named B.method).1 s.heap [] _ ⟨B.exec, B.bytes, hml, hown, fun w hw => hts0 w (List.mem_cons_of_mem _ hw), B.notSynchronized, B.returns, hKK⟩ hR va_S.rf hl
end
section
section EX
variable {G : GG} {l : Launch} {X : CT} {Q : State → Prop} {d mc ms cs sl : Nat} {cc : ByteArray} {own : String} {nL : Nat} {ret : Option FieldType} {h : HP} {z pc : Nat} {lv : List (Nat × Value)} {st : List Value}
theorem ex_iconst {n : Int} {v : Int32} (dg : decode cc pc = .ok (.iconst n, 1)) (hv : Int32.ofInt n = v) (k1 : ex G l X Q d mc ms cs sl cc own nL ret h z (pc + 1) lv (.int v :: st)) : ex G l X Q d mc ms cs sl cc own nL ret h z pc lv (st) :=
  fun H locs ls F R S L => lv_iconst F.1 F.2.1 dg hv (k1 H locs ls F R S L)
theorem ex_bipush {n : Int} {v : Int32} (dg : decode cc pc = .ok (.bipush n, 2)) (hv : (Int8.ofInt n).toInt32 = v) (k1 : ex G l X Q d mc ms cs sl cc own nL ret h z (pc + 2) lv (.int v :: st)) : ex G l X Q d mc ms cs sl cc own nL ret h z pc lv (st) :=
  fun H locs ls F R S L => lv_bipush F.1 F.2.1 dg hv (k1 H locs ls F R S L)
theorem ex_sipush {n : Int} {v : Int32} (dg : decode cc pc = .ok (.sipush n, 3)) (hv : (Int16.ofInt n).toInt32 = v) (k1 : ex G l X Q d mc ms cs sl cc own nL ret h z (pc + 3) lv (.int v :: st)) : ex G l X Q d mc ms cs sl cc own nL ret h z pc lv (st) :=
  fun H locs ls F R S L => lv_sipush F.1 F.2.1 dg hv (k1 H locs ls F R S L)
theorem ex_lconst {n : Fin 2} {v : Int64} (dg : decode cc pc = .ok (.lconst n, 1)) (hv : Int64.ofNat (n : Nat) = v) (k1 : ex G l X Q d mc ms cs sl cc own nL ret h z (pc + 1) lv (.long v :: st)) : ex G l X Q d mc ms cs sl cc own nL ret h z pc lv (st) :=
  fun H locs ls F R S L => lv_lconst F.1 F.2.1 dg hv (k1 H locs ls F R S L)
theorem ex_null  (dg : decode cc pc = .ok (.aconst_null, 1)) (k1 : ex G l X Q d mc ms cs sl cc own nL ret h z (pc + 1) lv (.null :: st)) : ex G l X Q d mc ms cs sl cc own nL ret h z pc lv (st) :=
  fun H locs ls F R S L => lv_null F.1 F.2.1 dg (k1 H locs ls F R S L)
theorem ex_ldc {index : Nat} {v : Int32} (dg : decode cc pc = .ok (.ldc index, 2)) (hc : Cond.constant own index v ∈ TW) (k1 : ex G l X Q d mc ms cs sl cc own nL ret h z (pc + 2) lv (.int v :: st)) : ex G l X Q d mc ms cs sl cc own nL ret h z pc lv (st) :=
  fun H locs ls F R S L => lv_ldc F.1 F.2.1 F.2.2.2.1 (F.2.2.2.2.1 _ hc) dg (k1 H locs ls F R S L)
theorem ex_ldc2 {index : Nat} {v : Int64} (dg : decode cc pc = .ok (.ldc2_w index, 3)) (hc : Cond.constantLong own index v ∈ TW) (k1 : ex G l X Q d mc ms cs sl cc own nL ret h z (pc + 3) lv (.long v :: st)) : ex G l X Q d mc ms cs sl cc own nL ret h z pc lv (st) :=
  fun H locs ls F R S L => lv_ldc2 F.1 F.2.1 F.2.2.2.1 (F.2.2.2.2.1 _ hc) dg (k1 H locs ls F R S L)
theorem ex_iload_n {k : Fin 4} {i : Nat} {x : Int32} (q : Nat) (dg : decode cc pc = .ok (.iload_n k, 1)) (hi : (k : Nat) = i) (hq : lv[q]? = some (i, .int x)) (k1 : ex G l X Q d mc ms cs sl cc own nL ret h z (pc + 1) lv (.int x :: st)) : ex G l X Q d mc ms cs sl cc own nL ret h z pc lv (st) :=
  fun H locs ls F R S L => lv_iload_n F.1 F.2.1 dg hi (lv_at L q hq) (k1 H locs ls F R S L)
theorem ex_iload {i : Nat} {x : Int32} (q : Nat) (dg : decode cc pc = .ok (.iload i, 2)) (hq : lv[q]? = some (i, .int x)) (k1 : ex G l X Q d mc ms cs sl cc own nL ret h z (pc + 2) lv (.int x :: st)) : ex G l X Q d mc ms cs sl cc own nL ret h z pc lv (st) :=
  fun H locs ls F R S L => lv_iload F.1 F.2.1 dg (lv_at L q hq) (k1 H locs ls F R S L)
theorem ex_lload_n {k : Fin 4} {i : Nat} {x : Int64} (q : Nat) (dg : decode cc pc = .ok (.lload_n k, 1)) (hi : (k : Nat) = i) (hq : lv[q]? = some (i, .long x)) (k1 : ex G l X Q d mc ms cs sl cc own nL ret h z (pc + 1) lv (.long x :: st)) : ex G l X Q d mc ms cs sl cc own nL ret h z pc lv (st) :=
  fun H locs ls F R S L => lv_lload_n F.1 F.2.1 dg hi (lv_at L q hq) (k1 H locs ls F R S L)
theorem ex_lload {i : Nat} {x : Int64} (q : Nat) (dg : decode cc pc = .ok (.lload i, 2)) (hq : lv[q]? = some (i, .long x)) (k1 : ex G l X Q d mc ms cs sl cc own nL ret h z (pc + 2) lv (.long x :: st)) : ex G l X Q d mc ms cs sl cc own nL ret h z pc lv (st) :=
  fun H locs ls F R S L => lv_lload F.1 F.2.1 dg (lv_at L q hq) (k1 H locs ls F R S L)
theorem ex_aload_n {k : Fin 4} {i : Nat} {x : Nat} (q : Nat) (dg : decode cc pc = .ok (.aload_n k, 1)) (hi : (k : Nat) = i) (hq : lv[q]? = some (i, .ref x)) (k1 : ex G l X Q d mc ms cs sl cc own nL ret h z (pc + 1) lv (.ref x :: st)) : ex G l X Q d mc ms cs sl cc own nL ret h z pc lv (st) :=
  fun H locs ls F R S L => lv_aload_n F.1 F.2.1 dg hi (lv_at L q hq) (k1 H locs ls F R S L)
theorem ex_aload {i : Nat} {x : Nat} (q : Nat) (dg : decode cc pc = .ok (.aload i, 2)) (hq : lv[q]? = some (i, .ref x)) (k1 : ex G l X Q d mc ms cs sl cc own nL ret h z (pc + 2) lv (.ref x :: st)) : ex G l X Q d mc ms cs sl cc own nL ret h z pc lv (st) :=
  fun H locs ls F R S L => lv_aload F.1 F.2.1 dg (lv_at L q hq) (k1 H locs ls F R S L)
theorem ex_aload_nN {k : Fin 4} {i : Nat} (q : Nat) (dg : decode cc pc = .ok (.aload_n k, 1)) (hi : (k : Nat) = i) (hq : lv[q]? = some (i, .null)) (k1 : ex G l X Q d mc ms cs sl cc own nL ret h z (pc + 1) lv (.null :: st)) : ex G l X Q d mc ms cs sl cc own nL ret h z pc lv (st) :=
  fun H locs ls F R S L => lv_aload_nN F.1 F.2.1 dg hi (lv_at L q hq) (k1 H locs ls F R S L)
theorem ex_aloadN {i : Nat} (q : Nat) (dg : decode cc pc = .ok (.aload i, 2)) (hq : lv[q]? = some (i, .null)) (k1 : ex G l X Q d mc ms cs sl cc own nL ret h z (pc + 2) lv (.null :: st)) : ex G l X Q d mc ms cs sl cc own nL ret h z pc lv (st) :=
  fun H locs ls F R S L => lv_aloadN F.1 F.2.1 dg (lv_at L q hq) (k1 H locs ls F R S L)
theorem ex_istore_n {k : Fin 4} {i : Nat} {x : Int32} {lv' : List (Nat × Value)} (dg : decode cc pc = .ok (.istore_n k, 1)) (hi : (k : Nat) = i) (hn : i < nL) (hl : (i, Value.int x) :: lv.filter (fun q => !(q.1 == i) && !(q.1 + 1 == i && q.2.category == 2)) = lv') (k1 : ex G l X Q d mc ms cs sl cc own nL ret h z (pc + 1) lv' (st)) : ex G l X Q d mc ms cs sl cc own nL ret h z pc lv (.int x :: st) :=
  fun H locs ls F R S L => lv_istore_n F.1 F.2.1 dg hi L hn hl (fun ls L => k1 H locs ls F R S L)
theorem ex_istore {i : Nat} {x : Int32} {lv' : List (Nat × Value)} (dg : decode cc pc = .ok (.istore i, 2)) (hn : i < nL) (hl : (i, Value.int x) :: lv.filter (fun q => !(q.1 == i) && !(q.1 + 1 == i && q.2.category == 2)) = lv') (k1 : ex G l X Q d mc ms cs sl cc own nL ret h z (pc + 2) lv' (st)) : ex G l X Q d mc ms cs sl cc own nL ret h z pc lv (.int x :: st) :=
  fun H locs ls F R S L => lv_istore F.1 F.2.1 dg L hn hl (fun ls L => k1 H locs ls F R S L)
theorem ex_lstore_n {k : Fin 4} {i : Nat} {x : Int64} {lv' : List (Nat × Value)} (dg : decode cc pc = .ok (.lstore_n k, 1)) (hi : (k : Nat) = i) (hn : i + 1 < nL) (hl : (i, Value.long x) :: lv.filter (fun q => !(q.1 == i) && (!(q.1 == i + 1) && !(q.1 + 1 == i && q.2.category == 2))) = lv') (k1 : ex G l X Q d mc ms cs sl cc own nL ret h z (pc + 1) lv' (st)) : ex G l X Q d mc ms cs sl cc own nL ret h z pc lv (.long x :: st) :=
  fun H locs ls F R S L => lv_lstore_n F.1 F.2.1 dg hi L hn hl (fun ls L => k1 H locs ls F R S L)
theorem ex_lstore {i : Nat} {x : Int64} {lv' : List (Nat × Value)} (dg : decode cc pc = .ok (.lstore i, 2)) (hn : i + 1 < nL) (hl : (i, Value.long x) :: lv.filter (fun q => !(q.1 == i) && (!(q.1 == i + 1) && !(q.1 + 1 == i && q.2.category == 2))) = lv') (k1 : ex G l X Q d mc ms cs sl cc own nL ret h z (pc + 2) lv' (st)) : ex G l X Q d mc ms cs sl cc own nL ret h z pc lv (.long x :: st) :=
  fun H locs ls F R S L => lv_lstore F.1 F.2.1 dg L hn hl (fun ls L => k1 H locs ls F R S L)
theorem ex_astore_n {k : Fin 4} {i : Nat} {x : Nat} {lv' : List (Nat × Value)} (dg : decode cc pc = .ok (.astore_n k, 1)) (hi : (k : Nat) = i) (hn : i < nL) (hl : (i, Value.ref x) :: lv.filter (fun q => !(q.1 == i) && !(q.1 + 1 == i && q.2.category == 2)) = lv') (k1 : ex G l X Q d mc ms cs sl cc own nL ret h z (pc + 1) lv' (st)) : ex G l X Q d mc ms cs sl cc own nL ret h z pc lv (.ref x :: st) :=
  fun H locs ls F R S L => lv_astore_n F.1 F.2.1 dg hi L hn hl (fun ls L => k1 H locs ls F R S L)
theorem ex_astore {i : Nat} {x : Nat} {lv' : List (Nat × Value)} (dg : decode cc pc = .ok (.astore i, 2)) (hn : i < nL) (hl : (i, Value.ref x) :: lv.filter (fun q => !(q.1 == i) && !(q.1 + 1 == i && q.2.category == 2)) = lv') (k1 : ex G l X Q d mc ms cs sl cc own nL ret h z (pc + 2) lv' (st)) : ex G l X Q d mc ms cs sl cc own nL ret h z pc lv (.ref x :: st) :=
  fun H locs ls F R S L => lv_astore F.1 F.2.1 dg L hn hl (fun ls L => k1 H locs ls F R S L)
theorem ex_astore_nN {k : Fin 4} {i : Nat} {lv' : List (Nat × Value)} (dg : decode cc pc = .ok (.astore_n k, 1)) (hi : (k : Nat) = i) (hn : i < nL) (hl : (i, Value.null) :: lv.filter (fun q => !(q.1 == i) && !(q.1 + 1 == i && q.2.category == 2)) = lv') (k1 : ex G l X Q d mc ms cs sl cc own nL ret h z (pc + 1) lv' (st)) : ex G l X Q d mc ms cs sl cc own nL ret h z pc lv (.null :: st) :=
  fun H locs ls F R S L => lv_astore_nN F.1 F.2.1 dg hi L hn hl (fun ls L => k1 H locs ls F R S L)
theorem ex_astoreN {i : Nat} {lv' : List (Nat × Value)} (dg : decode cc pc = .ok (.astore i, 2)) (hn : i < nL) (hl : (i, Value.null) :: lv.filter (fun q => !(q.1 == i) && !(q.1 + 1 == i && q.2.category == 2)) = lv') (k1 : ex G l X Q d mc ms cs sl cc own nL ret h z (pc + 2) lv' (st)) : ex G l X Q d mc ms cs sl cc own nL ret h z pc lv (.null :: st) :=
  fun H locs ls F R S L => lv_astoreN F.1 F.2.1 dg L hn hl (fun ls L => k1 H locs ls F R S L)
theorem ex_iinc {i : Nat} {n : Int} {x v : Int32} {lv' : List (Nat × Value)} (q : Nat) (dg : decode cc pc = .ok (.iinc i n, 3)) (hq : lv[q]? = some (i, .int x)) (hv : x + Int32.ofInt n = v) (hn : i < nL) (hl : (i, Value.int v) :: lv.filter (fun q => !(q.1 == i) && !(q.1 + 1 == i && q.2.category == 2)) = lv') (k1 : ex G l X Q d mc ms cs sl cc own nL ret h z (pc + 3) lv' (st)) : ex G l X Q d mc ms cs sl cc own nL ret h z pc lv (st) :=
  fun H locs ls F R S L => lv_iinc F.1 F.2.1 dg L hq hv hn hl (fun ls L => k1 H locs ls F R S L)
theorem ex_iadd {x y : Int32} (dg : decode cc pc = .ok (.iadd, 1)) (k1 : ex G l X Q d mc ms cs sl cc own nL ret h z (pc + 1) lv (.int (x + y) :: st)) : ex G l X Q d mc ms cs sl cc own nL ret h z pc lv (.int y :: .int x :: st) :=
  fun H locs ls F R S L => lv_iadd F.1 F.2.1 dg (k1 H locs ls F R S L)
theorem ex_isub {x y : Int32} (dg : decode cc pc = .ok (.isub, 1)) (k1 : ex G l X Q d mc ms cs sl cc own nL ret h z (pc + 1) lv (.int (x - y) :: st)) : ex G l X Q d mc ms cs sl cc own nL ret h z pc lv (.int y :: .int x :: st) :=
  fun H locs ls F R S L => lv_isub F.1 F.2.1 dg (k1 H locs ls F R S L)
theorem ex_imul {x y : Int32} (dg : decode cc pc = .ok (.imul, 1)) (k1 : ex G l X Q d mc ms cs sl cc own nL ret h z (pc + 1) lv (.int (x * y) :: st)) : ex G l X Q d mc ms cs sl cc own nL ret h z pc lv (.int y :: .int x :: st) :=
  fun H locs ls F R S L => lv_imul F.1 F.2.1 dg (k1 H locs ls F R S L)
theorem ex_iand {x y : Int32} (dg : decode cc pc = .ok (.iand, 1)) (k1 : ex G l X Q d mc ms cs sl cc own nL ret h z (pc + 1) lv (.int (x &&& y) :: st)) : ex G l X Q d mc ms cs sl cc own nL ret h z pc lv (.int y :: .int x :: st) :=
  fun H locs ls F R S L => lv_iand F.1 F.2.1 dg (k1 H locs ls F R S L)
theorem ex_iaddN {a b : Nat} (dg : decode cc pc = .ok (.iadd, 1)) (k1 : ex G l X Q d mc ms cs sl cc own nL ret h z (pc + 1) lv (.int (nI (a + b)) :: st)) : ex G l X Q d mc ms cs sl cc own nL ret h z pc lv (.int (nI b) :: .int (nI a) :: st) :=
  fun H locs ls F R S L => lv_iadd F.1 F.2.1 dg (by rw [nI_add]; exact (k1 H locs ls F R S L))
theorem ex_imulN {a b : Nat} (dg : decode cc pc = .ok (.imul, 1)) (k1 : ex G l X Q d mc ms cs sl cc own nL ret h z (pc + 1) lv (.int (nI (a * b)) :: st)) : ex G l X Q d mc ms cs sl cc own nL ret h z pc lv (.int (nI b) :: .int (nI a) :: st) :=
  fun H locs ls F R S L => lv_imul F.1 F.2.1 dg (by rw [pk_mul]; exact (k1 H locs ls F R S L))
theorem ex_isubN {a b : Nat} (dg : decode cc pc = .ok (.isub, 1)) (hba : b ≤ a) (k1 : ex G l X Q d mc ms cs sl cc own nL ret h z (pc + 1) lv (.int (nI (a - b)) :: st)) : ex G l X Q d mc ms cs sl cc own nL ret h z pc lv (.int (nI b) :: .int (nI a) :: st) :=
  fun H locs ls F R S L => lv_isub F.1 F.2.1 dg (by rw [pk_sub hba]; exact (k1 H locs ls F R S L))
theorem ex_idiv {x y : Int32} (dg : decode cc pc = .ok (.idiv, 1)) (hne : ¬ y = 0) (k1 : ex G l X Q d mc ms cs sl cc own nL ret h z (pc + 1) lv (.int (x / y) :: st)) : ex G l X Q d mc ms cs sl cc own nL ret h z pc lv (.int y :: .int x :: st) :=
  fun H locs ls F R S L => lv_idiv F.1 F.2.1 dg hne (k1 H locs ls F R S L)
theorem ex_irem {x y : Int32} (dg : decode cc pc = .ok (.irem, 1)) (hne : ¬ y = 0) (k1 : ex G l X Q d mc ms cs sl cc own nL ret h z (pc + 1) lv (.int (x - x / y * y) :: st)) : ex G l X Q d mc ms cs sl cc own nL ret h z pc lv (.int y :: .int x :: st) :=
  fun H locs ls F R S L => lv_irem F.1 F.2.1 dg hne (k1 H locs ls F R S L)
theorem ex_i2l {x : Int32} {v : Int64} (dg : decode cc pc = .ok (.i2l, 1)) (hv : x.toInt64 = v) (k1 : ex G l X Q d mc ms cs sl cc own nL ret h z (pc + 1) lv (.long v :: st)) : ex G l X Q d mc ms cs sl cc own nL ret h z pc lv (.int x :: st) :=
  fun H locs ls F R S L => lv_i2l F.1 F.2.1 dg hv (k1 H locs ls F R S L)
theorem ex_l2i {x : Int64} {v : Int32} (dg : decode cc pc = .ok (.l2i, 1)) (hv : x.toInt32 = v) (k1 : ex G l X Q d mc ms cs sl cc own nL ret h z (pc + 1) lv (.int v :: st)) : ex G l X Q d mc ms cs sl cc own nL ret h z pc lv (.long x :: st) :=
  fun H locs ls F R S L => lv_l2i F.1 F.2.1 dg hv (k1 H locs ls F R S L)
theorem ex_i2c {x : Int32} {v : Int32} (dg : decode cc pc = .ok (.i2c, 1)) (hv : (x.toUInt32 % 65536).toInt32 = v) (k1 : ex G l X Q d mc ms cs sl cc own nL ret h z (pc + 1) lv (.int v :: st)) : ex G l X Q d mc ms cs sl cc own nL ret h z pc lv (.int x :: st) :=
  fun H locs ls F R S L => lv_i2c F.1 F.2.1 dg hv (k1 H locs ls F R S L)
theorem ex_land {x y : Int64} (dg : decode cc pc = .ok (.land, 1)) (k1 : ex G l X Q d mc ms cs sl cc own nL ret h z (pc + 1) lv (.long (x &&& y) :: st)) : ex G l X Q d mc ms cs sl cc own nL ret h z pc lv (.long y :: .long x :: st) :=
  fun H locs ls F R S L => lv_land F.1 F.2.1 dg (k1 H locs ls F R S L)
theorem ex_lor {x y : Int64} (dg : decode cc pc = .ok (.lor, 1)) (k1 : ex G l X Q d mc ms cs sl cc own nL ret h z (pc + 1) lv (.long (x ||| y) :: st)) : ex G l X Q d mc ms cs sl cc own nL ret h z pc lv (.long y :: .long x :: st) :=
  fun H locs ls F R S L => lv_lor F.1 F.2.1 dg (k1 H locs ls F R S L)
theorem ex_lushr {x v : Int64} {y : Int32} (dg : decode cc pc = .ok (.lushr, 1)) (hv : (x.toUInt64 >>> (y.toInt64.toUInt64 &&& Int64.toUInt64 63)).toInt64 = v) (k1 : ex G l X Q d mc ms cs sl cc own nL ret h z (pc + 1) lv (.long v :: st)) : ex G l X Q d mc ms cs sl cc own nL ret h z pc lv (.int y :: .long x :: st) :=
  fun H locs ls F R S L => lv_lushr F.1 F.2.1 dg hv (k1 H locs ls F R S L)
theorem ex_lshl {x v : Int64} {y : Int32} (dg : decode cc pc = .ok (.lshl, 1)) (hv : x <<< (y.toInt64 &&& 63) = v) (k1 : ex G l X Q d mc ms cs sl cc own nL ret h z (pc + 1) lv (.long v :: st)) : ex G l X Q d mc ms cs sl cc own nL ret h z pc lv (.int y :: .long x :: st) :=
  fun H locs ls F R S L => lv_lshl F.1 F.2.1 dg hv (k1 H locs ls F R S L)
theorem ex_lshr {x v : Int64} {y : Int32} (dg : decode cc pc = .ok (.lshr, 1)) (hv : x >>> (y.toInt64 &&& 63) = v) (k1 : ex G l X Q d mc ms cs sl cc own nL ret h z (pc + 1) lv (.long v :: st)) : ex G l X Q d mc ms cs sl cc own nL ret h z pc lv (.int y :: .long x :: st) :=
  fun H locs ls F R S L => lv_lshr F.1 F.2.1 dg hv (k1 H locs ls F R S L)
theorem ex_dup {va : Value} (dg : decode cc pc = .ok (.dup, 1)) (hva : va.category = 1) (k1 : ex G l X Q d mc ms cs sl cc own nL ret h z (pc + 1) lv (va :: va :: st)) : ex G l X Q d mc ms cs sl cc own nL ret h z pc lv (va :: st) :=
  fun H locs ls F R S L => lv_dup F.1 F.2.1 dg hva (k1 H locs ls F R S L)
theorem ex_pop {va : Value} (dg : decode cc pc = .ok (.pop, 1)) (hva : va.category = 1) (k1 : ex G l X Q d mc ms cs sl cc own nL ret h z (pc + 1) lv (st)) : ex G l X Q d mc ms cs sl cc own nL ret h z pc lv (va :: st) :=
  fun H locs ls F R S L => lv_pop F.1 F.2.1 dg hva (k1 H locs ls F R S L)
theorem ex_dup2 {va vb : Value} (dg : decode cc pc = .ok (.dup2, 1)) (hva : va.category = 1) (hvb : vb.category = 1) (k1 : ex G l X Q d mc ms cs sl cc own nL ret h z (pc + 1) lv (va :: vb :: va :: vb :: st)) : ex G l X Q d mc ms cs sl cc own nL ret h z pc lv (va :: vb :: st) :=
  fun H locs ls F R S L => lv_dup2_11 F.1 F.2.1 dg hva hvb (k1 H locs ls F R S L)
theorem ex_if_eq {x : Int32} {off : Int} {tgt : Nat} (dg : decode cc pc = .ok (.ifCond .eq off, 3)) (ht : (pc : Int) + off = (tgt : Int)) (kt : x = 0 → ex G l X Q d mc ms cs sl cc own nL ret h z tgt lv (st)) (kf : ¬ x = 0 → ex G l X Q d mc ms cs sl cc own nL ret h z (pc + 3) lv (st)) : ex G l X Q d mc ms cs sl cc own nL ret h z pc lv (.int x :: st) :=
  fun H locs ls F R S L => lv_if_eq F.1 F.2.1 dg ht (fun c => kt c H locs ls F R S L) (fun c => kf c H locs ls F R S L)
theorem ex_icmp_eq {x y : Int32} {off : Int} {tgt : Nat} (dg : decode cc pc = .ok (.if_icmp .eq off, 3)) (ht : (pc : Int) + off = (tgt : Int)) (kt : x = y → ex G l X Q d mc ms cs sl cc own nL ret h z tgt lv (st)) (kf : ¬ x = y → ex G l X Q d mc ms cs sl cc own nL ret h z (pc + 3) lv (st)) : ex G l X Q d mc ms cs sl cc own nL ret h z pc lv (.int y :: .int x :: st) :=
  fun H locs ls F R S L => lv_icmp_eq F.1 F.2.1 dg ht (fun c => kt c H locs ls F R S L) (fun c => kf c H locs ls F R S L)
theorem ex_if_ne {x : Int32} {off : Int} {tgt : Nat} (dg : decode cc pc = .ok (.ifCond .ne off, 3)) (ht : (pc : Int) + off = (tgt : Int)) (kt : ¬ x = 0 → ex G l X Q d mc ms cs sl cc own nL ret h z tgt lv (st)) (kf : x = 0 → ex G l X Q d mc ms cs sl cc own nL ret h z (pc + 3) lv (st)) : ex G l X Q d mc ms cs sl cc own nL ret h z pc lv (.int x :: st) :=
  fun H locs ls F R S L => lv_if_ne F.1 F.2.1 dg ht (fun c => kt c H locs ls F R S L) (fun c => kf c H locs ls F R S L)
theorem ex_icmp_ne {x y : Int32} {off : Int} {tgt : Nat} (dg : decode cc pc = .ok (.if_icmp .ne off, 3)) (ht : (pc : Int) + off = (tgt : Int)) (kt : ¬ x = y → ex G l X Q d mc ms cs sl cc own nL ret h z tgt lv (st)) (kf : x = y → ex G l X Q d mc ms cs sl cc own nL ret h z (pc + 3) lv (st)) : ex G l X Q d mc ms cs sl cc own nL ret h z pc lv (.int y :: .int x :: st) :=
  fun H locs ls F R S L => lv_icmp_ne F.1 F.2.1 dg ht (fun c => kt c H locs ls F R S L) (fun c => kf c H locs ls F R S L)
theorem ex_if_lt {x : Int32} {off : Int} {tgt : Nat} (dg : decode cc pc = .ok (.ifCond .lt off, 3)) (ht : (pc : Int) + off = (tgt : Int)) (kt : x < 0 → ex G l X Q d mc ms cs sl cc own nL ret h z tgt lv (st)) (kf : ¬ x < 0 → ex G l X Q d mc ms cs sl cc own nL ret h z (pc + 3) lv (st)) : ex G l X Q d mc ms cs sl cc own nL ret h z pc lv (.int x :: st) :=
  fun H locs ls F R S L => lv_if_lt F.1 F.2.1 dg ht (fun c => kt c H locs ls F R S L) (fun c => kf c H locs ls F R S L)
theorem ex_icmp_lt {x y : Int32} {off : Int} {tgt : Nat} (dg : decode cc pc = .ok (.if_icmp .lt off, 3)) (ht : (pc : Int) + off = (tgt : Int)) (kt : x < y → ex G l X Q d mc ms cs sl cc own nL ret h z tgt lv (st)) (kf : ¬ x < y → ex G l X Q d mc ms cs sl cc own nL ret h z (pc + 3) lv (st)) : ex G l X Q d mc ms cs sl cc own nL ret h z pc lv (.int y :: .int x :: st) :=
  fun H locs ls F R S L => lv_icmp_lt F.1 F.2.1 dg ht (fun c => kt c H locs ls F R S L) (fun c => kf c H locs ls F R S L)
theorem ex_if_ge {x : Int32} {off : Int} {tgt : Nat} (dg : decode cc pc = .ok (.ifCond .ge off, 3)) (ht : (pc : Int) + off = (tgt : Int)) (kt : 0 ≤ x → ex G l X Q d mc ms cs sl cc own nL ret h z tgt lv (st)) (kf : ¬ 0 ≤ x → ex G l X Q d mc ms cs sl cc own nL ret h z (pc + 3) lv (st)) : ex G l X Q d mc ms cs sl cc own nL ret h z pc lv (.int x :: st) :=
  fun H locs ls F R S L => lv_if_ge F.1 F.2.1 dg ht (fun c => kt c H locs ls F R S L) (fun c => kf c H locs ls F R S L)
theorem ex_icmp_ge {x y : Int32} {off : Int} {tgt : Nat} (dg : decode cc pc = .ok (.if_icmp .ge off, 3)) (ht : (pc : Int) + off = (tgt : Int)) (kt : y ≤ x → ex G l X Q d mc ms cs sl cc own nL ret h z tgt lv (st)) (kf : ¬ y ≤ x → ex G l X Q d mc ms cs sl cc own nL ret h z (pc + 3) lv (st)) : ex G l X Q d mc ms cs sl cc own nL ret h z pc lv (.int y :: .int x :: st) :=
  fun H locs ls F R S L => lv_icmp_ge F.1 F.2.1 dg ht (fun c => kt c H locs ls F R S L) (fun c => kf c H locs ls F R S L)
theorem ex_if_gt {x : Int32} {off : Int} {tgt : Nat} (dg : decode cc pc = .ok (.ifCond .gt off, 3)) (ht : (pc : Int) + off = (tgt : Int)) (kt : 0 < x → ex G l X Q d mc ms cs sl cc own nL ret h z tgt lv (st)) (kf : ¬ 0 < x → ex G l X Q d mc ms cs sl cc own nL ret h z (pc + 3) lv (st)) : ex G l X Q d mc ms cs sl cc own nL ret h z pc lv (.int x :: st) :=
  fun H locs ls F R S L => lv_if_gt F.1 F.2.1 dg ht (fun c => kt c H locs ls F R S L) (fun c => kf c H locs ls F R S L)
theorem ex_icmp_gt {x y : Int32} {off : Int} {tgt : Nat} (dg : decode cc pc = .ok (.if_icmp .gt off, 3)) (ht : (pc : Int) + off = (tgt : Int)) (kt : y < x → ex G l X Q d mc ms cs sl cc own nL ret h z tgt lv (st)) (kf : ¬ y < x → ex G l X Q d mc ms cs sl cc own nL ret h z (pc + 3) lv (st)) : ex G l X Q d mc ms cs sl cc own nL ret h z pc lv (.int y :: .int x :: st) :=
  fun H locs ls F R S L => lv_icmp_gt F.1 F.2.1 dg ht (fun c => kt c H locs ls F R S L) (fun c => kf c H locs ls F R S L)
theorem ex_if_le {x : Int32} {off : Int} {tgt : Nat} (dg : decode cc pc = .ok (.ifCond .le off, 3)) (ht : (pc : Int) + off = (tgt : Int)) (kt : x ≤ 0 → ex G l X Q d mc ms cs sl cc own nL ret h z tgt lv (st)) (kf : ¬ x ≤ 0 → ex G l X Q d mc ms cs sl cc own nL ret h z (pc + 3) lv (st)) : ex G l X Q d mc ms cs sl cc own nL ret h z pc lv (.int x :: st) :=
  fun H locs ls F R S L => lv_if_le F.1 F.2.1 dg ht (fun c => kt c H locs ls F R S L) (fun c => kf c H locs ls F R S L)
theorem ex_icmp_le {x y : Int32} {off : Int} {tgt : Nat} (dg : decode cc pc = .ok (.if_icmp .le off, 3)) (ht : (pc : Int) + off = (tgt : Int)) (kt : x ≤ y → ex G l X Q d mc ms cs sl cc own nL ret h z tgt lv (st)) (kf : ¬ x ≤ y → ex G l X Q d mc ms cs sl cc own nL ret h z (pc + 3) lv (st)) : ex G l X Q d mc ms cs sl cc own nL ret h z pc lv (.int y :: .int x :: st) :=
  fun H locs ls F R S L => lv_icmp_le F.1 F.2.1 dg ht (fun c => kt c H locs ls F R S L) (fun c => kf c H locs ls F R S L)
theorem ex_goto {off : Int} {tgt : Nat} (dg : decode cc pc = .ok (.goto off, 3)) (ht : (pc : Int) + off = (tgt : Int)) (k1 : ex G l X Q d mc ms cs sl cc own nL ret h z tgt lv (st)) : ex G l X Q d mc ms cs sl cc own nL ret h z pc lv (st) :=
  fun H locs ls F R S L => lv_goto F.1 F.2.1 dg ht (k1 H locs ls F R S L)
theorem ex_ifnonnull {x : Nat} {off : Int} {tgt : Nat} (dg : decode cc pc = .ok (.ifnonnull off, 3)) (ht : (pc : Int) + off = (tgt : Int)) (k1 : ex G l X Q d mc ms cs sl cc own nL ret h z tgt lv (st)) : ex G l X Q d mc ms cs sl cc own nL ret h z pc lv (.ref x :: st) :=
  fun H locs ls F R S L => lv_ifnonnull F.1 F.2.1 dg ht (k1 H locs ls F R S L)
theorem ex_ifnonnullN {off : Int} (dg : decode cc pc = .ok (.ifnonnull off, 3)) (k1 : ex G l X Q d mc ms cs sl cc own nL ret h z (pc + 3) lv (st)) : ex G l X Q d mc ms cs sl cc own nL ret h z pc lv (.null :: st) :=
  fun H locs ls F R S L => lv_ifnonnullN F.1 F.2.1 dg (k1 H locs ls F R S L)
theorem ex_ifnull {x : Nat} {off : Int} (dg : decode cc pc = .ok (.ifnull off, 3)) (k1 : ex G l X Q d mc ms cs sl cc own nL ret h z (pc + 3) lv (st)) : ex G l X Q d mc ms cs sl cc own nL ret h z pc lv (.ref x :: st) :=
  fun H locs ls F R S L => lv_ifnull F.1 F.2.1 dg (k1 H locs ls F R S L)
theorem ex_ifnullN {off : Int} {tgt : Nat} (dg : decode cc pc = .ok (.ifnull off, 3)) (ht : (pc : Int) + off = (tgt : Int)) (k1 : ex G l X Q d mc ms cs sl cc own nL ret h z tgt lv (st)) : ex G l X Q d mc ms cs sl cc own nL ret h z pc lv (.null :: st) :=
  fun H locs ls F R S L => lv_ifnullN F.1 F.2.1 dg ht (k1 H locs ls F R S L)
theorem ex_tableOut {dflt lo hi : Int} {offs : Array Int} {len : Nat} {x : Int32} {tgt : Nat} (dg : decode cc pc = .ok (.tableswitch dflt lo hi offs, len)) (hx : x.toInt < lo ∨ hi < x.toInt) (ht : (pc : Int) + dflt = (tgt : Int)) (k1 : ex G l X Q d mc ms cs sl cc own nL ret h z tgt lv (st)) : ex G l X Q d mc ms cs sl cc own nL ret h z pc lv (.int x :: st) :=
  fun H locs ls F R S L => lv_tableOut F.1 F.2.1 dg hx ht (k1 H locs ls F R S L)
theorem ex_tableIn {dflt lo hi : Int} {offs : Array Int} {len : Nat} {x : Int32} {off : Int} {tgt : Nat} (dg : decode cc pc = .ok (.tableswitch dflt lo hi offs, len)) (h1 : ¬ x.toInt < lo) (h2 : ¬ hi < x.toInt) (ho : offs[(x.toInt - lo).toNat]? = some off) (ht : (pc : Int) + off = (tgt : Int)) (k1 : ex G l X Q d mc ms cs sl cc own nL ret h z tgt lv (st)) : ex G l X Q d mc ms cs sl cc own nL ret h z pc lv (.int x :: st) :=
  fun H locs ls F R S L => lv_tableIn F.1 F.2.1 dg h1 h2 ho ht (k1 H locs ls F R S L)
theorem ex_lcmp {x y : Int64} (dg : decode cc pc = .ok (.lcmp, 1)) (k1 : ex G l X Q d mc ms cs sl cc own nL ret h z (pc + 1) lv (.int (lg_cmp x y) :: st)) : ex G l X Q d mc ms cs sl cc own nL ret h z pc lv (.long y :: .long x :: st) :=
  fun H locs ls F R S L => W.lcmp F.1 F.2.1 dg (k1 H locs ls F R S L)
end EX
end
section
/-! the rows of 'ex' that touch the heap -/
theorem Rel.put {G : GG} {h : HP} {z a : Nat} {e e0 : va_E} {H H1 : Heap} (R : Rel G h z H) (he : h a = some e0) (z1 : H1.size = H.size) (o : ∀ q : Nat, q ≠ a → H1[q]? = H[q]?) (n : va_at G.1 vwCl (a, e) H1) : Rel G (hu h a e) z H1 := by
  refine ⟨z1.trans R.1, R.2.1, fun b e1 hb => ?_⟩
  by_cases q : b = a
  · subst q
    rw [hu_s] at hb
    cases hb
    exact ⟨(R.2.2 _ _ he).1, n⟩
  · rw [hu_n q] at hb
    exact ⟨(R.2.2 _ _ hb).1, (R.2.2 _ _ hb).2.kept (o b q)⟩
theorem Rel.new {G : GG} {h : HP} {z : Nat} {e : va_E} {H H1 : Heap} (R : Rel G h z H) (z1 : H1.size = z + 1) (o : ∀ q : Nat, q < z → H1[q]? = H[q]?) (n : va_at G.1 vwCl (z, e) H1) : Rel G (hu h z e) (z + 1) H1 := by
  obtain ⟨rz, rb, rc⟩ := R
  subst rz
  refine ⟨z1, Nat.le_succ_of_le rb, fun b e1 hb => ?_⟩
  by_cases q : b = H.size
  · subst q
    rw [hu_s] at hb
    cases hb
    exact ⟨rb, n⟩
  · rw [hu_n q] at hb
    exact ⟨(rc _ _ hb).1, (rc _ _ hb).2.kept (o b (rc _ _ hb).2.lt)⟩
theorem Rel.P {G : GG} {h : HP} {z a : Nat} {e : va_E} {H : Heap} (R : Rel G h z H) (he : h a = some e) : va_P G.1 vwCl [(a, e)] H := by
  intro k q hk
  have : k = 0 := by
    rcases k with _ | k
    · rfl
    · simp at hk
  subst this
  cases hk
  exact (R.2.2 _ _ he).2
theorem vS_new {A : Nat → Prop} {H0 H H1 : Heap} {locs : List Loc} (h : va_S A H0 H locs) (z1 : H1.size = H.size + 1) (o : ∀ q : Nat, q < H.size → H1[q]? = H[q]?) : va_S A H0 H1 locs :=
  ⟨Nat.le_trans h.1 (by omega), fun x h1 h2 => (o x (Nat.lt_of_lt_of_le h1 h.1)).trans (h.2.1 x h1 h2), h.2.2⟩
/-- a field's link: of the class 'own' the entry 'idx' names the field k of the class ci -/
def FL (own : String) (idx ci k : Nat) (ty : FieldType) (fin : Bool) : Prop := ∃ (C : String) (T : u_T) (N : Nat) (t0 : Nat → FieldType), vwCl[ci]? = some (C, T, N) ∧ (∀ w ∈ u_ws C T N, w ∈ TW) ∧ (∀ k, k < N → parseFieldDescriptor (T k).2.2.1 = some (t0 k)) ∧ (∀ a, a < N → ∀ b, b < N → a ≠ b → (T a).2.1 ≠ (T b).2.1) ∧ k < N ∧ t0 k = ty ∧ (T k).2.2.2 = fin ∧ (T k).1 = C ∧ Cond.fieldLink own idx C (T k).2.1 (T k).2.2.1 ∈ TW
/-- a class that is made: of the class 'own' the entry 'idx' names the class ci, of N fields, whose first values are fs -/
def NL (own : String) (idx ci : Nat) (N : Nat) (fs : List Value) : Prop := ∃ (C : String) (T : u_T) (t0 : Nat → FieldType), vwCl[ci]? = some (C, T, N) ∧ (∀ w ∈ u_ws C T N, w ∈ TW) ∧ (∀ k, k < N → parseFieldDescriptor (T k).2.2.1 = some (t0 k)) ∧ (∀ j, j < N → defaultValue (t0 j) = vp_V fs j) ∧ Cond.classLink own idx C ∈ TW ∧ Cond.instantiable C N ∈ TW ∧ Cond.initialized C ∈ TW
section EH
variable {G : GG} {l : Launch} {X : CT} {Q : State → Prop} {d mc ms cs sl : Nat} {cc : ByteArray} {own : String} {nL : Nat} {ret : Option FieldType} {h : HP} {z pc : Nat} {lv : List (Nat × Value)} {st : List Value}
theorem ex_get {idx ci k a : Nat} {ty : FieldType} {fin : Bool} {fs : List Value} {v : Value} (L0 : FL own idx ci k ty fin) (he : h a = some (.inr (ci, fs))) (hv : fs[k]? = some v) (dg : decode cc pc = .ok (.getfield idx, 3)) (k1 : ex G l X Q d mc ms cs sl cc own nL ret h z (pc + 3) lv (v :: st)) : ex G l X Q d mc ms cs sl cc own nL ret h z pc lv (.ref a :: st) := by
  intro H locs ls F R S L
  obtain ⟨C, T, N, t0, c1, c2, c3, c4, c5, c6, c7, c8, c9⟩ := L0
  exact va_get (D := G.1) (cl := vwCl) (tys := tyG G) (ws := [(a, .inr (ci, fs))]) (Ts := TW) (C := C) (T := T) (N := N) F.1 F.2.1 F.2.2.2.2.1 c2 F.2.2.2.1 F.2.2.2.2.2.2.2.1 (R.P he) 0 rfl c1 k c5 (F.2.2.2.2.1 _ c9) (fun x hx => by rw [c8] at hx; exact hx) hv dg (k1 H locs ls F R S L)
theorem ex_put {idx ci k a : Nat} {ty : FieldType} {fs : List Value} {v : Value} (L0 : FL own idx ci k ty false) (he : h a = some (.inr (ci, fs))) (hn : narrow ty v = v) (hfit : fits ty v = true) (hl : k < fs.length) (dg : decode cc pc = .ok (.putfield idx, 3)) (k1 : ex G l X Q d mc ms cs sl cc own nL ret (hu h a (.inr (ci, fs.set k v))) z (pc + 3) lv st) : ex G l X Q d mc ms cs sl cc own nL ret h z pc lv (v :: .ref a :: st) := by
  intro H locs ls F R S L
  obtain ⟨C, T, N, t0, c1, c2, c3, c4, c5, c6, c7, c8, c9⟩ := L0
  have hK := F.2.2.2.2.2.2.2.1
  have hts := F.2.2.2.2.1
  have hown := F.2.2.2.1
  have hap := va_apart (own := own) hts c2 t0 c3 c4 hK c1
  obtain ⟨hb, r, h1, cell, q1, q2, q3, q4⟩ := R.2.2 _ _ he
  have hr : r = (C, T, N) := Option.some.inj (h1.symm.trans c1)
  subst hr
  obtain ⟨hS, hfc, kC, hkC, hkind⟩ := hK.1 ci _ c1
  obtain ⟨cf, kf, fi, f, hi, hsl⟩ := hS k c5
  have hlay := hts _ (c2 _ (u_in_lay c5))
  unfold u_lay at hlay
  rw [if_neg (by rw [c7]; decide)] at hlay
  have hst := (u_facts hfc hkC (u_lays hts c2 c5) hi).1
  have hd : parseFieldDescriptor (T k).2.2.1 = some ty := by rw [← c6]; exact c3 k c5
  have h6 := u_store hfc hkC hkind hlay hi hd hn hfit
  refine W.putK F.1 F.2.1 (f := f) ⟨hown, hts _ c9, ⟨_, _, _, by rw [c8] at hi; exact hi⟩, hst⟩ (by rw [q2]; exact h6) q1 q3 (by rw [hsl]; exact k2_hasslot (q4 k c5)) rfl rfl dg fun H' e1 e2 e3 => ?_
  rw [hsl] at e1 ⊢
  exact k1 H' _ ls F (R.put he e2 e3 ⟨_, c1, t_OB.to (V := updV (vp_V fs) k v) ⟨_, e1, q2, q3, t_set q4 hap c5 v⟩ (fun j _ => vp_updV_set hl v j)⟩) (S.put e2 e3 hb) L
theorem ex_putF {idx ci k a : Nat} {ty : FieldType} {fs : List Value} {v : Value} (hin : X.2.2.2.2.2.2.1.name = "<init>") (hoc : vwCl[ci]?.map (fun q => q.1) = some own) (L0 : FL own idx ci k ty true) (he : h a = some (.inr (ci, fs))) (hn : narrow ty v = v) (hfit : fits ty v = true) (hl : k < fs.length) (dg : decode cc pc = .ok (.putfield idx, 3)) (k1 : ex G l X Q d mc ms cs sl cc own nL ret (hu h a (.inr (ci, fs.set k v))) z (pc + 3) lv st) : ex G l X Q d mc ms cs sl cc own nL ret h z pc lv (v :: .ref a :: st) := by
  intro H locs ls F R S L
  obtain ⟨C, T, N, t0, c1, c2, c3, c4, c5, c6, c7, c8, c9⟩ := L0
  have hCo : C = own := by rw [c1] at hoc; exact Option.some.inj hoc
  have hK := F.2.2.2.2.2.2.2.1
  have hts := F.2.2.2.2.1
  have hown := F.2.2.2.1
  have hap := va_apart (own := own) hts c2 t0 c3 c4 hK c1
  obtain ⟨hb, r, h1, cell, q1, q2, q3, q4⟩ := R.2.2 _ _ he
  have hr : r = (C, T, N) := Option.some.inj (h1.symm.trans c1)
  subst hr
  obtain ⟨hS, hfc, kC, hkC, hkind⟩ := hK.1 ci _ c1
  obtain ⟨cf, kf, fi, f, hi, hsl⟩ := hS k c5
  have hlay := hts _ (c2 _ (u_in_lay c5))
  unfold u_lay at hlay
  rw [if_pos c7] at hlay
  have hst := (u_facts hfc hkC (u_lays hts c2 c5) hi).1
  have hcf : X.2.2.2.1.cls = cf := by
    obtain ⟨_, _, c', _, _, _, -, -, hf', -, -, -, hown2, -⟩ := Cond.laysFinal_spec hlay
    have e1 : c' = cf := by have := hi.symm.trans hf'; simp at this; exact this.1.symm
    rw [c8, hCo] at hown2
    rw [← e1]; exact Option.some.inj (hown.symm.trans hown2)
  have hd : parseFieldDescriptor (T k).2.2.1 = some ty := by rw [← c6]; exact c3 k c5
  have h6 := u_fits hfc hkC hkind (Or.inr hlay) hi hd hn hfit
  refine W.putFinK F.1 F.2.1 hown (hts _ c9) (by rw [c8] at hi; exact hi) hst hcf hin (by rw [q2]; exact h6) q1 q3 (by rw [hsl]; exact k2_hasslot (q4 k c5)) rfl rfl dg fun H' e1 e2 e3 => ?_
  rw [hsl] at e1 ⊢
  exact k1 H' _ ls F (R.put he e2 e3 ⟨_, c1, t_OB.to (V := updV (vp_V fs) k v) ⟨_, e1, q2, q3, t_set q4 hap c5 v⟩ (fun j _ => vp_updV_set hl v j)⟩) (S.put e2 e3 hb) L
theorem ex_new {idx ci N : Nat} {fs : List Value} (L0 : NL own idx ci N fs) (hc : cs + 1 ≤ mc) (hs : sl + N ≤ ms) (dg : decode cc pc = .ok (.new idx, 3)) (k1 : ex G l X Q d mc ms (cs + 1) (sl + N) cc own nL ret (hu h z (.inr (ci, fs))) (z + 1) (pc + 3) lv (.ref z :: st)) : ex G l X Q d mc ms cs sl cc own nL ret h z pc lv st := by
  intro H locs ls F R S L
  obtain ⟨C, T, t0, c1, c2, c3, c4, c5, c6, c7⟩ := L0
  have hts := F.2.2.2.2.1
  have hKn := F.2.2.2.2.2.2.2.1.1 ci _ c1
  have hz : H.size = z := R.1
  refine W.newcK F.1 F.2.1 F.2.2.2.1 (hts _ c5) (hts _ c6) (hts _ c7) rfl dg hc hs hKn.2.1 hz fun H1 kC hkC e1 z1 o1 => ?_
  exact k1 H1 locs ls F (R.new z1 o1 ⟨_, c1, (u_born t0 hts c2 hKn hkC e1 c3).to c4⟩) (vS_new S (by omega) (fun q hq => o1 q (by omega))) L
end EH
end
section
theorem nI_c {j n : Nat} (hj : j < n) (hn : n < 2 ^ 31) : (nI j).toNatClampNeg = j := nI_clamp (Nat.lt_trans hj hn)
theorem vS.T {G : GG} {k : Nat} {U : State} {H : Heap} (h : vS G k U H) : va_T .int (G.2.2.2 k) 6 (fun j => .int (stV k j)) (fr G) U H := by
  obtain ⟨cell, h1, h2, h3, h4, h5, h6, h7⟩ := h
  exact ⟨cell, h1, h2, h3, by omega, by rw [h4], h5, h7⟩
/-- an array's cell by its kind -/
abbrev aA (G : GG) (t n : Nat) (f : Nat → Int32) : va_E := .inl (G.2.1 t, n, .inl f)
abbrev aQ (G : GG) (t n : Nat) (f : Nat → Option Nat) : va_E := .inl (G.2.1 t, n, .inr (.inr (.inr (.inr f))))
section EA
variable {G : GG} {l : Launch} {X : CT} {Q : State → Prop} {d mc ms cs sl : Nat} {cc : ByteArray} {own : String} {nL : Nat} {ret : Option FieldType} {h : HP} {z pc : Nat} {lv : List (Nat × Value)} {st : List Value}
theorem ex_iald {a n j : Nat} {f : Nat → Int32} {x : Int32} (he : h a = some (aA G 0 n f)) (hx : x = nI j) (hj : j < n) (hn : n < 2 ^ 31) (dg : decode cc pc = .ok (.iaload, 1)) (k1 : ex G l X Q d mc ms cs sl cc own nL ret h z (pc + 1) lv (.int (f j) :: st)) : ex G l X Q d mc ms cs sl cc own nL ret h z pc lv (.int x :: .ref a :: st) := by
  intro H locs ls F R S L
  subst hx
  refine va_iald (D := G.1) (cl := vwCl) (tys := tyG G) (ws := [(a, aA G 0 n f)]) F.1 F.2.1 F.2.2.2.2.2.2.2.1 (R.P he) 0 0 rfl rfl (vp_in_nI hj hn) dg ?_
  rw [nI_c hj hn]
  exact k1 H locs ls F R S L
theorem ex_cald {a n j : Nat} {f : Nat → Int32} {x : Int32} (he : h a = some (aA G 1 n f)) (hx : x = nI j) (hj : j < n) (hn : n < 2 ^ 31) (dg : decode cc pc = .ok (.caload, 1)) (k1 : ex G l X Q d mc ms cs sl cc own nL ret h z (pc + 1) lv (.int (f j) :: st)) : ex G l X Q d mc ms cs sl cc own nL ret h z pc lv (.int x :: .ref a :: st) := by
  intro H locs ls F R S L
  subst hx
  refine va_cald (D := G.1) (cl := vwCl) (tys := tyG G) (ws := [(a, aA G 1 n f)]) F.1 F.2.1 F.2.2.2.2.2.2.2.1 (R.P he) 0 1 rfl rfl (vp_in_nI hj hn) dg ?_
  rw [nI_c hj hn]
  exact k1 H locs ls F R S L
theorem ex_aald3 {a n j : Nat} {f : Nat → Option Nat} {x : Int32} (he : h a = some (aQ G 3 n f)) (hx : x = nI j) (hj : j < n) (hn : n < 2 ^ 31) (dg : decode cc pc = .ok (.aaload, 1)) (k1 : ex G l X Q d mc ms cs sl cc own nL ret h z (pc + 1) lv (va_rf (f j) :: st)) : ex G l X Q d mc ms cs sl cc own nL ret h z pc lv (.int x :: .ref a :: st) := by
  intro H locs ls F R S L
  subst hx
  refine va_aldq (D := G.1) (cl := vwCl) (tys := tyG G) (ws := [(a, aQ G 3 n f)]) F.1 F.2.1 F.2.2.2.2.2.2.2.1 (R.P he) 0 3 rfl rfl (vp_in_nI hj hn) dg ?_
  rw [nI_c hj hn]
  exact k1 H locs ls F R S L
theorem ex_aald4 {a n j : Nat} {f : Nat → Option Nat} {x : Int32} (he : h a = some (aQ G 4 n f)) (hx : x = nI j) (hj : j < n) (hn : n < 2 ^ 31) (dg : decode cc pc = .ok (.aaload, 1)) (k1 : ex G l X Q d mc ms cs sl cc own nL ret h z (pc + 1) lv (va_rf (f j) :: st)) : ex G l X Q d mc ms cs sl cc own nL ret h z pc lv (.int x :: .ref a :: st) := by
  intro H locs ls F R S L
  subst hx
  refine va_aldq (D := G.1) (cl := vwCl) (tys := tyG G) (ws := [(a, aQ G 4 n f)]) F.1 F.2.1 F.2.2.2.2.2.2.2.1 (R.P he) 0 4 rfl rfl (vp_in_nI hj hn) dg ?_
  rw [nI_c hj hn]
  exact k1 H locs ls F R S L
theorem ex_iast {a n j : Nat} {f : Nat → Int32} {x v : Int32} (he : h a = some (aA G 0 n f)) (hx : x = nI j) (hj : j < n) (hn : n < 2 ^ 31) (dg : decode cc pc = .ok (.iastore, 1)) (k1 : ex G l X Q d mc ms cs sl cc own nL ret (hu h a (aA G 0 n (upd f j v))) z (pc + 1) lv st) : ex G l X Q d mc ms cs sl cc own nL ret h z pc lv (.int v :: .int x :: .ref a :: st) := by
  intro H locs ls F R S L
  subst hx
  have hK := F.2.2.2.2.2.2.2.1
  have hP : H[a]? = some (vp_cell (G.2.1 0) (n, .inl f)) := (R.2.2 _ _ he).2
  refine W.iast F.1 F.2.1 hP ((hK.2 0 _ rfl).1 n (fun j => .int (f j))) (fun q => by cases q) (by show ¬ (nI j < 0 ∨ (arrV _ _ _).slots.size ≤ _); rw [arrV_size]; exact vp_in_nI hj hn) rfl rfl dg fun H1 e z1 oq => ?_
  refine k1 H1 _ ls F (R.put he z1 oq ?_) (S.put z1 oq (R.2.2 _ _ he).1) L
  show H1[a]? = some (vp_cell _ _)
  rw [e, nI_c hj hn, vp_cell_i, vp_cell_i, arrV_store]
  congr 2
  funext q
  by_cases hq : q = j
  · subst hq
    simp [updV, upd]
  · simp [updV, upd, hq]
theorem ex_cast {a n j : Nat} {f : Nat → Int32} {x v : Int32} (he : h a = some (aA G 1 n f)) (hx : x = nI j) (hj : j < n) (hn : n < 2 ^ 31) (dg : decode cc pc = .ok (.castore, 1)) (k1 : ex G l X Q d mc ms cs sl cc own nL ret (hu h a (aA G 1 n (upd f j (vp_nar .char v)))) z (pc + 1) lv st) : ex G l X Q d mc ms cs sl cc own nL ret h z pc lv (.int v :: .int x :: .ref a :: st) := by
  intro H locs ls F R S L
  subst hx
  have hK := F.2.2.2.2.2.2.2.1
  have hP : H[a]? = some (vp_cell (G.2.1 1) (n, .inl f)) := (R.2.2 _ _ he).2
  refine W.cast F.1 F.2.1 hP ((hK.2 1 _ rfl).1 n (fun j => .int (f j))) (fun q => by cases q) (by show ¬ (nI j < 0 ∨ (arrV _ _ _).slots.size ≤ _); rw [arrV_size]; exact vp_in_nI hj hn) rfl rfl dg fun H1 e z1 oq => ?_
  refine k1 H1 _ ls F (R.put he z1 oq ?_) (S.put z1 oq (R.2.2 _ _ he).1) L
  show H1[a]? = some (vp_cell _ _)
  rw [e, nI_c hj hn, vp_cell_i, vp_cell_i, arrV_store]
  congr 2
  funext q
  by_cases hq : q = j
  · subst hq
    simp [updV, upd, vp_nar]
    try rfl
  · simp [updV, upd, hq]
/-- a reference is put into an array of its own class: t is the array's kind, ci the object's -/
theorem ex_aast {t ci a n j v : Nat} {f : Nat → Option Nat} {x : Int32} {vs : List Value} {r : vw_C} (hc : vwCl[ci]? = some r) (ht : (tyG G)[t]? = some (G.2.1 t, .object r.1)) (he : h a = some (aQ G t n f)) (hv : h v = some (.inr (ci, vs))) (hx : x = nI j) (hj : j < n) (hn : n < 2 ^ 31) (dg : decode cc pc = .ok (.aastore, 1)) (k1 : ex G l X Q d mc ms cs sl cc own nL ret (hu h a (aQ G t n (va_up f j (some v)))) z (pc + 1) lv st) : ex G l X Q d mc ms cs sl cc own nL ret h z pc lv (.ref v :: .int x :: .ref a :: st) := by
  intro H locs ls F R S L
  subst hx
  have hK := F.2.2.2.2.2.2.2.1
  have hP : H[a]? = some (vp_cell (G.2.1 t) (n, .inr (.inr (.inr (.inr f))))) := (R.2.2 _ _ he).2
  obtain ⟨-, r', hr', cellV, g1, g2, g3, -⟩ := R.2.2 _ _ hv
  have hcls := (hK.1 ci r hc).2
  obtain ⟨kA, comp, k1', k2, k3, -⟩ := (hK.2 t _ ht).2
  have hcomp : comp = G.1.1 ci := Option.some.inj (k3.symm.trans hcls.1)
  subst hcomp
  obtain ⟨kC, hkC, -⟩ := hcls.2
  have h0 : ¬ nI j < 0 := fun q => vp_in_nI hj hn (Or.inl q)
  refine W.aast F.1 F.2.1 hP (fun q h => by cases h) (fun h => by cases h) k1' k2 rfl hkC ⟨h0, by show _ < (arrV _ _ _).slots.size; rw [arrV_size, nI_c hj hn]; exact hj⟩ g1 (fun q h => by rw [g3] at h; cases h) (by rw [g2]; exact hkC) (by rw [g2]; exact va_assign hcls) rfl rfl dg fun H1 e z1 oq => ?_
  refine k1 H1 _ ls F (R.put he z1 oq ?_) (S.put z1 oq (R.2.2 _ _ he).1) L
  show H1[a]? = some (vp_cell _ _)
  rw [e, nI_c hj hn, vp_cell_q, vp_cell_q, arrV_store]
  congr 2
  funext q
  by_cases hq : q = j
  · subst hq
    simp [updV, va_up, va_rf]
  · simp [updV, va_up, hq]
theorem ex_alen {a t n : Nat} {x : (Nat → Int32) ⊕ (Nat → Int64) ⊕ (Nat → UInt32) ⊕ (Nat → UInt64) ⊕ (Nat → Option Nat)} {ty : FieldType} (ht : (tyG G)[t]? = some (G.2.1 t, ty)) (he : h a = some (.inl (G.2.1 t, n, x))) (dg : decode cc pc = .ok (.arraylength, 1)) (k1 : ex G l X Q d mc ms cs sl cc own nL ret h z (pc + 1) lv (.int (nI n) :: st)) : ex G l X Q d mc ms cs sl cc own nL ret h z pc lv (.ref a :: st) := by
  intro H locs ls F R S L
  exact va_alen (D := G.1) (cl := vwCl) (tys := tyG G) (ws := [(a, .inl (G.2.1 t, n, x))]) F.1 F.2.1 F.2.2.2.2.2.2.2.1 (R.P he) 0 t rfl ht rfl dg (k1 H locs ls F R S L)
/-- the static rows -/
theorem ex_gets {idx k : Nat} (hk : k < 3) (hl : Cond.fieldLink own idx RX4 (stN k) "[I" ∈ TW) (dg : decode cc pc = .ok (.getstatic idx, 3)) (k1 : ex G l X Q d mc ms cs sl cc own nL ret h z (pc + 3) lv (.ref (G.2.2.2 k) :: st)) : ex G l X Q d mc ms cs sl cc own nL ret h z pc lv st := by
  intro H locs ls F R S L
  exact va_gets F.1 F.2.1 (F.2.2.2.2.2.2.2.2.1 k hk).1 S F.2.2.2.1 (F.2.2.2.2.1 _ hl) (fun _ h => h) dg (k1 H locs ls F R S L)
theorem ex_getsN (ho : own = RX3) (dg : decode cc pc = .ok (.getstatic 9, 3)) (k1 : ex G l X Q d mc ms cs sl cc own nL ret h z (pc + 3) lv (.ref (G.2.2.2 0) :: st)) : ex G l X Q d mc ms cs sl cc own nL ret h z pc lv st := by
  intro H locs ls F R S L
  subst ho
  have hN := F.2.2.2.2.2.2.2.2.2.2.2.2.2.2
  exact va_getsN F.1 F.2.1 (F.2.2.2.2.2.2.2.2.1 0 (by decide)).1 S F.2.2.2.1 (va_Nw.use rfl hN) (fun _ h => h) dg (k1 H locs ls F R S L)
theorem ex_tld {k j : Nat} {x : Int32} (hk : k < 3) (hx : x = nI j) (hj : j < 6) (dg : decode cc pc = .ok (.iaload, 1)) (k1 : ex G l X Q d mc ms cs sl cc own nL ret h z (pc + 1) lv (.int (stV k j) :: st)) : ex G l X Q d mc ms cs sl cc own nL ret h z pc lv (.int x :: .ref (G.2.2.2 k) :: st) := by
  intro H locs ls F R S L
  subst hx
  exact va_ti F.1 F.2.1 (F.2.2.2.2.2.2.2.2.1 k hk).2.T S (vp_in_nI hj (by decide)) (by rw [nI_c hj (by decide)]) dg (k1 H locs ls F R S L)
theorem ex_tlen {k : Nat} (hk : k < 3) (dg : decode cc pc = .ok (.arraylength, 1)) (k1 : ex G l X Q d mc ms cs sl cc own nL ret h z (pc + 1) lv (.int (nI 6) :: st)) : ex G l X Q d mc ms cs sl cc own nL ret h z pc lv (.ref (G.2.2.2 k) :: st) := by
  intro H locs ls F R S L
  exact va_tlen F.1 F.2.1 (F.2.2.2.2.2.2.2.2.1 k hk).2.T S rfl dg (k1 H locs ls F R S L)
end EA
end
section
section EB
variable {G : GG} {l : Launch} {X : CT} {Q : State → Prop} {d mc ms cs sl : Nat} {cc : ByteArray} {own : String} {nL : Nat} {ret : Option FieldType} {h : HP} {z pc : Nat} {lv : List (Nat × Value)} {st : List Value}
theorem ex_newaI {n : Nat} (hw : Cond.arrayClass .int ∈ TW) (hn : n < 100000) (hc : cs + 1 ≤ mc) (hs : sl + n ≤ ms) (dg : decode cc pc = .ok (.newarray .int, 2)) (k1 : ex G l X Q d mc ms (cs + 1) (sl + n) cc own nL ret (hu h z (aA G 0 n (fun _ => 0))) (z + 1) (pc + 2) lv (.ref z :: st)) : ex G l X Q d mc ms cs sl cc own nL ret h z pc lv (.int (nI n) :: st) := by
  intro H locs ls F R S L
  have hb : n * componentBytes (newarray.typeOf .int) ≤ 536870912 := by
    show n * 4 ≤ _
    omega
  refine va_newaK (atype := .int) F.1 F.2.1 (F.2.2.2.2.1 _ hw) rfl dg rfl (nI_pos (by omega)) (nI_clamp (by omega)) hb hc hs R.1 fun H1 cA e1 z1 o1 hAr hNm => ?_
  obtain rfl : cA = G.2.1 0 := Option.some.inj (hNm.symm.trans (F.2.2.2.2.2.2.2.1.2 0 _ rfl).2)
  exact k1 H1 locs ls F (R.new z1 o1 e1) (vS_new S (by rw [R.1]; exact z1) (fun q hq => o1 q (by rw [← R.1]; exact hq))) L
theorem ex_newaC {n : Nat} (hw : Cond.arrayClass .char ∈ TW) (hn : n < 100000) (hc : cs + 1 ≤ mc) (hs : sl + n ≤ ms) (dg : decode cc pc = .ok (.newarray .char, 2)) (k1 : ex G l X Q d mc ms (cs + 1) (sl + n) cc own nL ret (hu h z (aA G 1 n (fun _ => 0))) (z + 1) (pc + 2) lv (.ref z :: st)) : ex G l X Q d mc ms cs sl cc own nL ret h z pc lv (.int (nI n) :: st) := by
  intro H locs ls F R S L
  have hb : n * componentBytes (newarray.typeOf .char) ≤ 536870912 := by
    show n * 2 ≤ _
    omega
  refine va_newaK (atype := .char) F.1 F.2.1 (F.2.2.2.2.1 _ hw) rfl dg rfl (nI_pos (by omega)) (nI_clamp (by omega)) hb hc hs R.1 fun H1 cA e1 z1 o1 hAr hNm => ?_
  obtain rfl : cA = G.2.1 1 := Option.some.inj (hNm.symm.trans (F.2.2.2.2.2.2.2.1.2 1 _ rfl).2)
  exact k1 H1 locs ls F (R.new z1 o1 e1) (vS_new S (by rw [R.1]; exact z1) (fun q hq => o1 q (by rw [← R.1]; exact hq))) L
theorem ex_anew {idx t n : Nat} {C : String} (ht : (tyG G)[t]? = some (G.2.1 t, .object C)) (hw : Cond.classLink own idx C ∈ TW) (hC : C = RX2 ∨ C = RX3) (hn : n < 100000) (hc : cs + 1 ≤ mc) (hs : sl + n ≤ ms) (dg : decode cc pc = .ok (.anewarray idx, 3)) (k1 : ex G l X Q d mc ms (cs + 1) (sl + n) cc own nL ret (hu h z (aQ G t n (fun _ => none))) (z + 1) (pc + 3) lv (.ref z :: st)) : ex G l X Q d mc ms cs sl cc own nL ret h z pc lv (.int (nI n) :: st) := by
  intro H locs ls F R S L
  have hAO : va_AO C X.2.2.1 := by
    rcases hC with rfl | rfl
    · exact F.2.2.2.2.2.2.2.2.2.1
    · exact F.2.2.2.2.2.2.2.2.2.2.1
  have hcl : (nI n).toNatClampNeg = n := nI_clamp (by omega)
  refine W.anew F.1 F.2.1 F.2.2.2.1 (F.2.2.2.2.1 _ hw) (va_AO.use hAO) rfl dg rfl (nI_pos (by omega)) (by rw [hcl]; omega) hc (by rw [hcl]; exact hs) fun cA kA comp f1 f2 f3 f4 => ?_
  rw [hcl]
  obtain ⟨kA', comp', -, -, -, g4⟩ := (F.2.2.2.2.2.2.2.1.2 t _ ht).2
  obtain rfl : cA = G.2.1 t := Option.some.inj (f1.symm.trans g4)
  have hz : H.size = z := R.1
  rw [hz]
  refine k1 _ locs ls F (R.new (by rw [Array.size_push, hz]) (fun q hq => by rw [Array.getElem?_push, if_neg (by omega)]) ?_) (vS_new S (by rw [Array.size_push]) (fun q hq => by rw [Array.getElem?_push, if_neg (by omega)])) L
  show (H.push _)[z]? = some (vp_cell _ _)
  rw [← hz, Array.getElem?_push_size, vp_cell_q, arrV_new]
  rfl
theorem ex_cast0 {idx t n a : Nat} {f : Nat → Int32} (hw : Cond.classLink own idx "[I" ∈ TW) (he : h a = some (aA G 0 n f)) (dg : decode cc pc = .ok (.checkcast idx, 3)) (k1 : ex G l X Q d mc ms cs sl cc own nL ret h z (pc + 3) lv (.ref a :: st)) : ex G l X Q d mc ms cs sl cc own nL ret h z pc lv (.ref a :: st) := by
  intro H locs ls F R S L
  exact va_castA (D := G.1) (cl := vwCl) (ws := [(a, aA G 0 n f)]) F.1 F.2.1 F.2.2.2.1 (F.2.2.2.2.1 _ hw) (R.P he) 0 rfl (F.2.2.2.2.2.2.2.1.2 0 _ rfl).2 dg (k1 H locs ls F R S L)
abbrev yClone (c : String) : MethodName := ⟨c, "clone", "()Ljava/lang/Object;"⟩
theorem ex_clone {idx k : Nat} (hk : k < 3) (w1 : Cond.methodLink own idx (yClone "[I") ∈ TW) (w2 : Cond.sameMethod "[I" "java/lang/Object" "clone" "()Ljava/lang/Object;" ∈ TW) (w3 : Cond.native (yClone "java/lang/Object") ∈ TW) (w4 : Cond.instanceMethod (yClone "java/lang/Object") ∈ TW) (w5 : Cond.selects "[I" (yClone "[I") (yClone "java/lang/Object") ∈ TW)
    (hd : 1 ≤ d) (hst : (st.map fun v => v.category).sum ≤ 8) (hc : cs + 1 ≤ mc) (hs : sl + 6 ≤ ms) (dg : decode cc pc = .ok (.invokevirtual idx, 3)) (k1 : ex G l X Q d mc ms (cs + 1) (sl + 6) cc own nL ret (hu h z (aA G 0 6 (stV k))) (z + 1) (pc + 3) lv (.ref z :: st)) : ex G l X Q d mc ms cs sl cc own nL ret h z pc lv (.ref (G.2.2.2 k) :: st) := by
  intro H locs ls F R S L T hT XX
  have hts := F.2.2.2.2.1
  have hK := F.2.2.2.2.2.2.2.1
  obtain ⟨cell, s1, s2, s3, s4, s5, s6, s7⟩ := (F.2.2.2.2.2.2.2.2.1 k hk).2
  have hcl := F.2.2.2.2.2.2.2.2.2.2.2.1
  have hnm : X.2.2.1.vm.findClass "[I" = some (G.2.1 0) := (hK.2 0 _ rfl).2
  obtain ⟨c0, t0', f1, f2, f3⟩ := Cond.castable_spec (va_Nw.use (A := X.2.2.2.2.1) rfl hcl)
  cases hnm.symm.trans f1
  have hcell : H[G.2.2.2 k]? = some cell := by rw [S.2.1 _ (Array.getElem?_eq_some_iff.mp s1).1 s7]; exact s1
  obtain ⟨hobj, kS, hkS, compS, hkindS⟩ := s2
  obtain ⟨-, kA, hkA, comp, hkind⟩ := State.isArrayOf_alike XX.warmed.alike ((hK.2 0 _ rfl).1 0 (fun _ => .null))
  have hvm : cell = ({ cls := cell.cls, slots := cell.slots, vm := cell.vm, monitor := cell.monitor } : Cell) ∨ True := Or.inr trivial
  obtain ⟨vm', X', stp⟩ := XX.cloneArray F.1 F.2.2.2.1 (hts _ w1) (hts _ w2) (hts _ w3) (hts _ w4) (hts _ w5) (a := G.2.2.2 k) (cell := cell) (by rw [hT]; exact hcell) hobj s3 (by rw [s6]; exact hnm) f2 (by rw [s6]; exact f3)
    (fun i v hv => by
      have hi : i < 6 := by rw [← s4]; exact (Array.getElem?_eq_some_iff.mp hv).1
      rw [s5 i hi] at hv
      cases hv
      rw [s6]
      have hk' : T.vm.classes[G.2.1 0]? = some kA := hkA
      simp [State.fitsSlot, State.slotType?, hk', hkind, fits])
    (g := F0 X.2.2.2.1 pc ls (.ref (G.2.2.2 k) :: st)) rfl (by show ls.size = _; rw [L.1]; exact F.2.2.1.symm) rfl (by rw [F.2.1]; exact dg) hd (by show 2 * 0 + _ + 14 ≤ 36 * d; omega) hc (by rw [s4]; exact hs) (hloader := Vm.clonesLoader_of_array hkS hkindS)
  have hce : ({ cls := cell.cls, slots := cell.slots } : Cell) = vp_cell (G.2.1 0) (6, .inl (stV k)) := by
    have e : cell.slots = (arrV (G.2.1 0) 6 (fun j => .int (stV k j))).slots := by
      apply Array.ext_getElem?
      intro i
      by_cases hi : i < 6
      · rw [s5 i hi, arrV_read _ _ hi]
      · rw [Array.getElem?_eq_none (by omega), Array.getElem?_eq_none (by rw [arrV_size]; omega)]
    rw [e, s6]
    rfl
  rw [hce, s4] at X'
  rw [hce, hT] at stp
  have hz : H.size = z := R.1
  obtain ⟨t2, a1, b1⟩ := k1 (H.push (vp_cell (G.2.1 0) (6, .inl (stV k)))) locs ls F (R.new (by rw [Array.size_push, hz]) (fun q hq => by rw [Array.getElem?_push, if_neg (by omega)]) (by show (H.push _)[z]? = some (vp_cell _ _); rw [← hz, Array.getElem?_push_size])) (vS_new S (by rw [Array.size_push]) (fun q hq => by rw [Array.getElem?_push, if_neg (by omega)])) L
    ((T.setVm vm').pushCell (vp_cell (G.2.1 0) (6, .inl (stV k)))) (by rw [← hT]; rfl) X'
  refine ⟨t2, stp t2 ?_, b1⟩
  rw [hz]
  exact a1
theorem ex_objInit {idx a : Nat} (w1 : Cond.methodLink own idx objectInit ∈ TW) (w2 : Cond.instanceMethod objectInit ∈ TW) (w3 : Cond.code objectInit ⟨#[0xb1]⟩ 1 none ∈ TW) (hd : 1 ≤ d) (hst : (st.map fun v => v.category).sum ≤ 8) (dg : decode cc pc = .ok (.invokespecial idx, 3)) (k1 : ex G l X Q d mc ms cs sl cc own nL ret h z (pc + 3) lv st) : ex G l X Q d mc ms cs sl cc own nL ret h z pc lv (.ref a :: st) := by
  intro H locs ls F R S L
  have hts := F.2.2.2.2.1
  exact W.objInit F.1 F.2.1 F.2.2.2.1 (hts _ w1) (hts _ w2) (hts _ w3) rfl (by show ls.size = _; rw [L.1]; exact F.2.2.1.symm) rfl dg hd (by show 2 * 0 + _ + 12 ≤ 36 * d; omega) (k1 H locs ls F R S L)
/-- System.arraycopy between two rows of ints, from the start -/
theorem ex_copy {idx a0 a n n0 n1 : Nat} {f g : Nat → Int32} (w1 : Cond.methodLink own idx arraycopyName ∈ TW) (w2 : Cond.native arraycopyName ∈ TW) (w3 : Cond.static arraycopyName ∈ TW) (w4 : Cond.initialized "java/lang/System" ∈ TW) (he0 : h a0 = some (aA G 0 n0 f)) (he : h a = some (aA G 0 n1 g)) (h0 : n ≤ n0) (h1 : n ≤ n1) (hn : n < 100000) (hd : 1 ≤ d) (hst : (st.map fun v => v.category).sum ≤ 8) (dg : decode cc pc = .ok (.invokestatic idx, 3)) (k1 : ex G l X Q d mc ms cs sl cc own nL ret (hu h a (aA G 0 n1 (va_cpy f g 0 0 n))) z (pc + 3) lv st) : ex G l X Q d mc ms cs sl cc own nL ret h z pc lv (.int (nI n) :: .int (nI 0) :: .ref a :: .int (nI 0) :: .ref a0 :: st) := by
  intro H locs ls F R S L T hT XX
  have hts := F.2.2.2.2.1
  have hK := F.2.2.2.2.2.2.2.1
  have hc0 : H[a0]? = some (vp_cell (G.2.1 0) (n0, .inl f)) := (R.2.2 _ _ he0).2
  have hc1 : H[a]? = some (vp_cell (G.2.1 0) (n1, .inl g)) := (R.2.2 _ _ he).2
  have z0 : (nI 0).toNatClampNeg = 0 := nI_clamp (by decide)
  have zn : (nI n).toNatClampNeg = n := nI_clamp (by omega)
  have hw : nativeFrameWords "java/lang/System" "arraycopy" 5 + 11 ≤ 28 := by decide +kernel
  obtain ⟨-, k0, hk0, cm0, hkk0⟩ := (hK.2 0 _ rfl).1 n0 (fun j => .int (f j))
  obtain ⟨vm', X', stp⟩ := XX.arraycopy F.1 F.2.2.2.1 (hts _ w1) (hts _ w2) (hts _ w3) (hts _ w4) (src := a0) (dst := a) (cs := vp_cell (G.2.1 0) (n0, .inl f)) (cd := vp_cell (G.2.1 0) (n1, .inl g)) (srcPos := nI 0) (destPos := nI 0) (n := nI n) (by rw [hT]; exact hc0) (by rw [hT]; exact hc1)
    (fun _ h => by cases h) (fun _ h => by cases h) (fun h => by cases h) (fun h => by cases h) hk0 hk0 hkk0 hkk0 (by simp [refKind]) (nI_pos (by decide)) (nI_pos (by decide)) (nI_pos (by omega))
    (by rw [nI_toInt (by decide), nI_toInt (by omega)]; show ¬ _ > ((arrV (G.2.1 0) n0 (fun j => .int (f j))).slots.size : Int); rw [arrV_size]; omega)
    (by rw [nI_toInt (by decide), nI_toInt (by omega)]; show ¬ _ > ((arrV (G.2.1 0) n1 (fun j => .int (g j))).slots.size : Int); rw [arrV_size]; omega)
    (fun vm₁ _ i hi => by
      rw [zn] at hi
      have e : (vp_cell (G.2.1 0) (n0, .inl f)).slots.getD ((nI 0).toNatClampNeg + i) .null = .int (f ((nI 0).toNatClampNeg + i)) := by
        show (arrV (G.2.1 0) n0 (fun j => .int (f j))).slots.getD _ _ = _
        rw [Array.getD_eq_getD_getElem?, arrV_read _ _ (by rw [z0]; omega)]
        rfl
      refine ⟨?_, ?_⟩
      · rw [e]
        rfl
      · rw [e]
        exact trivial)
    (g := F0 X.2.2.2.1 pc ls (.int (nI n) :: .int (nI 0) :: .ref a :: .int (nI 0) :: .ref a0 :: st)) rfl (by show ls.size = _; rw [L.1]; exact F.2.2.1.symm) (rest := st) rfl (by rw [F.2.1]; exact dg) hd (by show 2 * 0 + _ + (nativeFrameWords "java/lang/System" "arraycopy" 5 + 11) ≤ 36 * d; omega)
  have e1 : copied (vp_cell (G.2.1 0) (n0, .inl f)) (vp_cell (G.2.1 0) (n1, .inl g)) (nI 0) (nI 0) (nI n) = vp_cell (G.2.1 0) (n1, .inl (va_cpy f g (nI 0).toNatClampNeg (nI 0).toNatClampNeg (nI n).toNatClampNeg)) := va_copied (fun z => .int z) _ _ f g (by rw [z0, zn]; omega)
  rw [z0, zn] at e1
  rw [e1] at X' stp
  have hl : a < H.size := (Array.getElem?_eq_some_iff.mp hc1).1
  have hheap : ((T.setVm vm').setCell a (vp_cell (G.2.1 0) (n1, .inl (va_cpy f g 0 0 n)))).heap = H.setIfInBounds a (vp_cell (G.2.1 0) (n1, .inl (va_cpy f g 0 0 n))) := by rw [← hT]; rfl
  have oq : ∀ q : Nat, q ≠ a → (H.setIfInBounds a (vp_cell (G.2.1 0) (n1, .inl (va_cpy f g 0 0 n))))[q]? = H[q]? := fun q hq => by simp [Array.getElem?_setIfInBounds, Ne.symm hq]
  obtain ⟨t, a1, b1⟩ := k1 _ _ ls F (R.put he (by simp) oq (show (H.setIfInBounds a _)[a]? = some (vp_cell _ _) by simp [Array.getElem?_setIfInBounds, hl])) ⟨by simp; exact S.1, fun q g1 g2 => by
      rw [oq q (fun e => g2 (by rw [e]; exact (R.2.2 _ _ he).1))]
      exact S.2.1 q g1 g2, fun q hq => by
      rcases List.mem_append.mp hq with h | h
      · exact S.2.2 q h
      · obtain ⟨z, -, hz⟩ := List.mem_map.mp h
        rw [← hz]
        exact (R.2.2 _ _ he).1⟩ L _ hheap X'
  exact ⟨t, stp t a1, b1⟩
end EB
end
section
/-! calls by contract, and ends -/
abbrev notMH (y : MethodName) : Prop := y.cls ≠ "java/lang/invoke/MethodHandle" ∧ y.cls ≠ "java/lang/invoke/VarHandle"
/-- what every call needs of the tables -/
def VB (own : String) (idx : Nat) (y : MethodName) (cy : ByteArray) (ny : Nat) (ry : Option FieldType) (n : Nat) : Prop := Cond.methodLink own idx y ∈ TW ∧ Cond.initialized y.cls ∈ TW ∧ Cond.code y cy ny ry ∈ TW ∧ y.cls ≠ "java/lang/invoke/MethodHandle" ∧ y.cls ≠ "java/lang/invoke/VarHandle" ∧ (parseMethodDescriptor y.desc).map (fun d => d.parameters.length) = some n ∧ ny ≤ 17
def VV (own : String) (idx : Nat) (y : MethodName) (cy : ByteArray) (ny : Nat) (ry : Option FieldType) (n : Nat) : Prop := VB own idx y cy ny ry n ∧ Cond.instanceMethod y ∈ TW ∧ Cond.selects y.cls y y ∈ TW
def VS (own : String) (idx : Nat) (y : MethodName) (cy : ByteArray) (ny : Nat) (ry : Option FieldType) (n : Nat) : Prop := VB own idx y cy ny ry n ∧ Cond.static y ∈ TW
def VI (own : String) (idx : Nat) (y : MethodName) (cy : ByteArray) (ny : Nat) (n : Nat) : Prop := VB own idx y cy ny none n ∧ Cond.instanceMethod y ∈ TW ∧ y.name = "<init>"
theorem tw_cons {w : Cond} (h : w ∈ TW) : GoodIn TW (w :: TW) := fun v hv => by
  rcases List.mem_cons.mp hv with rfl | hv
  · exact tw_good _ h
  · exact tw_good _ hv
theorem PC.blind {G : GG} {as : List Value} {h : HP} {z : Nat} : FrameBlind (PC G as h z) := fun _ _ _ _ q => ⟨q.1, q.2.1, KK.calling q.2.2⟩
theorem PC.pre {G : GG} {as : List Value} {h : HP} {z : Nat} {s : State} {H : Heap} {locs : List Loc} (K : KK G s s.heap) (S : va_S (fr G) s.heap H locs) (R : Rel G h z H) : ∀ U : State, U.heap = H → s.WarmedH U.vm → PC G as h z as.toArray U := fun U hU hW => ⟨rfl, by rw [hU]; exact R, by rw [hU]; exact KK.warm hW S.2.1 K⟩
section EC
variable {G : GG} {l : Launch} {X : CT} {Q : State → Prop} {d mc ms cs sl : Nat} {cc : ByteArray} {own : String} {nL : Nat} {ret : Option FieldType} {h : HP} {z pc : Nat} {lv : List (Nat × Value)} {st st0 : List Value}
/-- behind a call -/
theorem ex_behind {m1 s1 : Nat} {as : Array Value} {post : Option Value → HP → Nat → Prop} {H : Heap} {locs : List Loc} {ls : Array Slot} (F : Fx G X cc own nL ret) (R : Rel G h z H) (S : va_S (fr G) X.2.2.1.heap H locs) (L : lv_has ls nL lv)
    (hr : va_Run X.1 l X.2.1 (rmx d mc ms) X.2.2.1 X.2.2.2.1 X.2.2.2.2.1 X.2.2.2.2.2.1 X.2.2.2.2.2.2.1 X.2.2.2.2.2.2.2 H locs cs sl m1 s1 (F0 X.2.2.2.1 pc ls st0) st (QC G post as) (fr G))
    (k1 : ∀ (r : Option Value) (h1 : HP) (z1 : Nat), post r h1 z1 → ex G l X Q d mc ms (cs + m1) (sl + s1) cc own nL ret h1 z1 (pc + 3) lv (r.toList ++ st)) :
    W X.1 l X.2.1 (rmx d mc ms) X.2.2.1 X.2.2.2.1 X.2.2.2.2.1 X.2.2.2.2.2.1 X.2.2.2.2.2.2.1 X.2.2.2.2.2.2.2 H locs cs sl Q (F0 X.2.2.2.1 pc ls st0) := by
  intro T hT XX
  obtain ⟨v, st₀, t, T', L1, g0, X', hL, e1, e2, ⟨⟨r, h1, z1, hv, hp, hR1⟩, hz, hk⟩, stp⟩ := hr T hT XX
  cases hv
  rw [g0] at hz hk
  obtain ⟨t2, a1, b1⟩ := k1 v h1 z1 hp T'.heap (locs ++ L1) ls F (by rw [e1]; exact hR1)
    ⟨Nat.le_trans S.1 (by rw [e1]; exact hz), fun q g1 g2 => by rw [e1, hk q (Nat.lt_of_lt_of_le g1 S.1) g2]; exact S.2.1 q g1 g2, fun q hq => by
      rcases List.mem_append.mp hq with h | h
      · exact S.2.2 q h
      · exact hL q h⟩ L T' rfl X'
  exact ⟨t2, stp t2 a1, b1⟩
theorem ex_callV {idx a n ci d1 m1 s1 ny : Nat} {y : MethodName} {cy : ByteArray} {ry : Option FieldType} {As : List Value} {fs : List Value} {post : Option Value → HP → Nat → Prop} (V : VV own idx y cy ny ry n) (hC : vwCl[ci]?.map (fun q => q.1) = some y.cls) (K : Ct G l d1 m1 s1 y cy ny ry (.ref a :: As) h z post) (he : h a = some (.inr (ci, fs))) (hn : As.length = n) (hd : d1 + 1 ≤ d) (hst : (st.map fun v => v.category).sum ≤ 8) (hc : cs + m1 ≤ mc) (hs : sl + s1 ≤ ms) (stk : st0 = As.reverse ++ .ref a :: st) (dg : decode cc pc = .ok (.invokevirtual idx, 3))
    (k1 : ∀ (r : Option Value) (h1 : HP) (z1 : Nat), post r h1 z1 → ex G l X Q d mc ms (cs + m1) (sl + s1) cc own nL ret h1 z1 (pc + 3) lv (r.toList ++ st)) : ex G l X Q d mc ms cs sl cc own nL ret h z pc lv st0 := by
  intro H locs ls F R S L
  obtain ⟨⟨v1, v2, v3, v4, v5, v6, v7⟩, v8, v9⟩ := V
  have hts := F.2.2.2.2.1
  have hK := F.2.2.2.2.2.2.2.1
  obtain ⟨qc, hqc, hqn⟩ : ∃ qc, vwCl[ci]? = some qc ∧ qc.1 = y.cls := by
    cases hq : vwCl[ci]? with
    | none => rw [hq] at hC; cases hC
    | some qc => rw [hq] at hC; exact ⟨qc, rfl, Option.some.inj hC⟩
  have hrecv := va_recv (s := X.2.2.1) (D := G.1) (cl := vwCl) (tys := tyG G) hK (R.P he) hqc (q0 := 0) rfl
  rw [hqn] at hrecv
  have hcw : CallW (rmx d mc ms) X.2.2.1 X.2.2.2.2.1 own y.cls idx y cy ny ry (Cond.code y cy ny ry :: TW) (rmx d1 m1 s1) m1 s1 n :=
    ⟨callB_of n hts (tw_cons v3) rfl rfl rfl (hts _ v2) (hts _ v1) ⟨v4, v5, v6⟩ ⟨by show d1 + 1 ≤ d; exact hd, by show 8 + (ny + 11) + 36 * d1 ≤ 36 * d; omega⟩, hts _ v8, hts _ v9⟩
  have hr := va_runV (p := X.1) (l := l) (e := X.2.1) (below := X.2.2.2.2.2.1) (meth := X.2.2.2.2.2.2.1) (H := H) (locs := locs) (cells := cs) (slots := sl) (g := F0 X.2.2.2.1 pc ls st0) (rest := st) (As := As) (b := a) (nL := nL) (Ts := TW) (cc := cc) ⟨F.1, F.2.1, F.2.2.1, F.2.2.2.1, hts⟩ K hcw ⟨PC.blind, hrecv, PC.pre F.2.2.2.2.2.2.2 S R⟩ rfl hn L.1 stk (lv_room hst) dg ⟨hc, hs⟩
  exact ex_behind F R S L hr k1
theorem ex_callS {idx n d1 m1 s1 ny : Nat} {y : MethodName} {cy : ByteArray} {ry : Option FieldType} {As : List Value} {post : Option Value → HP → Nat → Prop} (V : VS own idx y cy ny ry n) (K : Ct G l d1 m1 s1 y cy ny ry As h z post) (hn : As.length = n) (hd : d1 + 1 ≤ d) (hst : (st.map fun v => v.category).sum ≤ 8) (hc : cs + m1 ≤ mc) (hs : sl + s1 ≤ ms) (stk : st0 = As.reverse ++ st) (dg : decode cc pc = .ok (.invokestatic idx, 3))
    (k1 : ∀ (r : Option Value) (h1 : HP) (z1 : Nat), post r h1 z1 → ex G l X Q d mc ms (cs + m1) (sl + s1) cc own nL ret h1 z1 (pc + 3) lv (r.toList ++ st)) : ex G l X Q d mc ms cs sl cc own nL ret h z pc lv st0 := by
  intro H locs ls F R S L
  obtain ⟨⟨v1, v2, v3, v4, v5, v6, v7⟩, v8⟩ := V
  have hts := F.2.2.2.2.1
  have hcw : CallB (rmx d mc ms) X.2.2.1 X.2.2.2.2.1 own idx y cy ny ry (Cond.code y cy ny ry :: TW) (rmx d1 m1 s1) m1 s1 n ∧ (Cond.static y).before X.2.2.2.2.1 X.2.2.1 = true :=
    ⟨callB_of n hts (tw_cons v3) rfl rfl rfl (hts _ v2) (hts _ v1) ⟨v4, v5, v6⟩ ⟨by show d1 + 1 ≤ d; exact hd, by show 8 + (ny + 11) + 36 * d1 ≤ 36 * d; omega⟩, hts _ v8⟩
  have hr := va_runS (p := X.1) (l := l) (e := X.2.1) (below := X.2.2.2.2.2.1) (meth := X.2.2.2.2.2.2.1) (H := H) (locs := locs) (cells := cs) (slots := sl) (g := F0 X.2.2.2.1 pc ls st0) (rest := st) (As := As) (nL := nL) (Ts := TW) (cc := cc) ⟨F.1, F.2.1, F.2.2.1, F.2.2.2.1, hts⟩ K hcw ⟨PC.blind, PC.pre F.2.2.2.2.2.2.2 S R⟩ rfl hn L.1 stk (lv_room hst) dg ⟨hc, hs⟩
  exact ex_behind F R S L hr k1
theorem ex_callI {idx a n d1 m1 s1 ny : Nat} {y : MethodName} {cy : ByteArray} {As : List Value} {post : Option Value → HP → Nat → Prop} (V : VI own idx y cy ny n) (K : Ct G l d1 m1 s1 y cy ny none (.ref a :: As) h z post) (hn : As.length = n) (hd : d1 + 1 ≤ d) (hst : (st.map fun v => v.category).sum ≤ 8) (hc : cs + m1 ≤ mc) (hs : sl + s1 ≤ ms) (stk : st0 = As.reverse ++ .ref a :: st) (dg : decode cc pc = .ok (.invokespecial idx, 3))
    (k1 : ∀ (r : Option Value) (h1 : HP) (z1 : Nat), post r h1 z1 → ex G l X Q d mc ms (cs + m1) (sl + s1) cc own nL ret h1 z1 (pc + 3) lv (r.toList ++ st)) : ex G l X Q d mc ms cs sl cc own nL ret h z pc lv st0 := by
  intro H locs ls F R S L
  obtain ⟨⟨v1, v2, v3, v4, v5, v6, v7⟩, v8, v9⟩ := V
  have hts := F.2.2.2.2.1
  have hcw : CallB (rmx d mc ms) X.2.2.1 X.2.2.2.2.1 own idx y cy ny none (Cond.code y cy ny none :: TW) (rmx d1 m1 s1) m1 s1 n ∧ y.name = "<init>" ∧ (Cond.instanceMethod y).before X.2.2.2.2.1 X.2.2.1 = true :=
    ⟨callB_of n hts (tw_cons v3) rfl rfl rfl (hts _ v2) (hts _ v1) ⟨v4, v5, v6⟩ ⟨by show d1 + 1 ≤ d; exact hd, by show 8 + (ny + 11) + 36 * d1 ≤ 36 * d; omega⟩, v9, hts _ v8⟩
  have hr := va_runI (p := X.1) (l := l) (e := X.2.1) (below := X.2.2.2.2.2.1) (meth := X.2.2.2.2.2.2.1) (H := H) (locs := locs) (cells := cs) (slots := sl) (g := F0 X.2.2.2.1 pc ls st0) (rest := st) (As := As) (b := a) (nL := nL) (Ts := TW) (cc := cc) ⟨F.1, F.2.1, F.2.2.1, F.2.2.2.1, hts⟩ K hcw ⟨PC.blind, PC.pre F.2.2.2.2.2.2.2 S R⟩ rfl hn L.1 stk (lv_room hst) dg ⟨hc, hs⟩
  exact ex_behind F R S L hr k1
/-- a nest mate's private constructor: its link is carried by KK -/
theorem ex_callIN {idx a n d1 m1 s1 ny : Nat} {y : MethodName} {cy : ByteArray} {As : List Value} {post : Option Value → HP → Nat → Prop} (hw : KK G X.2.2.1 X.2.2.1.heap → va_Nw (.methodLinkNest own idx y RX4) X.2.2.1) (V : Cond.initialized y.cls ∈ TW ∧ Cond.code y cy ny none ∈ TW ∧ y.cls ≠ "java/lang/invoke/MethodHandle" ∧ y.cls ≠ "java/lang/invoke/VarHandle" ∧ (parseMethodDescriptor y.desc).map (fun d => d.parameters.length) = some n ∧ ny ≤ 17 ∧ Cond.instanceMethod y ∈ TW ∧ y.name = "<init>") (K : Ct G l d1 m1 s1 y cy ny none (.ref a :: As) h z post) (hn : As.length = n) (hd : d1 + 1 ≤ d) (hst : (st.map fun v => v.category).sum ≤ 8) (hc : cs + m1 ≤ mc) (hs : sl + s1 ≤ ms) (stk : st0 = As.reverse ++ .ref a :: st) (dg : decode cc pc = .ok (.invokespecial idx, 3))
    (k1 : ∀ (r : Option Value) (h1 : HP) (z1 : Nat), post r h1 z1 → ex G l X Q d mc ms (cs + m1) (sl + s1) cc own nL ret h1 z1 (pc + 3) lv (r.toList ++ st)) : ex G l X Q d mc ms cs sl cc own nL ret h z pc lv st0 := by
  intro H locs ls F R S L
  obtain ⟨v2, v3, v4, v5, v6, v7, v8, v9⟩ := V
  have hts := F.2.2.2.2.1
  have hcw : va_CN (rmx d mc ms) X.2.2.1 X.2.2.2.2.1 own idx y RX4 cy ny none (Cond.code y cy ny none :: TW) (rmx d1 m1 s1) m1 s1 n ∧ y.name = "<init>" ∧ (Cond.instanceMethod y).before X.2.2.2.2.1 X.2.2.1 = true :=
    ⟨va_cnB n hts (tw_cons v3) rfl rfl rfl (hw F.2.2.2.2.2.2.2) (hts _ v2) ⟨v4, v5, v6⟩ ⟨by show d1 + 1 ≤ d; exact hd, by show 8 + (ny + 11) + 36 * d1 ≤ 36 * d; omega⟩, v9, hts _ v8⟩
  have hr := va_runIN (p := X.1) (l := l) (e := X.2.1) (below := X.2.2.2.2.2.1) (meth := X.2.2.2.2.2.2.1) (H := H) (locs := locs) (cells := cs) (slots := sl) (g := F0 X.2.2.2.1 pc ls st0) (rest := st) (As := As) (b := a) (nL := nL) (Ts := TW) (cc := cc) ⟨F.1, F.2.1, F.2.2.1, F.2.2.2.1, hts⟩ K hcw ⟨PC.blind, PC.pre F.2.2.2.2.2.2.2 S R⟩ rfl hn L.1 stk (lv_room hst) dg ⟨hc, hs⟩
  exact ex_behind F R S L hr k1
theorem ex_iret {post : Option Value → HP → Nat → Prop} {v : Int32} (hQ : RQ G X Q cs sl post) (hr : ret = some .int) (hp : post (some (.int v)) h z) (dg : decode cc pc = .ok (.ireturn, 1)) : ex G l X Q d mc ms cs sl cc own nL ret h z pc lv [.int v] := by
  intro H locs ls F R S L
  subst hQ
  exact W.iret F.1 F.2.1 (by rw [← hr]; exact F.2.2.2.2.2.2.1) (fun t ht hW => ⟨⟨_, h, z, rfl, hp, by rw [ht]; exact R⟩, S.F ht⟩) S.2.2 dg F.2.2.2.2.2.1
theorem ex_zret {post : Option Value → HP → Nat → Prop} {v : Int32} {ty : FieldType} (hQ : RQ G X Q cs sl post) (hr : ret = some ty) (hn : narrow ty (.int v) = .int v) (hp : post (some (.int v)) h z) (dg : decode cc pc = .ok (.ireturn, 1)) : ex G l X Q d mc ms cs sl cc own nL ret h z pc lv [.int v] := by
  intro H locs ls F R S L
  subst hQ
  exact W.zret F.1 F.2.1 (by rw [← hr]; exact F.2.2.2.2.2.2.1) hn (fun t ht hW => ⟨⟨_, h, z, rfl, hp, by rw [ht]; exact R⟩, S.F ht⟩) S.2.2 dg F.2.2.2.2.2.1
theorem ex_vret {post : Option Value → HP → Nat → Prop} (hQ : RQ G X Q cs sl post) (hr : ret = none) (hp : post none h z) (dg : decode cc pc = .ok (.return_, 1)) : ex G l X Q d mc ms cs sl cc own nL ret h z pc lv [] := by
  intro H locs ls F R S L
  subst hQ
  exact W.vret F.1 F.2.1 (by rw [← hr]; exact F.2.2.2.2.2.2.1) (fun t ht hW => ⟨⟨_, h, z, rfl, hp, by rw [ht]; exact R⟩, S.F ht⟩) S.2.2 dg F.2.2.2.2.2.1
theorem ex_aret {post : Option Value → HP → Nat → Prop} {v : Value} {n : String} (hQ : RQ G X Q cs sl post) (hr : ret = some (.object n)) (hv : v = .null ∨ ∃ a, v = .ref a) (hp : post (some v) h z) (dg : decode cc pc = .ok (.areturn, 1)) : ex G l X Q d mc ms cs sl cc own nL ret h z pc lv [v] := by
  intro H locs ls F R S L
  subst hQ
  exact W.aret F.1 F.2.1 (by rw [← hr]; exact F.2.2.2.2.2.2.1) (Or.inl ⟨n, rfl⟩) hv (fun t ht hW => ⟨⟨_, h, z, rfl, hp, by rw [ht]; exact R⟩, S.F ht⟩) S.2.2 dg F.2.2.2.2.2.1
theorem ex_widen {c2 s2 : Nat} (h1 : cs ≤ c2) (h2 : sl ≤ s2) (k1 : ex G l X Q d mc ms c2 s2 cc own nL ret h z pc lv st) : ex G l X Q d mc ms cs sl cc own nL ret h z pc lv st := fun H locs ls F R S L => W.widen h1 h2 (k1 H locs ls F R S L)
theorem ex_lv {lv2 : List (Nat × Value)} (ks : List Nat) (hl : lv_pick lv ks = lv2) (k1 : ex G l X Q d mc ms cs sl cc own nL ret h z pc lv2 st) : ex G l X Q d mc ms cs sl cc own nL ret h z pc lv st := fun H locs ls F R S L => k1 H locs ls F R S (lv_sub L ks hl)
/-- a heap that says less -/
theorem ex_h {h2 : HP} (hh : ∀ a e, h2 a = some e → h a = some e) (k1 : ex G l X Q d mc ms cs sl cc own nL ret h2 z pc lv st) : ex G l X Q d mc ms cs sl cc own nL ret h z pc lv st := fun H locs ls F R S L => k1 H locs ls F ⟨R.1, R.2.1, fun a e q => R.2.2 a e (hh a e q)⟩ S L
end EC
end
section
/-! what a state of the system is: n people, the guardian, the turn, the other numbers (in the reference's order), what each person has -/
abbrev AS : Type := Nat × Option Nat × Nat × (Nat → Int32) × (Nat → Nat → Int32)
def gv (g : Option Nat) : Int32 := match g with
  | none => -6
  | some j => nI j
def mg (g : Option Nat) : Int32 := match g with
  | none => -1
  | some j => nI j
def uq (q : Nat → Nat → Int32) (j k : Nat) (v : Int32) : Nat → Nat → Int32 := fun a b => if b = k then (if a = j then v else q a b) else q a b
theorem uq_s {q : Nat → Nat → Int32} {j k : Nat} {v : Int32} : uq q j k v j k = v := by simp [uq]
theorem uq_j {q : Nat → Nat → Int32} {j k a b : Nat} {v : Int32} (h : a ≠ j) : uq q j k v a b = q a b := by simp [uq, h]
theorem uq_k {q : Nat → Nat → Int32} {j k a b : Nat} {v : Int32} (h : b ≠ k) : uq q j k v a b = q a b := by simp [uq, h]
theorem upd_s {u : Nat → Int32} {i : Nat} {v : Int32} : upd u i v i = v := by simp [upd]
theorem upd_n {u : Nat → Int32} {i j : Nat} {v : Int32} (h : j ≠ i) : upd u i v j = u j := by simp [upd, h]
def stF (o : Nat) (A : AS) : List Value := [.ref (o + 1), .ref (o + 2), .int (nI A.1), .int (A.2.2.2.1 8), .int (gv A.2.1), .int (nI A.2.2.1), .int (A.2.2.2.1 11), .int (A.2.2.2.1 6), .int (A.2.2.2.1 12), .int (A.2.2.2.1 13), .int (A.2.2.2.1 14), .int (A.2.2.2.1 15), .int (A.2.2.2.1 16)]
def pF (w : Nat → Int32) : List Value := [.int (w 0), .int (w 1), .int (w 2), .int (w 3), .int (w 4), .int (w 5)]
theorem pF_eq {w v : Nat → Int32} (h : ∀ k, k < 6 → w k = v k) : pF w = pF v := by
  simp [pF, h 0 (by decide), h 1 (by decide), h 2 (by decide), h 3 (by decide), h 4 (by decide), h 5 (by decide)]
/-- a State object at o, its two rows and eight persons behind it -/
def SP (G : GG) (h : HP) (o : Nat) (π : Nat → Nat) (A : AS) : Prop :=
  h o = some (.inr (3, stF o A)) ∧ (∃ f : Nat → Int32, h (o + 1) = some (aA G 0 6 f) ∧ ∀ i, i < 6 → f i = A.2.2.2.1 i) ∧ (∃ r : Nat → Option Nat, h (o + 2) = some (aQ G 3 8 r) ∧ ∀ j, j < 8 → r j = some (o + 3 + π j)) ∧ (∀ j, j < 8 → π j < 8) ∧ (∀ i j, i < 8 → j < 8 → π i = π j → i = j) ∧ (∀ j, j < 8 → ∃ w : Nat → Int32, h (o + 3 + π j) = some (.inr (2, pF w)) ∧ (j < A.1 → ∀ k, k < 6 → w k = A.2.2.2.2 j k))
theorem SP.ob {G : GG} {h : HP} {o : Nat} {π : Nat → Nat} {A : AS} (S : SP G h o π A) : h o = some (.inr (3, stF o A)) := S.1
theorem SP.pe {G : GG} {h : HP} {o j : Nat} {π : Nat → Nat} {A : AS} (S : SP G h o π A) (h8 : j < 8) (hn : j < A.1) : h (o + 3 + π j) = some (.inr (2, pF (A.2.2.2.2 j))) := by
  obtain ⟨w, h1, h2⟩ := S.2.2.2.2.2 j h8
  rw [h1, pF_eq (h2 hn)]
theorem SP.kept {G : GG} {h h1 : HP} {o : Nat} {π : Nat → Nat} {A : AS} (S : SP G h o π A) (q : ∀ a, o ≤ a → a < o + 11 → h1 a = h a) : SP G h1 o π A := by
  obtain ⟨s1, ⟨f, s2, s2'⟩, ⟨r, s3, s3'⟩, s4, s5, s6⟩ := S
  refine ⟨by rw [q o (by omega) (by omega)]; exact s1, ⟨f, by rw [q _ (by omega) (by omega)]; exact s2, s2'⟩, ⟨r, by rw [q _ (by omega) (by omega)]; exact s3, s3'⟩, s4, s5, fun j hj => ?_⟩
  obtain ⟨w, w1, w2⟩ := s6 j hj
  have := s4 j hj
  exact ⟨w, by rw [q _ (by omega) (by omega)]; exact w1, w2⟩
/-- what lies behind the people that there are isn't told -/
theorem SP.to {G : GG} {h : HP} {o : Nat} {π : Nat → Nat} {A B : AS} (S : SP G h o π A) (e1 : B.1 = A.1) (e2 : B.2.1 = A.2.1) (e3 : B.2.2.1 = A.2.2.1) (e4 : ∀ i, i < 17 → i ≠ 7 → i ≠ 9 → i ≠ 10 → B.2.2.2.1 i = A.2.2.2.1 i) (e5 : ∀ j k, j < A.1 → k < 6 → B.2.2.2.2 j k = A.2.2.2.2 j k) : SP G h o π B := by
  obtain ⟨s1, ⟨f, s2, s2'⟩, s3, s4, s5, s6⟩ := S
  refine ⟨?_, ⟨f, s2, fun i hi => by rw [s2' i hi, e4 i (by omega) (by omega) (by omega) (by omega)]⟩, s3, s4, s5, fun j hj => ?_⟩
  · have : stF o B = stF o A := by simp [stF, e1, e2, e3, e4 8 (by decide) (by decide) (by decide) (by decide), e4 11 (by decide) (by decide) (by decide) (by decide), e4 6 (by decide) (by decide) (by decide) (by decide), e4 12 (by decide) (by decide) (by decide) (by decide), e4 13 (by decide) (by decide) (by decide) (by decide), e4 14 (by decide) (by decide) (by decide) (by decide), e4 15 (by decide) (by decide) (by decide) (by decide), e4 16 (by decide) (by decide) (by decide) (by decide)]
    rw [this]; exact s1
  · obtain ⟨w, w1, w2⟩ := s6 j hj
    exact ⟨w, w1, fun hn k hk => by rw [e1] at hn; rw [w2 hn k hk, e5 j k hn hk]⟩
/-- .. and nothing else has changed since h0 -/
def SF (G : GG) (h0 h : HP) (o : Nat) (π : Nat → Nat) (A : AS) : Prop := SP G h o π A ∧ ∀ a, (a < o ∨ o + 11 ≤ a) → h a = h0 a
theorem SP.sf {G : GG} {h : HP} {o : Nat} {π : Nat → Nat} {A : AS} (S : SP G h o π A) : SF G h h o π A := ⟨S, fun _ _ => rfl⟩
theorem SF.trans {G : GG} {h0 h h1 : HP} {o : Nat} {π π1 : Nat → Nat} {A B : AS} (S : SF G h0 h o π A) (S1 : SF G h h1 o π1 B) : SF G h0 h1 o π1 B := ⟨S1.1, fun a ha => (S1.2 a ha).trans (S.2 a ha)⟩
theorem SF.pe {G : GG} {h0 h : HP} {o j : Nat} {π : Nat → Nat} {A : AS} (S : SF G h0 h o π A) (h8 : j < 8) (hn : j < A.1) : h (o + 3 + π j) = some (.inr (2, pF (A.2.2.2.2 j))) := S.1.pe h8 hn
theorem SF.ob {G : GG} {h0 h : HP} {o : Nat} {π : Nat → Nat} {A : AS} (S : SF G h0 h o π A) : h o = some (.inr (3, stF o A)) := S.1.1
theorem SF.putO {G : GG} {h0 h : HP} {o : Nat} {π : Nat → Nat} {A B : AS} {fs : List Value} (S : SF G h0 h o π A) (hk : fs = stF o B) (e1 : B.1 = A.1) (e4 : ∀ i, i < 6 → B.2.2.2.1 i = A.2.2.2.1 i) (e5 : B.2.2.2.2 = A.2.2.2.2) : SF G h0 (hu h o (.inr (3, fs))) o π B := by
  obtain ⟨⟨s1, ⟨f, s2, s2'⟩, ⟨r, s3, s3'⟩, s4, s5, s6⟩, s7⟩ := S
  refine ⟨⟨by rw [hu_s, hk], ⟨f, by rw [hu_n (by omega)]; exact s2, fun i hi => by rw [s2' i hi, e4 i hi]⟩, ⟨r, by rw [hu_n (by omega)]; exact s3, s3'⟩, s4, s5, fun j hj => ?_⟩, fun a ha => by rw [hu_n (by omega)]; exact s7 a ha⟩
  obtain ⟨w, w1, w2⟩ := s6 j hj
  exact ⟨w, by rw [hu_n (by omega)]; exact w1, fun hn k hk => by rw [e1] at hn; rw [w2 hn k hk, e5]⟩
theorem SF.putP {G : GG} {h0 h : HP} {o j k : Nat} {π : Nat → Nat} {n : Nat} {g : Option Nat} {t : Nat} {u : Nat → Int32} {q : Nat → Nat → Int32} {v : Int32} {fs : List Value} (S : SF G h0 h o π (n, g, t, u, q)) (h8 : j < 8) (hn : j < n) (hk : fs = pF (upd (q j) k v)) : SF G h0 (hu h (o + 3 + π j) (.inr (2, fs))) o π (n, g, t, u, uq q j k v) := by
  obtain ⟨⟨s1, ⟨f, s2, s2'⟩, ⟨r, s3, s3'⟩, s4, s5, s6⟩, s7⟩ := S
  have hpj := s4 j h8
  refine ⟨⟨by rw [hu_n (by omega)]; exact s1, ⟨f, by rw [hu_n (by omega)]; exact s2, s2'⟩, ⟨r, by rw [hu_n (by omega)]; exact s3, s3'⟩, s4, s5, fun i hi => ?_⟩, fun a ha => by rw [hu_n (by omega)]; exact s7 a ha⟩
  by_cases e : i = j
  · subst e
    refine ⟨upd (q i) k v, by rw [hu_s, hk], fun _ b _ => ?_⟩
    by_cases e : b = k
    · subst e
      show _ = uq q i b v i b
      rw [upd_s, uq_s]
    · show _ = uq q i k v i b
      rw [upd_n e, uq_k e]
  · obtain ⟨w, w1, w2⟩ := s6 i hi
    have hne : π i ≠ π j := fun z => e (s5 i j hi h8 z)
    refine ⟨w, by rw [hu_n (by omega)]; exact w1, fun hn b hb => ?_⟩
    show _ = uq q j k v i b
    rw [uq_j e]
    exact w2 hn b hb
theorem SF.putI {G : GG} {h0 h : HP} {o i : Nat} {π : Nat → Nat} {n : Nat} {g : Option Nat} {t : Nat} {u : Nat → Int32} {q : Nat → Nat → Int32} {v : Int32} {f : Nat → Int32} (S : SF G h0 h o π (n, g, t, u, q)) (hf : h (o + 1) = some (aA G 0 6 f)) (hi : i < 6) : SF G h0 (hu h (o + 1) (aA G 0 6 (upd f i v))) o π (n, g, t, upd u i v, q) := by
  obtain ⟨⟨s1, ⟨f', s2, s2'⟩, ⟨r, s3, s3'⟩, s4, s5, s6⟩, s7⟩ := S
  have e : f = f' := by rw [hf] at s2; simpa using s2
  subst e
  refine ⟨⟨?_, ⟨_, hu_s, fun b hb => ?_⟩, ⟨r, by rw [hu_n (by omega)]; exact s3, s3'⟩, s4, s5, fun j hj => ?_⟩, fun a ha => by rw [hu_n (by omega)]; exact s7 a ha⟩
  · rw [hu_n (by omega), s1]
    have e (x : Nat) (hx : 6 ≤ x) : upd u i v x = u x := upd_n (by omega)
    simp [stF, e]
  · show upd f i v b = upd u i v b
    by_cases e : b = i
    · subst e
      rw [upd_s, upd_s]
    · rw [upd_n e, upd_n e]
      exact s2' b hb
  · obtain ⟨w, w1, w2⟩ := s6 j hj
    exact ⟨w, by rw [hu_n (by omega)]; exact w1, w2⟩
section ES
variable {G : GG} {l : Launch} {X : CT} {Q : State → Prop} {d mc ms cs sl : Nat} {cc : ByteArray} {own : String} {nL : Nat} {ret : Option FieldType} {h h0 : HP} {z pc : Nat} {lv : List (Nat × Value)} {st : List Value} {o : Nat} {π : Nat → Nat} {n : Nat} {g : Option Nat} {t : Nat} {u : Nat → Int32} {q : Nat → Nat → Int32}
theorem exS_putU {idx k i : Nat} {v : Int32} (S : SF G h0 h o π (n, g, t, u, q)) (fl : FL own idx 3 k .int false) (hi : 6 ≤ i) (hl : k < 13) (hk : (stF o (n, g, t, u, q)).set k (.int v) = stF o (n, g, t, upd u i v, q)) (dg : decode cc pc = .ok (.putfield idx, 3)) (k1 : ∀ h : HP, SF G h0 h o π (n, g, t, upd u i v, q) → ex G l X Q d mc ms cs sl cc own nL ret h z (pc + 3) lv st) : ex G l X Q d mc ms cs sl cc own nL ret h z pc lv (.int v :: .ref o :: st) :=
  ex_put fl S.ob rfl rfl hl dg (k1 _ (S.putO hk rfl (fun j hj => upd_n (by omega)) rfl))
theorem exS_putG {idx : Nat} {g1 : Option Nat} {v : Int32} (S : SF G h0 h o π (n, g, t, u, q)) (fl : FL own idx 3 4 .int false) (hv : v = gv g1) (dg : decode cc pc = .ok (.putfield idx, 3)) (k1 : ∀ h : HP, SF G h0 h o π (n, g1, t, u, q) → ex G l X Q d mc ms cs sl cc own nL ret h z (pc + 3) lv st) : ex G l X Q d mc ms cs sl cc own nL ret h z pc lv (.int v :: .ref o :: st) := by
  subst hv
  exact ex_put fl S.ob rfl rfl (by show 4 < 13; decide) dg (k1 _ (S.putO rfl rfl (fun j hj => rfl) rfl))
theorem exS_putT {idx : Nat} {t1 : Nat} {v : Int32} (S : SF G h0 h o π (n, g, t, u, q)) (fl : FL own idx 3 5 .int false) (hv : v = nI t1) (dg : decode cc pc = .ok (.putfield idx, 3)) (k1 : ∀ h : HP, SF G h0 h o π (n, g, t1, u, q) → ex G l X Q d mc ms cs sl cc own nL ret h z (pc + 3) lv st) : ex G l X Q d mc ms cs sl cc own nL ret h z pc lv (.int v :: .ref o :: st) := by
  subst hv
  exact ex_put fl S.ob rfl rfl (by show 5 < 13; decide) dg (k1 _ (S.putO rfl rfl (fun j hj => rfl) rfl))
theorem exP_put {idx k j : Nat} {v : Int32} (S : SF G h0 h o π (n, g, t, u, q)) (h8 : j < 8) (hn : j < n) (fl : FL own idx 2 k .int false) (hl : k < 6) (hk : (pF (q j)).set k (.int v) = pF (upd (q j) k v)) (dg : decode cc pc = .ok (.putfield idx, 3)) (k1 : ∀ h : HP, SF G h0 h o π (n, g, t, u, uq q j k v) → ex G l X Q d mc ms cs sl cc own nL ret h z (pc + 3) lv st) : ex G l X Q d mc ms cs sl cc own nL ret h z pc lv (.int v :: .ref (o + 3 + π j) :: st) :=
  ex_put fl (S.pe h8 hn) rfl rfl hl dg (k1 _ (S.putP h8 hn hk))
/-- a setting is read -/
theorem exS_ld {i : Nat} {x v : Int32} (S : SF G h0 h o π (n, g, t, u, q)) (hx : x = nI i) (hi : i < 6) (hv : u i = v) (dg : decode cc pc = .ok (.iaload, 1)) (k1 : ex G l X Q d mc ms cs sl cc own nL ret h z (pc + 1) lv (.int v :: st)) : ex G l X Q d mc ms cs sl cc own nL ret h z pc lv (.int x :: .ref (o + 1) :: st) := by
  obtain ⟨f, hf, hf2⟩ := S.1.2.1
  refine ex_iald hf hx hi (by decide) dg ?_
  rw [hf2 i hi]
  subst hv
  exact k1
/-- a setting is written -/
theorem exS_st {i : Nat} {x v : Int32} (S : SF G h0 h o π (n, g, t, u, q)) (hx : x = nI i) (hi : i < 6) (dg : decode cc pc = .ok (.iastore, 1)) (k1 : ∀ h : HP, SF G h0 h o π (n, g, t, upd u i v, q) → ex G l X Q d mc ms cs sl cc own nL ret h z (pc + 1) lv st) : ex G l X Q d mc ms cs sl cc own nL ret h z pc lv (.int v :: .int x :: .ref (o + 1) :: st) := by
  obtain ⟨f, hf, hf2⟩ := S.1.2.1
  exact ex_iast hf hx hi (by decide) dg (k1 _ (S.putI hf hi))
/-- a person is looked up -/
theorem exS_pl {i : Nat} {x : Int32} (S : SF G h0 h o π (n, g, t, u, q)) (hx : x = nI i) (hi : i < 8) (dg : decode cc pc = .ok (.aaload, 1)) (k1 : ex G l X Q d mc ms cs sl cc own nL ret h z (pc + 1) lv (.ref (o + 3 + π i) :: st)) : ex G l X Q d mc ms cs sl cc own nL ret h z pc lv (.int x :: .ref (o + 2) :: st) := by
  obtain ⟨f, hf, hf2⟩ := S.1.2.2.1
  refine ex_aald3 hf hx hi (by decide) dg ?_
  rw [hf2 i hi]
  exact k1
/-- a call that only reads -/
def p0 (v : Value) (h : HP) (z : Nat) : Option Value → HP → Nat → Prop := fun r h1 z1 => r = some v ∧ h1 = h ∧ z1 = z
theorem ex_call0 {idx a m ci d1 ny : Nat} {y : MethodName} {cy : ByteArray} {ry : Option FieldType} {As : List Value} {fs : List Value} {v : Value} {st0 : List Value} (V : VV own idx y cy ny ry m) (hC : vwCl[ci]?.map (fun q => q.1) = some y.cls) (K : Ct G l d1 0 0 y cy ny ry (.ref a :: As) h z (p0 v h z)) (he : h a = some (.inr (ci, fs))) (hn : As.length = m) (hd : d1 + 1 ≤ d) (hst : (st.map fun v => v.category).sum ≤ 8) (hc : cs ≤ mc) (hs : sl ≤ ms) (stk : st0 = As.reverse ++ .ref a :: st) (dg : decode cc pc = .ok (.invokevirtual idx, 3)) (k1 : ex G l X Q d mc ms cs sl cc own nL ret h z (pc + 3) lv (v :: st)) : ex G l X Q d mc ms cs sl cc own nL ret h z pc lv st0 :=
  ex_callV V hC K he hn hd hst hc hs stk dg (fun r h1 z1 hp => by obtain ⟨rfl, rfl, rfl⟩ := hp; exact k1)
theorem ex_callS0 {idx m d1 ny : Nat} {y : MethodName} {cy : ByteArray} {ry : Option FieldType} {As : List Value} {v : Value} {st0 : List Value} (V : VS own idx y cy ny ry m) (K : Ct G l d1 0 0 y cy ny ry As h z (p0 v h z)) (hn : As.length = m) (hd : d1 + 1 ≤ d) (hst : (st.map fun v => v.category).sum ≤ 8) (hc : cs ≤ mc) (hs : sl ≤ ms) (stk : st0 = As.reverse ++ st) (dg : decode cc pc = .ok (.invokestatic idx, 3)) (k1 : ex G l X Q d mc ms cs sl cc own nL ret h z (pc + 3) lv (v :: st)) : ex G l X Q d mc ms cs sl cc own nL ret h z pc lv st0 :=
  ex_callS V K hn hd hst hc hs stk dg (fun r h1 z1 hp => by obtain ⟨rfl, rfl, rfl⟩ := hp; exact k1)
/-- a call that makes another state of it -/
def pS (G : GG) (r0 : Option Value) (h : HP) (z o : Nat) (π : Nat → Nat) (A : AS) : Option Value → HP → Nat → Prop := fun r h1 z1 => r = r0 ∧ z1 = z ∧ SF G h h1 o π A
theorem exS_call {idx m d1 ny : Nat} {y : MethodName} {cy : ByteArray} {ry : Option FieldType} {As : List Value} {r0 : Option Value} {π1 : Nat → Nat} {A B : AS} {st0 : List Value} (V : VV own idx y cy ny ry m) (hC : y.cls = RX3) (S : SF G h0 h o π A) (K : SP G h o π A → Ct G l d1 0 0 y cy ny ry (.ref o :: As) h z (pS G r0 h z o π1 B)) (hn : As.length = m) (hd : d1 + 1 ≤ d) (hst : (st.map fun v => v.category).sum ≤ 8) (hc : cs ≤ mc) (hs : sl ≤ ms) (stk : st0 = As.reverse ++ .ref o :: st) (dg : decode cc pc = .ok (.invokevirtual idx, 3)) (k1 : ∀ h : HP, SF G h0 h o π1 B → ex G l X Q d mc ms cs sl cc own nL ret h z (pc + 3) lv (r0.toList ++ st)) : ex G l X Q d mc ms cs sl cc own nL ret h z pc lv st0 :=
  ex_callV V (ci := 3) (by rw [hC]; rfl) (K S.1) S.ob hn hd hst hc hs stk dg (fun r h1 z1 hp => by obtain ⟨rfl, rfl, S1⟩ := hp; exact k1 h1 (S.trans S1))
end ES
end
section
theorem tw_p {w : Cond} (i : Nat) (h : (k2_sels lw_privs)[i]? = some w) (g : goodWord w = true) : w ∈ TW := tw_in (List.mem_append_left _ (List.mem_of_getElem? h)) g
theorem uX0 : ∀ w ∈ u_ws RX0 TX0 2, w ∈ TW := fun w h => tw_in ((by decide +kernel : ∀ w ∈ u_ws RX0 TX0 2, w ∈ lw_tbl) w h) ((by decide +kernel : ∀ w ∈ u_ws RX0 TX0 2, goodWord w = true) w h)
theorem uX1 : ∀ w ∈ u_ws RX1 TX1 2, w ∈ TW := fun w h => tw_in ((by decide +kernel : ∀ w ∈ u_ws RX1 TX1 2, w ∈ lw_tbl) w h) ((by decide +kernel : ∀ w ∈ u_ws RX1 TX1 2, goodWord w = true) w h)
theorem uX2 : ∀ w ∈ u_ws RX2 TX2 6, w ∈ TW := fun w h => tw_in ((by decide +kernel : ∀ w ∈ u_ws RX2 TX2 6, w ∈ lw_tbl) w h) ((by decide +kernel : ∀ w ∈ u_ws RX2 TX2 6, goodWord w = true) w h)
theorem uX3 : ∀ w ∈ u_ws RX3 TX3 13, w ∈ TW := fun w h => tw_in ((by decide +kernel : ∀ w ∈ u_ws RX3 TX3 13, w ∈ lw_tbl) w h) ((by decide +kernel : ∀ w ∈ u_ws RX3 TX3 13, goodWord w = true) w h)
theorem uX4 : ∀ w ∈ u_ws RX4 TX4 5, w ∈ TW := fun w h => tw_in ((by decide +kernel : ∀ w ∈ u_ws RX4 TX4 5, w ∈ lw_tbl) w h) ((by decide +kernel : ∀ w ∈ u_ws RX4 TX4 5, goodWord w = true) w h)
theorem fl_X4_10 : FL RX4 10 4 0 (.object "PurrProbates$State") true := ⟨RX4, TX4, 5, tyX4, rfl, uX4, tyX4_ok, nmX4, by decide, rfl, rfl, rfl, (tw_t 155 (by decide +kernel) (by decide +kernel))⟩
theorem fl_X4_16 : FL RX4 16 4 1 (.object "PurrProbates$State") true := ⟨RX4, TX4, 5, tyX4, rfl, uX4, tyX4_ok, nmX4, by decide, rfl, rfl, rfl, (tw_t 156 (by decide +kernel) (by decide +kernel))⟩
theorem fl_X4_22 : FL RX4 22 4 2 (.object "PurrProbates$History") true := ⟨RX4, TX4, 5, tyX4, rfl, uX4, tyX4_ok, nmX4, by decide, rfl, rfl, rfl, (tw_t 157 (by decide +kernel) (by decide +kernel))⟩
theorem fl_X4_26 : FL RX4 26 4 3 (.array (.object "PurrProbates$State")) true := ⟨RX4, TX4, 5, tyX4, rfl, uX4, tyX4_ok, nmX4, by decide, rfl, rfl, rfl, (tw_t 158 (by decide +kernel) (by decide +kernel))⟩
theorem fl_X4_33 : FL RX4 33 4 4 (.object "PurrProbates$Pad") true := ⟨RX4, TX4, 5, tyX4, rfl, uX4, tyX4_ok, nmX4, by decide, rfl, rfl, rfl, (tw_t 159 (by decide +kernel) (by decide +kernel))⟩
theorem fl_X4_52 : FL RX4 52 3 0 (.array .int) true := ⟨RX3, TX3, 13, tyX3, rfl, uX3, tyX3_ok, nmX3, by decide, rfl, rfl, rfl, (tw_t 72 (by decide +kernel) (by decide +kernel))⟩
theorem fl_X4_55 : FL RX4 55 3 2 .int false := ⟨RX3, TX3, 13, tyX3, rfl, uX3, tyX3_ok, nmX3, by decide, rfl, rfl, rfl, (tw_t 75 (by decide +kernel) (by decide +kernel))⟩
theorem fl_X4_73 : FL RX4 73 1 1 .int false := ⟨RX1, TX1, 2, tyX1, rfl, uX1, tyX1_ok, nmX1, by decide, rfl, rfl, rfl, (tw_t 148 (by decide +kernel) (by decide +kernel))⟩
theorem fl_X4_89 : FL RX4 89 3 4 .int false := ⟨RX3, TX3, 13, tyX3, rfl, uX3, tyX3_ok, nmX3, by decide, rfl, rfl, rfl, (tw_t 79 (by decide +kernel) (by decide +kernel))⟩
theorem fl_X4_105 : FL RX4 105 3 6 .int false := ⟨RX3, TX3, 13, tyX3, rfl, uX3, tyX3_ok, nmX3, by decide, rfl, rfl, rfl, (tw_t 83 (by decide +kernel) (by decide +kernel))⟩
theorem fl_X4_109 : FL RX4 109 3 12 .int false := ⟨RX3, TX3, 13, tyX3, rfl, uX3, tyX3_ok, nmX3, by decide, rfl, rfl, rfl, (tw_t 95 (by decide +kernel) (by decide +kernel))⟩
theorem fl_X4_112 : FL RX4 112 3 7 .int false := ⟨RX3, TX3, 13, tyX3, rfl, uX3, tyX3_ok, nmX3, by decide, rfl, rfl, rfl, (tw_t 85 (by decide +kernel) (by decide +kernel))⟩
theorem fl_X4_115 : FL RX4 115 3 9 .int false := ⟨RX3, TX3, 13, tyX3, rfl, uX3, tyX3_ok, nmX3, by decide, rfl, rfl, rfl, (tw_t 89 (by decide +kernel) (by decide +kernel))⟩
theorem fl_X4_121 : FL RX4 121 2 0 .int false := ⟨RX2, TX2, 6, tyX2, rfl, uX2, tyX2_ok, nmX2, by decide, rfl, rfl, rfl, (tw_t 41 (by decide +kernel) (by decide +kernel))⟩
theorem fl_X4_126 : FL RX4 126 2 1 .int false := ⟨RX2, TX2, 6, tyX2, rfl, uX2, tyX2_ok, nmX2, by decide, rfl, rfl, rfl, (tw_t 43 (by decide +kernel) (by decide +kernel))⟩
theorem fl_X4_129 : FL RX4 129 2 2 .int false := ⟨RX2, TX2, 6, tyX2, rfl, uX2, tyX2_ok, nmX2, by decide, rfl, rfl, rfl, (tw_t 47 (by decide +kernel) (by decide +kernel))⟩
theorem fl_X4_132 : FL RX4 132 2 3 .int false := ⟨RX2, TX2, 6, tyX2, rfl, uX2, tyX2_ok, nmX2, by decide, rfl, rfl, rfl, (tw_t 50 (by decide +kernel) (by decide +kernel))⟩
theorem fl_X4_143 : FL RX4 143 2 4 .int false := ⟨RX2, TX2, 6, tyX2, rfl, uX2, tyX2_ok, nmX2, by decide, rfl, rfl, rfl, (tw_t 52 (by decide +kernel) (by decide +kernel))⟩
theorem fl_X4_144 : FL RX4 144 2 5 .int false := ⟨RX2, TX2, 6, tyX2, rfl, uX2, tyX2_ok, nmX2, by decide, rfl, rfl, rfl, (tw_t 55 (by decide +kernel) (by decide +kernel))⟩
theorem fl_X4_147 : FL RX4 147 3 3 .int false := ⟨RX3, TX3, 13, tyX3, rfl, uX3, tyX3_ok, nmX3, by decide, rfl, rfl, rfl, (tw_t 77 (by decide +kernel) (by decide +kernel))⟩
theorem fl_X4_150 : FL RX4 150 3 5 .int false := ⟨RX3, TX3, 13, tyX3, rfl, uX3, tyX3_ok, nmX3, by decide, rfl, rfl, rfl, (tw_t 81 (by decide +kernel) (by decide +kernel))⟩
theorem fl_X4_156 : FL RX4 156 3 8 .int false := ⟨RX3, TX3, 13, tyX3, rfl, uX3, tyX3_ok, nmX3, by decide, rfl, rfl, rfl, (tw_t 87 (by decide +kernel) (by decide +kernel))⟩
theorem fl_X4_157 : FL RX4 157 3 10 .int false := ⟨RX3, TX3, 13, tyX3, rfl, uX3, tyX3_ok, nmX3, by decide, rfl, rfl, rfl, (tw_t 91 (by decide +kernel) (by decide +kernel))⟩
theorem fl_X4_160 : FL RX4 160 3 11 .int false := ⟨RX3, TX3, 13, tyX3, rfl, uX3, tyX3_ok, nmX3, by decide, rfl, rfl, rfl, (tw_t 93 (by decide +kernel) (by decide +kernel))⟩
theorem fl_X4_166 : FL RX4 166 0 1 .int false := ⟨RX0, TX0, 2, tyX0, rfl, uX0, tyX0_ok, nmX0, by decide, rfl, rfl, rfl, (tw_t 134 (by decide +kernel) (by decide +kernel))⟩
theorem fl_X0_11 : FL RX0 11 0 0 (.array (.object "PurrProbates$State")) true := ⟨RX0, TX0, 2, tyX0, rfl, uX0, tyX0_ok, nmX0, by decide, rfl, rfl, rfl, (tw_t 132 (by decide +kernel) (by decide +kernel))⟩
theorem fl_X0_17 : FL RX0 17 0 1 .int false := ⟨RX0, TX0, 2, tyX0, rfl, uX0, tyX0_ok, nmX0, by decide, rfl, rfl, rfl, (tw_t 133 (by decide +kernel) (by decide +kernel))⟩
theorem fl_X1_9 : FL RX1 9 1 0 (.array .char) true := ⟨RX1, TX1, 2, tyX1, rfl, uX1, tyX1_ok, nmX1, by decide, rfl, rfl, rfl, (tw_t 146 (by decide +kernel) (by decide +kernel))⟩
theorem fl_X1_15 : FL RX1 15 1 1 .int false := ⟨RX1, TX1, 2, tyX1, rfl, uX1, tyX1_ok, nmX1, by decide, rfl, rfl, rfl, (tw_t 147 (by decide +kernel) (by decide +kernel))⟩
theorem fl_X2_7 : FL RX2 7 2 0 .int false := ⟨RX2, TX2, 6, tyX2, rfl, uX2, tyX2_ok, nmX2, by decide, rfl, rfl, rfl, (tw_t 39 (by decide +kernel) (by decide +kernel))⟩
theorem fl_X2_13 : FL RX2 13 2 1 .int false := ⟨RX2, TX2, 6, tyX2, rfl, uX2, tyX2_ok, nmX2, by decide, rfl, rfl, rfl, (tw_t 42 (by decide +kernel) (by decide +kernel))⟩
theorem fl_X2_16 : FL RX2 16 2 2 .int false := ⟨RX2, TX2, 6, tyX2, rfl, uX2, tyX2_ok, nmX2, by decide, rfl, rfl, rfl, (tw_t 45 (by decide +kernel) (by decide +kernel))⟩
theorem fl_X2_19 : FL RX2 19 2 3 .int false := ⟨RX2, TX2, 6, tyX2, rfl, uX2, tyX2_ok, nmX2, by decide, rfl, rfl, rfl, (tw_t 48 (by decide +kernel) (by decide +kernel))⟩
theorem fl_X2_22 : FL RX2 22 2 4 .int false := ⟨RX2, TX2, 6, tyX2, rfl, uX2, tyX2_ok, nmX2, by decide, rfl, rfl, rfl, (tw_t 51 (by decide +kernel) (by decide +kernel))⟩
theorem fl_X2_25 : FL RX2 25 2 5 .int false := ⟨RX2, TX2, 6, tyX2, rfl, uX2, tyX2_ok, nmX2, by decide, rfl, rfl, rfl, (tw_t 54 (by decide +kernel) (by decide +kernel))⟩
theorem fl_X3_18 : FL RX3 18 3 0 (.array .int) true := ⟨RX3, TX3, 13, tyX3, rfl, uX3, tyX3_ok, nmX3, by decide, rfl, rfl, rfl, (tw_t 71 (by decide +kernel) (by decide +kernel))⟩
theorem fl_X3_25 : FL RX3 25 3 1 (.array (.object "PurrProbates$Person")) true := ⟨RX3, TX3, 13, tyX3, rfl, uX3, tyX3_ok, nmX3, by decide, rfl, rfl, rfl, (tw_t 73 (by decide +kernel) (by decide +kernel))⟩
theorem fl_X3_29 : FL RX3 29 3 2 .int false := ⟨RX3, TX3, 13, tyX3, rfl, uX3, tyX3_ok, nmX3, by decide, rfl, rfl, rfl, (tw_t 74 (by decide +kernel) (by decide +kernel))⟩
theorem fl_X3_33 : FL RX3 33 3 3 .int false := ⟨RX3, TX3, 13, tyX3, rfl, uX3, tyX3_ok, nmX3, by decide, rfl, rfl, rfl, (tw_t 76 (by decide +kernel) (by decide +kernel))⟩
theorem fl_X3_36 : FL RX3 36 3 4 .int false := ⟨RX3, TX3, 13, tyX3, rfl, uX3, tyX3_ok, nmX3, by decide, rfl, rfl, rfl, (tw_t 78 (by decide +kernel) (by decide +kernel))⟩
theorem fl_X3_39 : FL RX3 39 3 5 .int false := ⟨RX3, TX3, 13, tyX3, rfl, uX3, tyX3_ok, nmX3, by decide, rfl, rfl, rfl, (tw_t 80 (by decide +kernel) (by decide +kernel))⟩
theorem fl_X3_42 : FL RX3 42 3 6 .int false := ⟨RX3, TX3, 13, tyX3, rfl, uX3, tyX3_ok, nmX3, by decide, rfl, rfl, rfl, (tw_t 82 (by decide +kernel) (by decide +kernel))⟩
theorem fl_X3_45 : FL RX3 45 3 7 .int false := ⟨RX3, TX3, 13, tyX3, rfl, uX3, tyX3_ok, nmX3, by decide, rfl, rfl, rfl, (tw_t 84 (by decide +kernel) (by decide +kernel))⟩
theorem fl_X3_48 : FL RX3 48 3 8 .int false := ⟨RX3, TX3, 13, tyX3, rfl, uX3, tyX3_ok, nmX3, by decide, rfl, rfl, rfl, (tw_t 86 (by decide +kernel) (by decide +kernel))⟩
theorem fl_X3_51 : FL RX3 51 3 9 .int false := ⟨RX3, TX3, 13, tyX3, rfl, uX3, tyX3_ok, nmX3, by decide, rfl, rfl, rfl, (tw_t 88 (by decide +kernel) (by decide +kernel))⟩
theorem fl_X3_54 : FL RX3 54 3 10 .int false := ⟨RX3, TX3, 13, tyX3, rfl, uX3, tyX3_ok, nmX3, by decide, rfl, rfl, rfl, (tw_t 90 (by decide +kernel) (by decide +kernel))⟩
theorem fl_X3_57 : FL RX3 57 3 11 .int false := ⟨RX3, TX3, 13, tyX3, rfl, uX3, tyX3_ok, nmX3, by decide, rfl, rfl, rfl, (tw_t 92 (by decide +kernel) (by decide +kernel))⟩
theorem fl_X3_60 : FL RX3 60 3 12 .int false := ⟨RX3, TX3, 13, tyX3, rfl, uX3, tyX3_ok, nmX3, by decide, rfl, rfl, rfl, (tw_t 94 (by decide +kernel) (by decide +kernel))⟩
theorem fl_X3_78 : FL RX3 78 2 2 .int false := ⟨RX2, TX2, 6, tyX2, rfl, uX2, tyX2_ok, nmX2, by decide, rfl, rfl, rfl, (tw_t 46 (by decide +kernel) (by decide +kernel))⟩
theorem fl_X3_79 : FL RX3 79 2 0 .int false := ⟨RX2, TX2, 6, tyX2, rfl, uX2, tyX2_ok, nmX2, by decide, rfl, rfl, rfl, (tw_t 40 (by decide +kernel) (by decide +kernel))⟩
theorem fl_X3_86 : FL RX3 86 2 3 .int false := ⟨RX2, TX2, 6, tyX2, rfl, uX2, tyX2_ok, nmX2, by decide, rfl, rfl, rfl, (tw_t 49 (by decide +kernel) (by decide +kernel))⟩
theorem fl_X3_127 : FL RX3 127 2 5 .int false := ⟨RX2, TX2, 6, tyX2, rfl, uX2, tyX2_ok, nmX2, by decide, rfl, rfl, rfl, (tw_t 56 (by decide +kernel) (by decide +kernel))⟩
theorem fl_X3_133 : FL RX3 133 2 4 .int false := ⟨RX2, TX2, 6, tyX2, rfl, uX2, tyX2_ok, nmX2, by decide, rfl, rfl, rfl, (tw_t 53 (by decide +kernel) (by decide +kernel))⟩
theorem fl_X3_146 : FL RX3 146 2 1 .int false := ⟨RX2, TX2, 6, tyX2, rfl, uX2, tyX2_ok, nmX2, by decide, rfl, rfl, rfl, (tw_t 44 (by decide +kernel) (by decide +kernel))⟩
theorem vl_X4_9 : VI RX4 9 yX3_init cX3_init 2 0 := ⟨⟨(tw_t 19 (by decide +kernel) (by decide +kernel)), (tw_t 2 (by decide +kernel) (by decide +kernel)), (tw_t 21 (by decide +kernel) (by decide +kernel)), (by decide +kernel), (by decide +kernel), (by decide +kernel), by decide⟩, (tw_t 20 (by decide +kernel) (by decide +kernel)), rfl⟩
theorem vl_X4_21 : VI RX4 21 yX0_init cX0_init 2 0 := ⟨⟨(tw_t 125 (by decide +kernel) (by decide +kernel)), (tw_t 4 (by decide +kernel) (by decide +kernel)), (tw_t 127 (by decide +kernel) (by decide +kernel)), (by decide +kernel), (by decide +kernel), (by decide +kernel), by decide⟩, (tw_t 126 (by decide +kernel) (by decide +kernel)), rfl⟩
theorem vl_X4_37 : VS RX4 37 yX4_isSetting cX4_isSetting 1 (some .boolean) 1 := ⟨⟨(tw_t 175 (by decide +kernel) (by decide +kernel)), (tw_t 1 (by decide +kernel) (by decide +kernel)), (tw_t 177 (by decide +kernel) (by decide +kernel)), (by decide +kernel), (by decide +kernel), (by decide +kernel), by decide⟩, (tw_t 176 (by decide +kernel) (by decide +kernel))⟩
theorem vl_X4_48 : VV RX4 48 yX0_record cX0_record 2 none 1 := ⟨⟨(tw_t 183 (by decide +kernel) (by decide +kernel)), (tw_t 4 (by decide +kernel) (by decide +kernel)), (tw_t 186 (by decide +kernel) (by decide +kernel)), (by decide +kernel), (by decide +kernel), (by decide +kernel), by decide⟩, (tw_t 184 (by decide +kernel) (by decide +kernel)), (tw_t 185 (by decide +kernel) (by decide +kernel))⟩
theorem vl_X4_59 : VV RX4 59 yX3_admit cX3_admit 4 none 2 := ⟨⟨(tw_t 210 (by decide +kernel) (by decide +kernel)), (tw_t 2 (by decide +kernel) (by decide +kernel)), (tw_t 213 (by decide +kernel) (by decide +kernel)), (by decide +kernel), (by decide +kernel), (by decide +kernel), by decide⟩, (tw_t 211 (by decide +kernel) (by decide +kernel)), (tw_t 212 (by decide +kernel) (by decide +kernel))⟩
theorem vl_X4_76 : VV RX4 76 yX3_at cX3_at 2 (some (.object "PurrProbates$Person")) 1 := ⟨⟨(tw_t 234 (by decide +kernel) (by decide +kernel)), (tw_t 2 (by decide +kernel) (by decide +kernel)), (tw_t 201 (by decide +kernel) (by decide +kernel)), (by decide +kernel), (by decide +kernel), (by decide +kernel), by decide⟩, (tw_t 199 (by decide +kernel) (by decide +kernel)), (tw_t 200 (by decide +kernel) (by decide +kernel))⟩
theorem vl_X4_80 : VV RX4 80 yX3_relocate cX3_relocate 5 none 2 := ⟨⟨(tw_t 356 (by decide +kernel) (by decide +kernel)), (tw_t 2 (by decide +kernel) (by decide +kernel)), (tw_t 359 (by decide +kernel) (by decide +kernel)), (by decide +kernel), (by decide +kernel), (by decide +kernel), by decide⟩, (tw_t 357 (by decide +kernel) (by decide +kernel)), (tw_t 358 (by decide +kernel) (by decide +kernel))⟩
theorem vl_X4_83 : VS RX4 83 yJ9_abs_0f7a4 cJ9_abs_0f7a4 1 (some .int) 1 := ⟨⟨(tw_t 364 (by decide +kernel) (by decide +kernel)), (tw_t 7 (by decide +kernel) (by decide +kernel)), (tw_t 366 (by decide +kernel) (by decide +kernel)), (by decide +kernel), (by decide +kernel), (by decide +kernel), by decide⟩, (tw_t 365 (by decide +kernel) (by decide +kernel))⟩
theorem vl_X4_92 : VV RX4 92 yX3_behind cX3_behind 2 (some .int) 1 := ⟨⟨(tw_t 222 (by decide +kernel) (by decide +kernel)), (tw_t 2 (by decide +kernel) (by decide +kernel)), (tw_t 225 (by decide +kernel) (by decide +kernel)), (by decide +kernel), (by decide +kernel), (by decide +kernel), by decide⟩, (tw_t 223 (by decide +kernel) (by decide +kernel)), (tw_t 224 (by decide +kernel) (by decide +kernel))⟩
theorem vl_X4_95 : VV RX4 95 yX3_leaveWithoutGuardian cX3_leaveWithoutGuardian 2 none 1 := ⟨⟨(tw_t 226 (by decide +kernel) (by decide +kernel)), (tw_t 2 (by decide +kernel) (by decide +kernel)), (tw_t 229 (by decide +kernel) (by decide +kernel)), (by decide +kernel), (by decide +kernel), (by decide +kernel), by decide⟩, (tw_t 227 (by decide +kernel) (by decide +kernel)), (tw_t 228 (by decide +kernel) (by decide +kernel))⟩
theorem vl_X4_99 : VV RX4 99 yX3_mayAppeal cX3_mayAppeal 3 (some .boolean) 1 := ⟨⟨(tw_t 235 (by decide +kernel) (by decide +kernel)), (tw_t 2 (by decide +kernel) (by decide +kernel)), (tw_t 238 (by decide +kernel) (by decide +kernel)), (by decide +kernel), (by decide +kernel), (by decide +kernel), by decide⟩, (tw_t 236 (by decide +kernel) (by decide +kernel)), (tw_t 237 (by decide +kernel) (by decide +kernel))⟩
theorem vl_X4_102 : VV RX4 102 yX3_hearAppeal cX3_hearAppeal 4 (some .boolean) 1 := ⟨⟨(tw_t 243 (by decide +kernel) (by decide +kernel)), (tw_t 2 (by decide +kernel) (by decide +kernel)), (tw_t 246 (by decide +kernel) (by decide +kernel)), (by decide +kernel), (by decide +kernel), (by decide +kernel), by decide⟩, (tw_t 244 (by decide +kernel) (by decide +kernel)), (tw_t 245 (by decide +kernel) (by decide +kernel))⟩
theorem vl_X4_118 : VV RX4 118 yX3_liveDays cX3_liveDays 3 none 1 := ⟨⟨(tw_t 269 (by decide +kernel) (by decide +kernel)), (tw_t 2 (by decide +kernel) (by decide +kernel)), (tw_t 272 (by decide +kernel) (by decide +kernel)), (by decide +kernel), (by decide +kernel), (by decide +kernel), by decide⟩, (tw_t 270 (by decide +kernel) (by decide +kernel)), (tw_t 271 (by decide +kernel) (by decide +kernel))⟩
theorem vl_X4_135 : VV RX4 135 yX3_isBarred cX3_isBarred 2 (some .boolean) 1 := ⟨⟨(tw_t 343 (by decide +kernel) (by decide +kernel)), (tw_t 2 (by decide +kernel) (by decide +kernel)), (tw_t 242 (by decide +kernel) (by decide +kernel)), (by decide +kernel), (by decide +kernel), (by decide +kernel), by decide⟩, (tw_t 240 (by decide +kernel) (by decide +kernel)), (tw_t 241 (by decide +kernel) (by decide +kernel))⟩
theorem vl_X4_139 : VV RX4 139 yX3_score cX3_score 2 (some .int) 1 := ⟨⟨(tw_t 344 (by decide +kernel) (by decide +kernel)), (tw_t 2 (by decide +kernel) (by decide +kernel)), (tw_t 250 (by decide +kernel) (by decide +kernel)), (by decide +kernel), (by decide +kernel), (by decide +kernel), by decide⟩, (tw_t 248 (by decide +kernel) (by decide +kernel)), (tw_t 249 (by decide +kernel) (by decide +kernel))⟩
theorem vl_X4_153 : VV RX4 153 yX3_barredPeople cX3_barredPeople 4 (some .int) 0 := ⟨⟨(tw_t 307 (by decide +kernel) (by decide +kernel)), (tw_t 2 (by decide +kernel) (by decide +kernel)), (tw_t 310 (by decide +kernel) (by decide +kernel)), (by decide +kernel), (by decide +kernel), (by decide +kernel), by decide⟩, (tw_t 308 (by decide +kernel) (by decide +kernel)), (tw_t 309 (by decide +kernel) (by decide +kernel))⟩
theorem vl_X4_163 : VV RX4 163 yX3_allPurses cX3_allPurses 4 (some .int) 0 := ⟨⟨(tw_t 311 (by decide +kernel) (by decide +kernel)), (tw_t 2 (by decide +kernel) (by decide +kernel)), (tw_t 314 (by decide +kernel) (by decide +kernel)), (by decide +kernel), (by decide +kernel), (by decide +kernel), by decide⟩, (tw_t 312 (by decide +kernel) (by decide +kernel)), (tw_t 313 (by decide +kernel) (by decide +kernel))⟩
theorem vl_X4_167 : VV RX4 167 yX3_copyFrom cX3_copyFrom 5 none 1 := ⟨⟨(tw_t 319 (by decide +kernel) (by decide +kernel)), (tw_t 2 (by decide +kernel) (by decide +kernel)), (tw_t 194 (by decide +kernel) (by decide +kernel)), (by decide +kernel), (by decide +kernel), (by decide +kernel), by decide⟩, (tw_t 192 (by decide +kernel) (by decide +kernel)), (tw_t 193 (by decide +kernel) (by decide +kernel))⟩
theorem vl_X4_170 : VV RX4 170 yX3_liveDay cX3_liveDay 4 (some .int) 0 := ⟨⟨(tw_t 320 (by decide +kernel) (by decide +kernel)), (tw_t 2 (by decide +kernel) (by decide +kernel)), (tw_t 276 (by decide +kernel) (by decide +kernel)), (by decide +kernel), (by decide +kernel), (by decide +kernel), by decide⟩, (tw_t 274 (by decide +kernel) (by decide +kernel)), (tw_t 275 (by decide +kernel) (by decide +kernel))⟩
theorem vl_X4_173 : VV RX4 173 yX4_daysAsGuardianIfMoved cX4_daysAsGuardianIfMoved 5 (some .int) 2 := ⟨⟨(tw_t 381 (by decide +kernel) (by decide +kernel)), (tw_t 1 (by decide +kernel) (by decide +kernel)), (tw_t 384 (by decide +kernel) (by decide +kernel)), (by decide +kernel), (by decide +kernel), (by decide +kernel), by decide⟩, (tw_t 383 (by decide +kernel) (by decide +kernel)), (tw_p 0 (by decide +kernel) (by decide +kernel))⟩
theorem vl_X4_187 : VV RX4 187 yX0_takeBack cX0_takeBack 2 none 1 := ⟨⟨(tw_t 329 (by decide +kernel) (by decide +kernel)), (tw_t 4 (by decide +kernel) (by decide +kernel)), (tw_t 332 (by decide +kernel) (by decide +kernel)), (by decide +kernel), (by decide +kernel), (by decide +kernel), by decide⟩, (tw_t 330 (by decide +kernel) (by decide +kernel)), (tw_t 331 (by decide +kernel) (by decide +kernel))⟩
theorem vl_X4_190 : VS RX4 190 yX4_isSlot cX4_isSlot 1 (some .boolean) 1 := ⟨⟨(tw_t 389 (by decide +kernel) (by decide +kernel)), (tw_t 1 (by decide +kernel) (by decide +kernel)), (tw_t 391 (by decide +kernel) (by decide +kernel)), (by decide +kernel), (by decide +kernel), (by decide +kernel), by decide⟩, (tw_t 390 (by decide +kernel) (by decide +kernel))⟩
theorem vl_X0_21 : VI RX0 21 yX3_init cX3_init 2 0 := ⟨⟨(tw_t 131 (by decide +kernel) (by decide +kernel)), (tw_t 2 (by decide +kernel) (by decide +kernel)), (tw_t 21 (by decide +kernel) (by decide +kernel)), (by decide +kernel), (by decide +kernel), (by decide +kernel), by decide⟩, (tw_t 20 (by decide +kernel) (by decide +kernel)), rfl⟩
theorem vl_X0_22 : VV RX0 22 yX0_dropOldest cX0_dropOldest 3 none 0 := ⟨⟨(tw_t 187 (by decide +kernel) (by decide +kernel)), (tw_t 4 (by decide +kernel) (by decide +kernel)), (tw_t 190 (by decide +kernel) (by decide +kernel)), (by decide +kernel), (by decide +kernel), (by decide +kernel), by decide⟩, (tw_t 188 (by decide +kernel) (by decide +kernel)), (tw_t 189 (by decide +kernel) (by decide +kernel))⟩
theorem vl_X0_25 : VV RX0 25 yX3_copyFrom cX3_copyFrom 5 none 1 := ⟨⟨(tw_t 191 (by decide +kernel) (by decide +kernel)), (tw_t 2 (by decide +kernel) (by decide +kernel)), (tw_t 194 (by decide +kernel) (by decide +kernel)), (by decide +kernel), (by decide +kernel), (by decide +kernel), by decide⟩, (tw_t 192 (by decide +kernel) (by decide +kernel)), (tw_t 193 (by decide +kernel) (by decide +kernel))⟩
theorem vl_X3_70 : VV RX3 70 yX3_at cX3_at 2 (some (.object "PurrProbates$Person")) 1 := ⟨⟨(tw_t 198 (by decide +kernel) (by decide +kernel)), (tw_t 2 (by decide +kernel) (by decide +kernel)), (tw_t 201 (by decide +kernel) (by decide +kernel)), (by decide +kernel), (by decide +kernel), (by decide +kernel), by decide⟩, (tw_t 199 (by decide +kernel) (by decide +kernel)), (tw_t 200 (by decide +kernel) (by decide +kernel))⟩
theorem vl_X3_74 : VV RX3 74 yX2_copyFrom cX2_copyFrom 2 none 1 := ⟨⟨(tw_t 202 (by decide +kernel) (by decide +kernel)), (tw_t 3 (by decide +kernel) (by decide +kernel)), (tw_t 205 (by decide +kernel) (by decide +kernel)), (by decide +kernel), (by decide +kernel), (by decide +kernel), by decide⟩, (tw_t 203 (by decide +kernel) (by decide +kernel)), (tw_t 204 (by decide +kernel) (by decide +kernel))⟩
theorem vl_X3_82 : VV RX3 82 yX3_isBarred cX3_isBarred 2 (some .boolean) 1 := ⟨⟨(tw_t 239 (by decide +kernel) (by decide +kernel)), (tw_t 2 (by decide +kernel) (by decide +kernel)), (tw_t 242 (by decide +kernel) (by decide +kernel)), (by decide +kernel), (by decide +kernel), (by decide +kernel), by decide⟩, (tw_t 240 (by decide +kernel) (by decide +kernel)), (tw_t 241 (by decide +kernel) (by decide +kernel))⟩
theorem vl_X3_89 : VV RX3 89 yX2_begin cX2_begin 3 none 2 := ⟨⟨(tw_t 214 (by decide +kernel) (by decide +kernel)), (tw_t 3 (by decide +kernel) (by decide +kernel)), (tw_t 217 (by decide +kernel) (by decide +kernel)), (by decide +kernel), (by decide +kernel), (by decide +kernel), by decide⟩, (tw_t 215 (by decide +kernel) (by decide +kernel)), (tw_t 216 (by decide +kernel) (by decide +kernel))⟩
theorem vl_X3_93 : VV RX3 93 yX3_placeAfterMove cX3_placeAfterMove 4 (some .int) 3 := ⟨⟨(tw_t 360 (by decide +kernel) (by decide +kernel)), (tw_t 2 (by decide +kernel) (by decide +kernel)), (tw_t 363 (by decide +kernel) (by decide +kernel)), (by decide +kernel), (by decide +kernel), (by decide +kernel), by decide⟩, (tw_t 361 (by decide +kernel) (by decide +kernel)), (tw_t 362 (by decide +kernel) (by decide +kernel))⟩
theorem vl_X3_97 : VV RX3 97 yX3_leaveWithoutGuardian cX3_leaveWithoutGuardian 2 none 1 := ⟨⟨(tw_t 255 (by decide +kernel) (by decide +kernel)), (tw_t 2 (by decide +kernel) (by decide +kernel)), (tw_t 229 (by decide +kernel) (by decide +kernel)), (by decide +kernel), (by decide +kernel), (by decide +kernel), by decide⟩, (tw_t 227 (by decide +kernel) (by decide +kernel)), (tw_t 228 (by decide +kernel) (by decide +kernel))⟩
theorem vl_X3_101 : VV RX3 101 yX3_score cX3_score 2 (some .int) 1 := ⟨⟨(tw_t 247 (by decide +kernel) (by decide +kernel)), (tw_t 2 (by decide +kernel) (by decide +kernel)), (tw_t 250 (by decide +kernel) (by decide +kernel)), (by decide +kernel), (by decide +kernel), (by decide +kernel), by decide⟩, (tw_t 248 (by decide +kernel) (by decide +kernel)), (tw_t 249 (by decide +kernel) (by decide +kernel))⟩
theorem vl_X3_105 : VV RX3 105 yX3_depose cX3_depose 2 none 1 := ⟨⟨(tw_t 251 (by decide +kernel) (by decide +kernel)), (tw_t 2 (by decide +kernel) (by decide +kernel)), (tw_t 254 (by decide +kernel) (by decide +kernel)), (by decide +kernel), (by decide +kernel), (by decide +kernel), by decide⟩, (tw_t 252 (by decide +kernel) (by decide +kernel)), (tw_t 253 (by decide +kernel) (by decide +kernel))⟩
theorem vl_X3_108 : VV RX3 108 yX3_scratch cX3_scratch 2 none 1 := ⟨⟨(tw_t 256 (by decide +kernel) (by decide +kernel)), (tw_t 2 (by decide +kernel) (by decide +kernel)), (tw_t 259 (by decide +kernel) (by decide +kernel)), (by decide +kernel), (by decide +kernel), (by decide +kernel), by decide⟩, (tw_t 257 (by decide +kernel) (by decide +kernel)), (tw_t 258 (by decide +kernel) (by decide +kernel))⟩
theorem vl_X3_111 : VV RX3 111 yX3_liveDay cX3_liveDay 4 (some .int) 0 := ⟨⟨(tw_t 273 (by decide +kernel) (by decide +kernel)), (tw_t 2 (by decide +kernel) (by decide +kernel)), (tw_t 276 (by decide +kernel) (by decide +kernel)), (by decide +kernel), (by decide +kernel), (by decide +kernel), by decide⟩, (tw_t 274 (by decide +kernel) (by decide +kernel)), (tw_t 275 (by decide +kernel) (by decide +kernel))⟩
theorem vl_X3_115 : VV RX3 115 yX3_holdOutHand cX3_holdOutHand 3 (some .int) 0 := ⟨⟨(tw_t 277 (by decide +kernel) (by decide +kernel)), (tw_t 2 (by decide +kernel) (by decide +kernel)), (tw_t 280 (by decide +kernel) (by decide +kernel)), (by decide +kernel), (by decide +kernel), (by decide +kernel), by decide⟩, (tw_t 278 (by decide +kernel) (by decide +kernel)), (tw_t 279 (by decide +kernel) (by decide +kernel))⟩
theorem vl_X3_118 : VV RX3 118 yX3_endMonth cX3_endMonth 4 none 0 := ⟨⟨(tw_t 289 (by decide +kernel) (by decide +kernel)), (tw_t 2 (by decide +kernel) (by decide +kernel)), (tw_t 292 (by decide +kernel) (by decide +kernel)), (by decide +kernel), (by decide +kernel), (by decide +kernel), by decide⟩, (tw_t 290 (by decide +kernel) (by decide +kernel)), (tw_t 291 (by decide +kernel) (by decide +kernel))⟩
theorem vl_X3_121 : VS RX3 121 yJ6_compare_7cf53 cJ6_compare_7cf53 2 (some .int) 2 := ⟨⟨(tw_t 300 (by decide +kernel) (by decide +kernel)), (tw_t 8 (by decide +kernel) (by decide +kernel)), (tw_t 302 (by decide +kernel) (by decide +kernel)), (by decide +kernel), (by decide +kernel), (by decide +kernel), by decide⟩, (tw_t 301 (by decide +kernel) (by decide +kernel))⟩
theorem vl_X3_130 : VV RX3 130 yX3_nextHand cX3_nextHand 4 (some .int) 0 := ⟨⟨(tw_t 281 (by decide +kernel) (by decide +kernel)), (tw_t 2 (by decide +kernel) (by decide +kernel)), (tw_t 284 (by decide +kernel) (by decide +kernel)), (by decide +kernel), (by decide +kernel), (by decide +kernel), by decide⟩, (tw_t 282 (by decide +kernel) (by decide +kernel)), (tw_t 283 (by decide +kernel) (by decide +kernel))⟩
theorem vl_X3_134 : VS RX3 134 yJ9_max_7cf53 cJ9_max_7cf53 2 (some .int) 2 := ⟨⟨(tw_t 286 (by decide +kernel) (by decide +kernel)), (tw_t 7 (by decide +kernel) (by decide +kernel)), (tw_t 288 (by decide +kernel) (by decide +kernel)), (by decide +kernel), (by decide +kernel), (by decide +kernel), by decide⟩, (tw_t 287 (by decide +kernel) (by decide +kernel))⟩
theorem vl_X3_139 : VV RX3 139 yX3_behind cX3_behind 2 (some .int) 1 := ⟨⟨(tw_t 285 (by decide +kernel) (by decide +kernel)), (tw_t 2 (by decide +kernel) (by decide +kernel)), (tw_t 225 (by decide +kernel) (by decide +kernel)), (by decide +kernel), (by decide +kernel), (by decide +kernel), by decide⟩, (tw_t 223 (by decide +kernel) (by decide +kernel)), (tw_t 224 (by decide +kernel) (by decide +kernel))⟩
theorem vl_X3_143 : VV RX3 143 yX3_draw cX3_draw 3 (some .int) 1 := ⟨⟨(tw_t 293 (by decide +kernel) (by decide +kernel)), (tw_t 2 (by decide +kernel) (by decide +kernel)), (tw_t 296 (by decide +kernel) (by decide +kernel)), (by decide +kernel), (by decide +kernel), (by decide +kernel), by decide⟩, (tw_t 294 (by decide +kernel) (by decide +kernel)), (tw_t 295 (by decide +kernel) (by decide +kernel))⟩
theorem vl_X3_149 : VS RX3 149 yJ9_min_7cf53 cJ9_min_7cf53 2 (some .int) 2 := ⟨⟨(tw_t 297 (by decide +kernel) (by decide +kernel)), (tw_t 7 (by decide +kernel) (by decide +kernel)), (tw_t 299 (by decide +kernel) (by decide +kernel)), (by decide +kernel), (by decide +kernel), (by decide +kernel), by decide⟩, (tw_t 298 (by decide +kernel) (by decide +kernel))⟩
theorem vl_L_8 : VV RL 8 yX4_count cX4_count 2 (some .int) 1 := ⟨⟨(tw_t 303 (by decide +kernel) (by decide +kernel)), (tw_t 1 (by decide +kernel) (by decide +kernel)), (tw_t 306 (by decide +kernel) (by decide +kernel)), (by decide +kernel), (by decide +kernel), (by decide +kernel), by decide⟩, (tw_t 304 (by decide +kernel) (by decide +kernel)), (tw_t 305 (by decide +kernel) (by decide +kernel))⟩
theorem vl_L_14 : VV RL 14 yX4_person cX4_person 4 (some .int) 2 := ⟨⟨(tw_t 339 (by decide +kernel) (by decide +kernel)), (tw_t 1 (by decide +kernel) (by decide +kernel)), (tw_t 342 (by decide +kernel) (by decide +kernel)), (by decide +kernel), (by decide +kernel), (by decide +kernel), by decide⟩, (tw_t 340 (by decide +kernel) (by decide +kernel)), (tw_t 341 (by decide +kernel) (by decide +kernel))⟩
theorem vl_L_18 : VV RL 18 yX4_pass cX4_pass 3 (some .int) 1 := ⟨⟨(tw_t 265 (by decide +kernel) (by decide +kernel)), (tw_t 1 (by decide +kernel) (by decide +kernel)), (tw_t 268 (by decide +kernel) (by decide +kernel)), (by decide +kernel), (by decide +kernel), (by decide +kernel), by decide⟩, (tw_t 266 (by decide +kernel) (by decide +kernel)), (tw_t 267 (by decide +kernel) (by decide +kernel))⟩
theorem vl_L_21 : VV RL 21 yX4_ifPassed cX4_ifPassed 3 (some .int) 2 := ⟨⟨(tw_t 321 (by decide +kernel) (by decide +kernel)), (tw_t 1 (by decide +kernel) (by decide +kernel)), (tw_t 324 (by decide +kernel) (by decide +kernel)), (by decide +kernel), (by decide +kernel), (by decide +kernel), by decide⟩, (tw_t 322 (by decide +kernel) (by decide +kernel)), (tw_t 323 (by decide +kernel) (by decide +kernel))⟩
theorem vl_L_24 : VV RL 24 yX4_next cX4_next 4 (some .int) 1 := ⟨⟨(tw_t 315 (by decide +kernel) (by decide +kernel)), (tw_t 1 (by decide +kernel) (by decide +kernel)), (tw_t 318 (by decide +kernel) (by decide +kernel)), (by decide +kernel), (by decide +kernel), (by decide +kernel), by decide⟩, (tw_t 316 (by decide +kernel) (by decide +kernel)), (tw_t 317 (by decide +kernel) (by decide +kernel))⟩
theorem vl_L_27 : VV RL 27 yX4_untilEmpty cX4_untilEmpty 2 (some .int) 0 := ⟨⟨(tw_t 399 (by decide +kernel) (by decide +kernel)), (tw_t 1 (by decide +kernel) (by decide +kernel)), (tw_t 402 (by decide +kernel) (by decide +kernel)), (by decide +kernel), (by decide +kernel), (by decide +kernel), by decide⟩, (tw_t 400 (by decide +kernel) (by decide +kernel)), (tw_t 401 (by decide +kernel) (by decide +kernel))⟩
theorem vl_L_31 : VV RL 31 yX4_appeal cX4_appeal 2 (some .int) 1 := ⟨⟨(tw_t 230 (by decide +kernel) (by decide +kernel)), (tw_t 1 (by decide +kernel) (by decide +kernel)), (tw_t 233 (by decide +kernel) (by decide +kernel)), (by decide +kernel), (by decide +kernel), (by decide +kernel), by decide⟩, (tw_t 231 (by decide +kernel) (by decide +kernel)), (tw_t 232 (by decide +kernel) (by decide +kernel))⟩
theorem vl_L_34 : VV RL 34 yX4_bestPlace cX4_bestPlace 7 (some .int) 2 := ⟨⟨(tw_t 377 (by decide +kernel) (by decide +kernel)), (tw_t 1 (by decide +kernel) (by decide +kernel)), (tw_t 380 (by decide +kernel) (by decide +kernel)), (by decide +kernel), (by decide +kernel), (by decide +kernel), by decide⟩, (tw_t 378 (by decide +kernel) (by decide +kernel)), (tw_t 379 (by decide +kernel) (by decide +kernel))⟩
theorem vl_L_37 : VV RL 37 yX4_save cX4_save 2 (some .int) 1 := ⟨⟨(tw_t 385 (by decide +kernel) (by decide +kernel)), (tw_t 1 (by decide +kernel) (by decide +kernel)), (tw_t 388 (by decide +kernel) (by decide +kernel)), (by decide +kernel), (by decide +kernel), (by decide +kernel), by decide⟩, (tw_t 386 (by decide +kernel) (by decide +kernel)), (tw_t 387 (by decide +kernel) (by decide +kernel))⟩
theorem vl_L_40 : VV RL 40 yX4_move cX4_move 3 (some .int) 2 := ⟨⟨(tw_t 352 (by decide +kernel) (by decide +kernel)), (tw_t 1 (by decide +kernel) (by decide +kernel)), (tw_t 355 (by decide +kernel) (by decide +kernel)), (by decide +kernel), (by decide +kernel), (by decide +kernel), by decide⟩, (tw_t 353 (by decide +kernel) (by decide +kernel)), (tw_t 354 (by decide +kernel) (by decide +kernel))⟩
theorem vl_L_43 : VV RL 43 yX4_restore cX4_restore 3 (some .int) 1 := ⟨⟨(tw_t 392 (by decide +kernel) (by decide +kernel)), (tw_t 1 (by decide +kernel) (by decide +kernel)), (tw_t 395 (by decide +kernel) (by decide +kernel)), (by decide +kernel), (by decide +kernel), (by decide +kernel), by decide⟩, (tw_t 393 (by decide +kernel) (by decide +kernel)), (tw_t 394 (by decide +kernel) (by decide +kernel))⟩
theorem vl_L_46 : VS RL 46 yL_low cL_low 2 (some .int) 2 := ⟨⟨(tw_t 348 (by decide +kernel) (by decide +kernel)), (tw_t 0 (by decide +kernel) (by decide +kernel)), (tw_t 350 (by decide +kernel) (by decide +kernel)), (by decide +kernel), (by decide +kernel), (by decide +kernel), by decide⟩, (tw_t 349 (by decide +kernel) (by decide +kernel))⟩
theorem vl_L_51 : VV RL 51 yX4_add cX4_add 3 (some .int) 2 := ⟨⟨(tw_t 206 (by decide +kernel) (by decide +kernel)), (tw_t 1 (by decide +kernel) (by decide +kernel)), (tw_t 209 (by decide +kernel) (by decide +kernel)), (by decide +kernel), (by decide +kernel), (by decide +kernel), by decide⟩, (tw_t 207 (by decide +kernel) (by decide +kernel)), (tw_t 208 (by decide +kernel) (by decide +kernel))⟩
theorem vl_L_54 : VS RL 54 yL_isMoved cL_isMoved 13 (some .boolean) 3 := ⟨⟨(tw_t 367 (by decide +kernel) (by decide +kernel)), (tw_t 0 (by decide +kernel) (by decide +kernel)), (tw_t 369 (by decide +kernel) (by decide +kernel)), (by decide +kernel), (by decide +kernel), (by decide +kernel), by decide⟩, (tw_t 368 (by decide +kernel) (by decide +kernel))⟩
theorem vl_L_58 : VV RL 58 yX4_stepDown cX4_stepDown 2 (some .int) 0 := ⟨⟨(tw_t 218 (by decide +kernel) (by decide +kernel)), (tw_t 1 (by decide +kernel) (by decide +kernel)), (tw_t 221 (by decide +kernel) (by decide +kernel)), (by decide +kernel), (by decide +kernel), (by decide +kernel), by decide⟩, (tw_t 219 (by decide +kernel) (by decide +kernel)), (tw_t 220 (by decide +kernel) (by decide +kernel))⟩
theorem vl_L_61 : VS RL 61 yL_isAppeal cL_isAppeal 11 (some .boolean) 2 := ⟨⟨(tw_t 370 (by decide +kernel) (by decide +kernel)), (tw_t 0 (by decide +kernel) (by decide +kernel)), (tw_t 372 (by decide +kernel) (by decide +kernel)), (by decide +kernel), (by decide +kernel), (by decide +kernel), by decide⟩, (tw_t 371 (by decide +kernel) (by decide +kernel))⟩
theorem vl_L_65 : VV RL 65 yX4_give cX4_give 2 (some .int) 1 := ⟨⟨(tw_t 260 (by decide +kernel) (by decide +kernel)), (tw_t 1 (by decide +kernel) (by decide +kernel)), (tw_t 263 (by decide +kernel) (by decide +kernel)), (by decide +kernel), (by decide +kernel), (by decide +kernel), by decide⟩, (tw_t 261 (by decide +kernel) (by decide +kernel)), (tw_t 262 (by decide +kernel) (by decide +kernel))⟩
theorem vl_L_69 : VV RL 69 yX4_set cX4_set 4 (some .int) 2 := ⟨⟨(tw_t 171 (by decide +kernel) (by decide +kernel)), (tw_t 1 (by decide +kernel) (by decide +kernel)), (tw_t 174 (by decide +kernel) (by decide +kernel)), (by decide +kernel), (by decide +kernel), (by decide +kernel), by decide⟩, (tw_t 172 (by decide +kernel) (by decide +kernel)), (tw_t 173 (by decide +kernel) (by decide +kernel))⟩
theorem vl_L_72 : VS RL 72 yL_isBest cL_isBest 15 (some .boolean) 2 := ⟨⟨(tw_t 374 (by decide +kernel) (by decide +kernel)), (tw_t 0 (by decide +kernel) (by decide +kernel)), (tw_t 376 (by decide +kernel) (by decide +kernel)), (by decide +kernel), (by decide +kernel), (by decide +kernel), by decide⟩, (tw_t 375 (by decide +kernel) (by decide +kernel))⟩
theorem vl_L_75 : VS RL 75 yL_areDays cL_areDays 13 (some .boolean) 2 := ⟨⟨(tw_t 396 (by decide +kernel) (by decide +kernel)), (tw_t 0 (by decide +kernel) (by decide +kernel)), (tw_t 398 (by decide +kernel) (by decide +kernel)), (by decide +kernel), (by decide +kernel), (by decide +kernel), by decide⟩, (tw_t 397 (by decide +kernel) (by decide +kernel))⟩
theorem vl_L_82 : VI RL 82 yX4_init cX4_init 1 0 := ⟨⟨(tw_t 11 (by decide +kernel) (by decide +kernel)), (tw_t 1 (by decide +kernel) (by decide +kernel)), (tw_t 13 (by decide +kernel) (by decide +kernel)), (by decide +kernel), (by decide +kernel), (by decide +kernel), by decide⟩, (tw_t 12 (by decide +kernel) (by decide +kernel)), rfl⟩
theorem vl_L_83 : VS RL 83 yL_areAll cL_areAll 14 (some .boolean) 1 := ⟨⟨(tw_t 336 (by decide +kernel) (by decide +kernel)), (tw_t 0 (by decide +kernel) (by decide +kernel)), (tw_t 338 (by decide +kernel) (by decide +kernel)), (by decide +kernel), (by decide +kernel), (by decide +kernel), by decide⟩, (tw_t 337 (by decide +kernel) (by decide +kernel))⟩
theorem vl_L_86 : VV RL 86 yX4_undo cX4_undo 1 (some .int) 0 := ⟨⟨(tw_t 325 (by decide +kernel) (by decide +kernel)), (tw_t 1 (by decide +kernel) (by decide +kernel)), (tw_t 328 (by decide +kernel) (by decide +kernel)), (by decide +kernel), (by decide +kernel), (by decide +kernel), by decide⟩, (tw_t 326 (by decide +kernel) (by decide +kernel)), (tw_t 327 (by decide +kernel) (by decide +kernel))⟩
theorem vl_L_89 : VS RL 89 yL_cell cL_cell 2 (some .int) 2 := ⟨⟨(tw_t 333 (by decide +kernel) (by decide +kernel)), (tw_t 0 (by decide +kernel) (by decide +kernel)), (tw_t 335 (by decide +kernel) (by decide +kernel)), (by decide +kernel), (by decide +kernel), (by decide +kernel), by decide⟩, (tw_t 334 (by decide +kernel) (by decide +kernel))⟩
theorem vl_L_93 : VS RL 93 yL_does cL_does 12 (some .boolean) 3 := ⟨⟨(tw_t 345 (by decide +kernel) (by decide +kernel)), (tw_t 0 (by decide +kernel) (by decide +kernel)), (tw_t 347 (by decide +kernel) (by decide +kernel)), (by decide +kernel), (by decide +kernel), (by decide +kernel), by decide⟩, (tw_t 346 (by decide +kernel) (by decide +kernel))⟩
theorem vn_X4_32 : Cond.initialized yX1_init.cls ∈ TW ∧ Cond.code yX1_init cX1_init 1 none ∈ TW ∧ yX1_init.cls ≠ "java/lang/invoke/MethodHandle" ∧ yX1_init.cls ≠ "java/lang/invoke/VarHandle" ∧ (parseMethodDescriptor yX1_init.desc).map (fun d => d.parameters.length) = some 0 ∧ 1 ≤ 17 ∧ Cond.instanceMethod yX1_init ∈ TW ∧ yX1_init.name = "<init>" := ⟨(tw_t 5 (by decide +kernel) (by decide +kernel)), (tw_t 144 (by decide +kernel) (by decide +kernel)), (by decide +kernel), (by decide +kernel), (by decide +kernel), by decide, (tw_t 143 (by decide +kernel) (by decide +kernel)), rfl⟩
theorem vn_X3_63 : Cond.initialized yX2_init.cls ∈ TW ∧ Cond.code yX2_init cX2_init 1 none ∈ TW ∧ yX2_init.cls ≠ "java/lang/invoke/MethodHandle" ∧ yX2_init.cls ≠ "java/lang/invoke/VarHandle" ∧ (parseMethodDescriptor yX2_init.desc).map (fun d => d.parameters.length) = some 0 ∧ 1 ≤ 17 ∧ Cond.instanceMethod yX2_init ∈ TW ∧ yX2_init.name = "<init>" := ⟨(tw_t 3 (by decide +kernel) (by decide +kernel)), (tw_t 37 (by decide +kernel) (by decide +kernel)), (by decide +kernel), (by decide +kernel), (by decide +kernel), by decide, (tw_t 36 (by decide +kernel) (by decide +kernel)), rfl⟩
theorem cl_X4_7 : Cond.classLink RX4 7 RX3 ∈ TW := (tw_t 17 (by decide +kernel) (by decide +kernel))
theorem nl_X4_7 : NL RX4 7 3 13 [.null, .null, .int 0, .int 0, .int 0, .int 0, .int 0, .int 0, .int 0, .int 0, .int 0, .int 0, .int 0] := ⟨RX3, TX3, tyX3, rfl, uX3, tyX3_ok, by decide +kernel, cl_X4_7, (tw_t 18 (by decide +kernel) (by decide +kernel)), (tw_t 2 (by decide +kernel) (by decide +kernel))⟩
theorem cl_X4_19 : Cond.classLink RX4 19 RX0 ∈ TW := (tw_t 123 (by decide +kernel) (by decide +kernel))
theorem nl_X4_19 : NL RX4 19 0 2 [.null, .int 0] := ⟨RX0, TX0, tyX0, rfl, uX0, tyX0_ok, by decide +kernel, cl_X4_19, (tw_t 124 (by decide +kernel) (by decide +kernel)), (tw_t 4 (by decide +kernel) (by decide +kernel))⟩
theorem cl_X4_30 : Cond.classLink RX4 30 RX1 ∈ TW := (tw_t 140 (by decide +kernel) (by decide +kernel))
theorem nl_X4_30 : NL RX4 30 1 2 [.null, .int 0] := ⟨RX1, TX1, tyX1, rfl, uX1, tyX1_ok, by decide +kernel, cl_X4_30, (tw_t 141 (by decide +kernel) (by decide +kernel)), (tw_t 5 (by decide +kernel) (by decide +kernel))⟩
theorem cl_X0_9 : Cond.classLink RX0 9 RX3 ∈ TW := (tw_t 129 (by decide +kernel) (by decide +kernel))
theorem nl_X0_9 : NL RX0 9 3 13 [.null, .null, .int 0, .int 0, .int 0, .int 0, .int 0, .int 0, .int 0, .int 0, .int 0, .int 0, .int 0] := ⟨RX3, TX3, tyX3, rfl, uX3, tyX3_ok, by decide +kernel, cl_X0_9, (tw_t 18 (by decide +kernel) (by decide +kernel)), (tw_t 2 (by decide +kernel) (by decide +kernel))⟩
theorem cl_X3_14 : Cond.classLink RX3 14 "[I" ∈ TW := (tw_t 31 (by decide +kernel) (by decide +kernel))
theorem cl_X3_23 : Cond.classLink RX3 23 RX2 ∈ TW := (tw_t 32 (by decide +kernel) (by decide +kernel))
theorem nl_X3_23 : NL RX3 23 2 6 [.int 0, .int 0, .int 0, .int 0, .int 0, .int 0] := ⟨RX2, TX2, tyX2, rfl, uX2, tyX2_ok, by decide +kernel, cl_X3_23, (tw_t 34 (by decide +kernel) (by decide +kernel)), (tw_t 3 (by decide +kernel) (by decide +kernel))⟩
theorem cl_L_9 : Cond.classLink RL 9 RX4 ∈ TW := (tw_t 9 (by decide +kernel) (by decide +kernel))
theorem nl_L_9 : NL RL 9 4 5 [.null, .null, .null, .null, .null] := ⟨RX4, TX4, tyX4, rfl, uX4, tyX4_ok, by decide +kernel, cl_L_9, (tw_t 10 (by decide +kernel) (by decide +kernel)), (tw_t 1 (by decide +kernel) (by decide +kernel))⟩
theorem oi_X4_1 : Cond.methodLink RX4 1 objectInit ∈ TW := (tw_t 14 (by decide +kernel) (by decide +kernel))
theorem oi_X0_3 : Cond.methodLink RX0 3 objectInit ∈ TW := (tw_t 128 (by decide +kernel) (by decide +kernel))
theorem oi_X1_3 : Cond.methodLink RX1 3 objectInit ∈ TW := (tw_t 145 (by decide +kernel) (by decide +kernel))
theorem oi_X2_1 : Cond.methodLink RX2 1 objectInit ∈ TW := (tw_t 38 (by decide +kernel) (by decide +kernel))
theorem oi_X3_3 : Cond.methodLink RX3 3 objectInit ∈ TW := (tw_t 22 (by decide +kernel) (by decide +kernel))
theorem oi_2 : Cond.instanceMethod objectInit ∈ TW := (tw_t 15 (by decide +kernel) (by decide +kernel))
theorem oi_3 : Cond.code objectInit ⟨#[0xb1]⟩ 1 none ∈ TW := (tw_t 16 (by decide +kernel) (by decide +kernel))
theorem kc_X4_108 : Cond.constant RX4 108 (99999) ∈ TW := (tw_t 264 (by decide +kernel) (by decide +kernel))
theorem kc_L_7 : Cond.constant RL 7 (2147483647) ∈ TW := (tw_t 351 (by decide +kernel) (by decide +kernel))
theorem kc_L_68 : Cond.constant RL 68 (99999) ∈ TW := (tw_t 373 (by decide +kernel) (by decide +kernel))
end
section
/-! the mathematical value: what a day, a month, a hand, an appeal do -/
def mxI (a b : Int32) : Int32 := if a < b then b else a
def mnI (a b : Int32) : Int32 := if b < a then b else a
def abI (a : Int32) : Int32 := if 0 ≤ a then a else 0 - a
def cpI (a b : Int32) : Int32 := if a < b then (-1) else if a = b then nI 0 else nI 1
def bh (n j : Nat) : Nat := if j + 1 < n then j + 1 else 0
def bB (u : Nat → Int32) (q : Nat → Nat → Int32) (j : Nat) : Int32 := if q j 2 < u 4 then nI 0 else nI 1
theorem bB_0 {u : Nat → Int32} {q : Nat → Nat → Int32} {j : Nat} (h : bB u q j = 0) : q j 2 < u 4 := by
  unfold bB at h
  split at h
  · assumption
  · exact absurd h (by decide)
theorem bB_1 {u : Nat → Int32} {q : Nat → Nat → Int32} {j : Nat} (h : ¬ bB u q j = 0) : ¬ q j 2 < u 4 := by
  intro c
  exact h (by unfold bB; rw [if_pos c]; rfl)
def scI (u : Nat → Int32) (q : Nat → Nat → Int32) (j : Nat) : Int32 := u 8 + nI 5 * q j 0 - nI 10 * q j 2
def sumB (u : Nat → Int32) (q : Nat → Nat → Int32) (m : Nat) : Int32 := match m with
  | 0 => nI 0
  | k + 1 => if q k 2 < u 4 then sumB u q k else sumB u q k + 1
def sumP (q : Nat → Nat → Int32) (m : Nat) : Int32 := match m with
  | 0 => nI 0
  | k + 1 => sumP q k + q k 3
/-- the first one, of k that are asked from t on, who is not barred -/
def handF (n : Nat) (u : Nat → Int32) (q : Nat → Nat → Int32) (t k : Nat) : Option Nat := match k with
  | 0 => none
  | k + 1 => if q t 2 < u 4 then some t else handF n u q (bh n t) k
def hand (n t : Nat) (u : Nat → Int32) (q : Nat → Nat → Int32) : Option Nat := handF n u q t n
/-- a hand is held out; who gets the purr -/
def holdA (n t : Nat) (u : Nat → Int32) (q : Nat → Nat → Int32) : AS × Option Nat := match hand n t u q with
  | none => ((n, none, t, u, q), none)
  | some j => if scI u q j < u 0 then ((n, none, bh n j, upd (upd u 12 (u 12 + nI 1)) 8 (mxI (nI 0) (u 8 - nI 3)), uq q j 2 (q j 2 + nI 1)), none) else ((n, some j, t, upd u 13 (u 13 + nI 1), uq q j 4 (q j 4 + nI 1)), some j)
def monthA (A : AS) : AS := match A with
  | (n, none, t, u, q) => (n, none, t, upd (upd u 11 (u 11 - mnI (u 1 / nI 2) (u 11))) 15 (u 15 + mnI (u 1 / nI 2) (u 11)), q)
  | (n, some j, t, u, q) =>
    if mnI (nI 99) (u 8 + mnI (u 1) (u 11) * q j 1 / nI 100 / nI 2) < u 5 then
      (n, none, 0, upd (upd (upd (upd u 11 (u 11 - mnI (u 1) (u 11))) 15 (u 15 + mnI (u 1) (u 11) * q j 1 / nI 100)) 8 (mnI (nI 99) (u 8 + mnI (u 1) (u 11) * q j 1 / nI 100 / nI 2))) 14 (u 14 + nI 1), uq q j 3 (q j 3 + (mnI (u 1) (u 11) - mnI (u 1) (u 11) * q j 1 / nI 100)))
    else
      (n, some j, t, upd (upd (upd u 11 (u 11 - mnI (u 1) (u 11))) 15 (u 15 + mnI (u 1) (u 11) * q j 1 / nI 100)) 8 (mnI (nI 99) (u 8 + mnI (u 1) (u 11) * q j 1 / nI 100 / nI 2)), uq q j 3 (q j 3 + (mnI (u 1) (u 11) - mnI (u 1) (u 11) * q j 1 / nI 100)))
/-- the hand of a day, by who is the guardian -/
def hA (A : AS) : AS × Option Nat := match A with
  | (n, none, t, u, q) => holdA n t u q
  | (n, some j, t, u, q) => ((n, some j, t, u, q), none)
/-- the month's end, if it is one -/
def mA (A : AS) : AS := if A.2.2.2.1 6 - A.2.2.2.1 6 / A.2.2.2.1 3 * A.2.2.2.1 3 = 0 then monthA A else A
/-- the mood goes nearer to 50, and the guardian's day counts -/
def eA (A : AS) : AS := match A with
  | (n, none, t, u, q) => (n, none, t, upd u 8 (u 8 + cpI (nI 50) (u 8)), q)
  | (n, some j, t, u, q) => (n, some j, t, upd u 8 (u 8 + cpI (nI 50) (u 8)), uq q j 5 (q j 5 + nI 1))
/-- the day's number -/
def nA (A : AS) : AS := match A with
  | (n, g, t, u, q) => (n, g, t, upd u 6 (u 6 + nI 1), q)
def dayA (A : AS) : AS := eA (mA (hA (nA A)).1)
/-- who gets a purr on the day -/
def dayR (A : AS) : Option Nat := (hA (nA A)).2
def itA (k : Nat) (A : AS) : AS := match k with
  | 0 => A
  | k + 1 => dayA (itA k A)
/-- a place behind a move -/
def mvP (p x y : Nat) : Nat := if p = x then y else if x < p ∧ p ≤ y then p - 1 else if p < x ∧ y ≤ p then p + 1 else p
/-- who stands at a place behind a move -/
def mvI (x y p : Nat) : Nat := if p = y then x else if x ≤ p ∧ p < y then p + 1 else if y < p ∧ p ≤ x then p - 1 else p
def moveA (A : AS) (x y : Nat) : AS := match A with
  | (n, g, t, u, q) => (n, g.map (fun p => mvP p x y), mvP t x y, u, fun a b => q (mvI x y a) b)
/-- a new person at the end -/
def admA (A : AS) (w s : Int32) : AS := match A with
  | (n, g, t, u, q) => (n + 1, g, t, u, fun a b => if a = n then (if b = 0 then w else if b = 1 then s else 0) else q a b)
def mayB (n : Nat) (g : Option Nat) (u : Nat → Int32) (q : Nat → Nat → Int32) (j : Nat) : Prop := g ≠ none ∧ g ≠ some j ∧ q j 2 < u 4 ∧ ¬ q j 3 < u 2
/-- an appeal of j against i: whether the guardian is deposed -/
def appA (n i t : Nat) (u : Nat → Int32) (q : Nat → Nat → Int32) (j : Nat) : AS × Bool :=
  if scI u q i < scI u q j then ((n, none, j, upd (upd u 11 (u 11 + u 2)) 14 (u 14 + nI 1), uq q j 3 (q j 3 - u 2)), true)
  else ((n, some i, t, upd (upd u 11 (u 11 + u 2)) 12 (u 12 + nI 1), uq (uq q j 3 (q j 3 - u 2)) j 2 (q j 2 + nI 1)), false)
def mayI (n : Nat) (g : Option Nat) (u : Nat → Int32) (q : Nat → Nat → Int32) (j : Nat) : Int32 := if g ≠ none ∧ g ≠ some j ∧ q j 2 < u 4 ∧ ¬ q j 3 < u 2 then nI 1 else nI 0
/-- the numbers of a state are what they can be: 8 people at most, the guardian one of them, the turn too -/
def wfA (A : AS) : Prop := A.1 ≤ 8 ∧ (∀ i, A.2.1 = some i → i < A.1) ∧ (A.2.2.1 < A.1 ∨ A.2.2.1 = 0)
theorem bh_lt {n j : Nat} (h : 0 < n) : bh n j < n := by
  unfold bh
  split <;> omega
theorem handF_lt {n : Nat} {u : Nat → Int32} {q : Nat → Nat → Int32} : ∀ (k t j : Nat), t < n → handF n u q t k = some j → j < n
  | 0, _, _, _, h => by simp [handF] at h
  | k + 1, t, j, ht, h => by
    rw [handF] at h
    split at h
    · cases h
      exact ht
    · exact handF_lt k _ j (bh_lt (by omega)) h
theorem hand_lt {n t j : Nat} {u : Nat → Int32} {q : Nat → Nat → Int32} (ht : t < n ∨ t = 0) (h : hand n t u q = some j) : j < n := by
  unfold hand at h
  rcases Nat.eq_zero_or_pos n with e | e
  · subst e
    simp [handF] at h
  · exact handF_lt n t j (by omega) h
theorem nA_wf {A : AS} (w : wfA A) : wfA (nA A) := w
theorem hA_1 {A : AS} : (hA A).1.1 = A.1 := by
  obtain ⟨n, _ | i, t, u, q⟩ := A
  · show (holdA n t u q).1.1 = n
    unfold holdA
    split
    · rfl
    · split <;> rfl
  · rfl
theorem hA_u {A : AS} {i : Nat} (hi : i < 6) : (hA A).1.2.2.2.1 i = A.2.2.2.1 i := by
  obtain ⟨n, _ | j, t, u, q⟩ := A
  · show (holdA n t u q).1.2.2.2.1 i = u i
    unfold holdA
    split
    · rfl
    · split
      · show upd (upd u 12 _) 8 _ i = u i
        rw [upd_n (by omega), upd_n (by omega)]
      · show upd u 13 _ i = u i
        rw [upd_n (by omega)]
  · rfl
theorem hA_wf {A : AS} (w : wfA A) : wfA (hA A).1 := by
  obtain ⟨n, _ | i, t, u, q⟩ := A
  · obtain ⟨w1, w2, w3⟩ := w
    show wfA (holdA n t u q).1
    have hn : n ≤ 8 := w1
    have ht : t < n ∨ t = 0 := w3
    unfold holdA
    split
    · exact ⟨hn, fun i h => (by cases h), ht⟩
    · rename_i j hj
      have hjn := hand_lt ht hj
      split
      · exact ⟨hn, fun i h => (by cases h), Or.inl (bh_lt (by omega))⟩
      · exact ⟨hn, fun i h => (by cases h; exact hjn), ht⟩
  · exact w
theorem monthA_wf {A : AS} (w : wfA A) : wfA (monthA A) := by
  obtain ⟨n, _ | i, t, u, q⟩ := A
  · exact w
  · unfold monthA
    dsimp only
    split
    · exact ⟨w.1, fun i h => (by cases h), Or.inr rfl⟩
    · exact w
theorem monthA_1 {A : AS} : (monthA A).1 = A.1 := by
  obtain ⟨n, _ | i, t, u, q⟩ := A
  · rfl
  · unfold monthA
    dsimp only
    split <;> rfl
theorem monthA_u {A : AS} {k : Nat} (hk : k < 6) : (monthA A).2.2.2.1 k = A.2.2.2.1 k := by
  obtain ⟨n, _ | i, t, u, q⟩ := A
  · show upd (upd u 11 _) 15 _ k = u k
    rw [upd_n (by omega), upd_n (by omega)]
  · unfold monthA
    dsimp only
    split
    · show upd (upd (upd (upd u 11 _) 15 _) 8 _) 14 _ k = u k
      rw [upd_n (by omega), upd_n (by omega), upd_n (by omega), upd_n (by omega)]
    · show upd (upd (upd u 11 _) 15 _) 8 _ k = u k
      rw [upd_n (by omega), upd_n (by omega), upd_n (by omega)]
theorem mA_wf {A : AS} (w : wfA A) : wfA (mA A) := by
  unfold mA
  split
  · exact monthA_wf w
  · exact w
theorem mA_1 {A : AS} : (mA A).1 = A.1 := by
  unfold mA
  split
  · exact monthA_1
  · rfl
theorem mA_u {A : AS} {k : Nat} (hk : k < 6) : (mA A).2.2.2.1 k = A.2.2.2.1 k := by
  unfold mA
  split
  · exact monthA_u hk
  · rfl
theorem eA_wf {A : AS} (w : wfA A) : wfA (eA A) := by
  obtain ⟨n, _ | i, t, u, q⟩ := A <;> exact w
theorem eA_1 {A : AS} : (eA A).1 = A.1 := by
  obtain ⟨n, _ | i, t, u, q⟩ := A <;> rfl
theorem eA_u {A : AS} {k : Nat} (hk : k < 6) : (eA A).2.2.2.1 k = A.2.2.2.1 k := by
  obtain ⟨n, _ | i, t, u, q⟩ := A
  · show upd u 8 _ k = u k
    rw [upd_n (by omega)]
  · show upd u 8 _ k = u k
    rw [upd_n (by omega)]
theorem nA_u {A : AS} {k : Nat} (hk : k < 6) : (nA A).2.2.2.1 k = A.2.2.2.1 k := by
  obtain ⟨n, g, t, u, q⟩ := A
  show upd u 6 _ k = u k
  rw [upd_n (by omega)]
theorem dayA_wf {A : AS} (w : wfA A) : wfA (dayA A) := eA_wf (mA_wf (hA_wf (nA_wf w)))
theorem dayA_1 {A : AS} : (dayA A).1 = A.1 := by
  unfold dayA
  rw [eA_1, mA_1, hA_1]
  rfl
theorem dayA_u {A : AS} {k : Nat} (hk : k < 6) : (dayA A).2.2.2.1 k = A.2.2.2.1 k := by
  unfold dayA
  rw [eA_u hk, mA_u hk, hA_u hk, nA_u hk]
theorem itA_wf {A : AS} (w : wfA A) : ∀ k, wfA (itA k A)
  | 0 => w
  | k + 1 => dayA_wf (itA_wf w k)
theorem itA_1 {A : AS} : ∀ k, (itA k A).1 = A.1
  | 0 => rfl
  | k + 1 => by rw [itA, dayA_1, itA_1 k]
theorem itA_u {A : AS} {i : Nat} (hi : i < 6) : ∀ k, (itA k A).2.2.2.1 i = A.2.2.2.1 i
  | 0 => rfl
  | k + 1 => by rw [itA, dayA_u hi, itA_u hi k]
theorem nI_n6 {i : Nat} (h : i < 2 ^ 31) : ¬ nI i = (-6) := by
  intro q
  have a := nI_toInt h
  rw [q] at a
  have : (-6 : Int32).toInt = -6 := by decide
  omega
theorem nI_n1 {i : Nat} (h : i < 2 ^ 31) : ¬ nI i = (-1) := by
  intro q
  have a := nI_toInt h
  rw [q] at a
  have : (-1 : Int32).toInt = -1 := by decide
  omega
section EM
variable {G : GG} {l : Launch} {X : CT} {Q : State → Prop} {d mc ms cs sl : Nat} {cc : ByteArray} {own : String} {nL : Nat} {ret : Option FieldType} {h h0 : HP} {z pc : Nat} {lv : List (Nat × Value)} {st : List Value}
theorem exm_max {idx : Nat} {x y v : Int32} (w1 : Cond.methodLink own idx Lib.Math.max.name ∈ TW) (hv : mxI x y = v) (hd : 1 ≤ d) (hst : (st.map fun v => v.category).sum ≤ 8) (hc : cs ≤ mc) (hs : sl ≤ ms) (dg : decode cc pc = .ok (.invokestatic idx, 3)) (k1 : ex G l X Q d mc ms cs sl cc own nL ret h z (pc + 3) lv (.int v :: st)) : ex G l X Q d mc ms cs sl cc own nL ret h z pc lv (.int y :: .int x :: st) := by
  intro H locs ls F R S L
  subst hv
  have hts := F.2.2.2.2.1
  exact va_mmax F.1 F.2.1 (by rw [L.1]; exact F.2.2.1) F.2.2.2.1 (hts _ w1) (hts _ (tw_t 287 (by decide +kernel) (by decide +kernel))) (hts _ (tw_t 7 (by decide +kernel) (by decide +kernel))) (hts _ (tw_t 288 (by decide +kernel) (by decide +kernel))) hd (by show _ + 13 ≤ 36 * d; omega) hc hs dg (k1 H locs ls F R S L)
theorem exm_min {idx : Nat} {x y v : Int32} (w1 : Cond.methodLink own idx Lib.Math.min.name ∈ TW) (hv : mnI x y = v) (hd : 1 ≤ d) (hst : (st.map fun v => v.category).sum ≤ 8) (hc : cs ≤ mc) (hs : sl ≤ ms) (dg : decode cc pc = .ok (.invokestatic idx, 3)) (k1 : ex G l X Q d mc ms cs sl cc own nL ret h z (pc + 3) lv (.int v :: st)) : ex G l X Q d mc ms cs sl cc own nL ret h z pc lv (.int y :: .int x :: st) := by
  intro H locs ls F R S L
  subst hv
  have hts := F.2.2.2.2.1
  exact va_mmin F.1 F.2.1 (by rw [L.1]; exact F.2.2.1) F.2.2.2.1 (hts _ w1) (hts _ (tw_t 298 (by decide +kernel) (by decide +kernel))) (hts _ (tw_t 7 (by decide +kernel) (by decide +kernel))) (hts _ (tw_t 299 (by decide +kernel) (by decide +kernel))) hd (by show _ + 13 ≤ 36 * d; omega) hc hs dg (k1 H locs ls F R S L)
theorem exm_abs {idx : Nat} {x v : Int32} (w1 : Cond.methodLink own idx Lib.Math.abs.name ∈ TW) (hv : abI x = v) (hd : 1 ≤ d) (hst : (st.map fun v => v.category).sum ≤ 8) (hc : cs ≤ mc) (hs : sl ≤ ms) (dg : decode cc pc = .ok (.invokestatic idx, 3)) (k1 : ex G l X Q d mc ms cs sl cc own nL ret h z (pc + 3) lv (.int v :: st)) : ex G l X Q d mc ms cs sl cc own nL ret h z pc lv (.int x :: st) := by
  intro H locs ls F R S L
  subst hv
  have hts := F.2.2.2.2.1
  exact va_mabs F.1 F.2.1 (by rw [L.1]; exact F.2.2.1) F.2.2.2.1 (hts _ w1) (hts _ (tw_t 365 (by decide +kernel) (by decide +kernel))) (hts _ (tw_t 7 (by decide +kernel) (by decide +kernel))) (hts _ (tw_t 366 (by decide +kernel) (by decide +kernel))) hd (by show _ + 13 ≤ 36 * d; omega) hc hs dg (k1 H locs ls F R S L)
theorem mlx_max : Cond.methodLink RX3 134 Lib.Math.max.name ∈ TW := tw_t 286 (by decide +kernel) (by decide +kernel)
theorem mlx_min : Cond.methodLink RX3 149 Lib.Math.min.name ∈ TW := tw_t 297 (by decide +kernel) (by decide +kernel)
theorem mlx_abs : Cond.methodLink RX4 83 Lib.Math.abs.name ∈ TW := tw_t 364 (by decide +kernel) (by decide +kernel)
end EM
end
section
set_option maxRecDepth 20000 in
set_option maxHeartbeats 2000000 in
theorem c_at {G : GG} {l : Launch} {h0 : HP} {z o : Nat} {π : Nat → Nat} {n : Nat} {g : Option Nat} {t : Nat} {u : Nat → Int32} {q : Nat → Nat → Int32} (S0 : SP G h0 o π (n, g, t, u, q)) {j : Nat} (h8 : j < 8) (hn : j < n) (n8 : n ≤ 8) : Ct G l 0 0 0 yX3_at cX3_at 2 (some (.object "PurrProbates$Person")) [.ref o, .int (nI j)] h0 z (p0 (.ref (o + 3 + π j)) h0 z) := by
  refine Ct.intro (lv := [(0, .ref o), (1, .int (nI j))]) (by decide +kernel) (Nat.le_of_ble_eq_true rfl) rfl (fun X Q hQ hnm => ?_)
  have S := S0.sf
  refine ex_iload_n 1 dX3_at_0 rfl rfl ?_
  refine ex_if_lt (tgt := 27) dX3_at_1 (by decide) (fun c_1 => absurd c_1 (nI_pos (by omega))) (fun c_1 => ?_)
  refine ex_iload_n 1 dX3_at_4 rfl rfl ?_
  refine ex_aload_n 0 dX3_at_5 rfl rfl ?_
  refine ex_get (v := .int (nI n)) fl_X3_29 S.ob rfl dX3_at_6 ?_
  refine ex_icmp_ge (tgt := 27) dX3_at_9 (by decide) (fun c_9 => absurd c_9 (fun q9 => absurd ((nI_leI (by omega) (by omega)).mp q9) (by omega))) (fun c_9 => ?_)
  refine ex_iload_n 1 dX3_at_12 rfl rfl ?_
  refine ex_bipush (v := nI 8) dX3_at_13 (by decide) ?_
  refine ex_icmp_ge (tgt := 27) dX3_at_15 (by decide) (fun c_15 => absurd c_15 (fun q9 => absurd ((nI_leI (by omega) (by omega)).mp q9) (by omega))) (fun c_15 => ?_)
  refine ex_aload_n 0 dX3_at_18 rfl rfl ?_
  refine ex_get (v := .ref (o + 2)) fl_X3_25 S.ob rfl dX3_at_19 ?_
  refine ex_iload_n 1 dX3_at_22 rfl rfl ?_
  refine exS_pl (i := j) S rfl h8 dX3_at_23 ?_
  refine ex_goto (tgt := 28) dX3_at_24 (by decide) ?_
  exact ex_aret hQ rfl (Or.inr ⟨_, rfl⟩) ⟨rfl, rfl, rfl⟩ dX3_at_28

set_option maxRecDepth 20000 in
set_option maxHeartbeats 2000000 in
theorem c_atN {G : GG} {l : Launch} {h0 : HP} {z o : Nat} {π : Nat → Nat} {n : Nat} {g : Option Nat} {t : Nat} {u : Nat → Int32} {q : Nat → Nat → Int32} (S0 : SP G h0 o π (n, g, t, u, q)) {x : Int32} (hx : x < 0 ∨ nI n ≤ x) (n8 : n ≤ 8) : Ct G l 0 0 0 yX3_at cX3_at 2 (some (.object "PurrProbates$Person")) [.ref o, .int x] h0 z (p0 .null h0 z) := by
  refine Ct.intro (lv := [(0, .ref o), (1, .int x)]) (by decide +kernel) (Nat.le_of_ble_eq_true rfl) rfl (fun X Q hQ hnm => ?_)
  have S := S0.sf
  refine ex_iload_n 1 dX3_at_0 rfl rfl ?_
  refine ex_if_lt (tgt := 27) dX3_at_1 (by decide) (fun c_1 => ?_) (fun c_1 => ?_)
  · refine ex_null dX3_at_27 ?_
    exact ex_aret hQ rfl (Or.inl rfl) ⟨rfl, rfl, rfl⟩ dX3_at_28
  · refine ex_iload_n 1 dX3_at_4 rfl rfl ?_
    refine ex_aload_n 0 dX3_at_5 rfl rfl ?_
    refine ex_get (v := .int (nI n)) fl_X3_29 S.ob rfl dX3_at_6 ?_
    refine ex_icmp_ge (tgt := 27) dX3_at_9 (by decide) (fun c_9 => ?_) (fun c_9 => absurd (hx.resolve_left c_1) c_9)
    refine ex_null dX3_at_27 ?_
    exact ex_aret hQ rfl (Or.inl rfl) ⟨rfl, rfl, rfl⟩ dX3_at_28

set_option maxRecDepth 20000 in
set_option maxHeartbeats 2000000 in
theorem c_behind {G : GG} {l : Launch} {h0 : HP} {z o : Nat} {π : Nat → Nat} {n : Nat} {g : Option Nat} {t : Nat} {u : Nat → Int32} {q : Nat → Nat → Int32} (S0 : SP G h0 o π (n, g, t, u, q)) {j : Nat} (hj : j < 9) (n8 : n ≤ 8) : Ct G l 0 0 0 yX3_behind cX3_behind 2 (some .int) [.ref o, .int (nI j)] h0 z (p0 (.int (nI (bh n j))) h0 z) := by
  refine Ct.intro (lv := [(0, .ref o), (1, .int (nI j))]) (by decide +kernel) (Nat.le_of_ble_eq_true rfl) rfl (fun X Q hQ hnm => ?_)
  have S := S0.sf
  refine ex_iload_n 1 dX3_behind_0 rfl rfl ?_
  refine ex_iconst (v := nI 1) dX3_behind_1 (by decide) ?_
  refine ex_iaddN dX3_behind_2 ?_
  refine ex_aload_n 0 dX3_behind_3 rfl rfl ?_
  refine ex_get (v := .int (nI n)) fl_X3_29 S.ob rfl dX3_behind_4 ?_
  refine ex_icmp_ge (tgt := 16) dX3_behind_7 (by decide) (fun c_7 => ?_) (fun c_7 => ?_)
  · have n_7 : n ≤ (j + 1) := (nI_leI (by omega) (by omega)).mp c_7
    refine ex_iconst (v := nI 0) dX3_behind_16 (by decide) ?_
    exact ex_iret hQ rfl ⟨by first | simp [bh, show j + 1 < n by omega] | simp [bh, show ¬ j + 1 < n by omega], rfl, rfl⟩ dX3_behind_17
  · have n_7 : ¬ (n ≤ (j + 1)) := fun q9 => c_7 ((nI_leI (by omega) (by omega)).mpr q9)
    refine ex_iload_n 1 dX3_behind_10 rfl rfl ?_
    refine ex_iconst (v := nI 1) dX3_behind_11 (by decide) ?_
    refine ex_iaddN dX3_behind_12 ?_
    refine ex_goto (tgt := 17) dX3_behind_13 (by decide) ?_
    exact ex_iret hQ rfl ⟨by first | simp [bh, show j + 1 < n by omega] | simp [bh, show ¬ j + 1 < n by omega], rfl, rfl⟩ dX3_behind_17

set_option maxRecDepth 20000 in
set_option maxHeartbeats 2000000 in
theorem c_isBarred {G : GG} {l : Launch} {h0 : HP} {z o : Nat} {π : Nat → Nat} {n : Nat} {g : Option Nat} {t : Nat} {u : Nat → Int32} {q : Nat → Nat → Int32} (S0 : SP G h0 o π (n, g, t, u, q)) {j : Nat} (h8 : j < 8) (hn : j < n) : Ct G l 0 0 0 yX3_isBarred cX3_isBarred 2 (some .boolean) [.ref o, .ref (o + 3 + π j)] h0 z (p0 (.int (bB u q j)) h0 z) := by
  refine Ct.intro (lv := [(0, .ref o), (1, .ref (o + 3 + π j))]) (by decide +kernel) (Nat.le_of_ble_eq_true rfl) rfl (fun X Q hQ hnm => ?_)
  have S := S0.sf
  refine ex_aload_n 1 dX3_isBarred_0 rfl rfl ?_
  refine ex_get (v := .int (q j 2)) fl_X3_78 (S.pe h8 hn) rfl dX3_isBarred_1 ?_
  refine ex_aload_n 0 dX3_isBarred_4 rfl rfl ?_
  refine ex_get (v := .ref (o + 1)) fl_X3_18 S.ob rfl dX3_isBarred_5 ?_
  refine ex_iconst (v := nI 4) dX3_isBarred_8 (by decide) ?_
  refine exS_ld (i := 4) (v := u 4) S rfl (by decide) rfl dX3_isBarred_9 ?_
  refine ex_icmp_lt (tgt := 17) dX3_isBarred_10 (by decide) (fun c_10 => ?_) (fun c_10 => ?_)
  · refine ex_iconst (v := nI 0) dX3_isBarred_17 (by decide) ?_
    exact ex_zret hQ rfl (by decide) ⟨by simp [bB, c_10], rfl, rfl⟩ dX3_isBarred_18
  · refine ex_iconst (v := nI 1) dX3_isBarred_13 (by decide) ?_
    refine ex_goto (tgt := 18) dX3_isBarred_14 (by decide) ?_
    exact ex_zret hQ rfl (by decide) ⟨by simp [bB, c_10], rfl, rfl⟩ dX3_isBarred_18

set_option maxRecDepth 20000 in
set_option maxHeartbeats 2000000 in
theorem c_score {G : GG} {l : Launch} {h0 : HP} {z o : Nat} {π : Nat → Nat} {n : Nat} {g : Option Nat} {t : Nat} {u : Nat → Int32} {q : Nat → Nat → Int32} (S0 : SP G h0 o π (n, g, t, u, q)) {j : Nat} (h8 : j < 8) (hn : j < n) : Ct G l 0 0 0 yX3_score cX3_score 2 (some .int) [.ref o, .ref (o + 3 + π j)] h0 z (p0 (.int (scI u q j)) h0 z) := by
  refine Ct.intro (lv := [(0, .ref o), (1, .ref (o + 3 + π j))]) (by decide +kernel) (Nat.le_of_ble_eq_true rfl) rfl (fun X Q hQ hnm => ?_)
  have S := S0.sf
  refine ex_aload_n 0 dX3_score_0 rfl rfl ?_
  refine ex_get (v := .int (u 8)) fl_X3_33 S.ob rfl dX3_score_1 ?_
  refine ex_iconst (v := nI 5) dX3_score_4 (by decide) ?_
  refine ex_aload_n 1 dX3_score_5 rfl rfl ?_
  refine ex_get (v := .int (q j 0)) fl_X3_79 (S.pe h8 hn) rfl dX3_score_6 ?_
  refine ex_imul dX3_score_9 ?_
  refine ex_iadd dX3_score_10 ?_
  refine ex_bipush (v := nI 10) dX3_score_11 (by decide) ?_
  refine ex_aload_n 1 dX3_score_13 rfl rfl ?_
  refine ex_get (v := .int (q j 2)) fl_X3_78 (S.pe h8 hn) rfl dX3_score_14 ?_
  refine ex_imul dX3_score_17 ?_
  refine ex_isub dX3_score_18 ?_
  exact ex_iret hQ rfl ⟨rfl, rfl, rfl⟩ dX3_score_19

set_option maxRecDepth 20000 in
set_option maxHeartbeats 2000000 in
theorem c_barredPeople {G : GG} {l : Launch} {h0 : HP} {z o : Nat} {π : Nat → Nat} {n : Nat} {g : Option Nat} {t : Nat} {u : Nat → Int32} {q : Nat → Nat → Int32} (S0 : SP G h0 o π (n, g, t, u, q)) (n8 : n ≤ 8) : Ct G l 1 0 0 yX3_barredPeople cX3_barredPeople 4 (some .int) [.ref o] h0 z (p0 (.int (sumB u q n)) h0 z) := by
  refine Ct.intro (lv := [(0, .ref o)]) (by decide +kernel) (Nat.le_of_ble_eq_true rfl) rfl (fun X Q hQ hnm => ?_)
  have S := S0.sf
  refine ex_iconst (v := nI 0) dX3_barredPeople_0 (by decide) ?_
  refine ex_istore_n (lv' := [(1, .int (nI 0)), (0, .ref o)]) dX3_barredPeople_1 rfl (by decide) rfl ?_
  refine ex_iconst (v := nI 0) dX3_barredPeople_2 (by decide) ?_
  refine ex_istore_n (lv' := [(2, .int (nI 0)), (1, .int (nI 0)), (0, .ref o)]) dX3_barredPeople_3 rfl (by decide) rfl ?_
  suffices H : ∀ (k m : Nat), m + k = n → ex G l X Q 1 0 0 0 0 cX3_barredPeople yX3_barredPeople.cls 4 (some .int) h0 z 4 [(2, .int (nI m)), (1, .int (sumB u q m)), (0, .ref o)] [] from by
    have e2 := H n 0 (by omega)
    refine ex_lv (lv2 := [(2, .int (nI 0)), (1, .int (nI 0)), (0, .ref o)]) [0, 1, 2] rfl ?_
    exact e2
  intro k
  induction k with
  | zero =>
    intro m hm
    refine ex_iload_n 0 dX3_barredPeople_4 rfl rfl ?_
    refine ex_aload_n 2 dX3_barredPeople_5 rfl rfl ?_
    refine ex_get (v := .int (nI n)) fl_X3_29 S.ob rfl dX3_barredPeople_6 ?_
    refine ex_icmp_ge (tgt := 39) dX3_barredPeople_9 (by decide) (fun c_9 => ?_) (fun c_9 => absurd ((nI_leI (by omega) (by omega)).mpr (by omega)) c_9)
    refine ex_iload_n 1 dX3_barredPeople_39 rfl rfl ?_
    exact ex_iret hQ rfl ⟨by rw [show m = n by omega], rfl, rfl⟩ dX3_barredPeople_40
  | succ k ih =>
    intro m hm
    refine ex_iload_n 0 dX3_barredPeople_4 rfl rfl ?_
    refine ex_aload_n 2 dX3_barredPeople_5 rfl rfl ?_
    refine ex_get (v := .int (nI n)) fl_X3_29 S.ob rfl dX3_barredPeople_6 ?_
    refine ex_icmp_ge (tgt := 39) dX3_barredPeople_9 (by decide) (fun c_9 => absurd c_9 (fun q9 => absurd ((nI_leI (by omega) (by omega)).mp q9) (by omega))) (fun c_9 => ?_)
    refine ex_aload_n 2 dX3_barredPeople_12 rfl rfl ?_
    refine ex_iload_n 0 dX3_barredPeople_13 rfl rfl ?_
    refine ex_call0 (As := [.int (nI m)]) (v := .ref (o + 3 + π m)) (ci := 3) vl_X3_70 rfl (c_at S.1 (by omega) (by omega) n8) S.ob rfl (by decide) (Nat.le_of_ble_eq_true rfl) (Nat.le_refl _) (Nat.le_refl _) rfl dX3_barredPeople_14 ?_
    refine ex_astore_n (lv' := [(3, .ref (o + 3 + π m)), (2, .int (nI m)), (1, .int (sumB u q m)), (0, .ref o)]) dX3_barredPeople_17 rfl (by decide) rfl ?_
    refine ex_aload_n 0 dX3_barredPeople_18 rfl rfl ?_
    refine ex_ifnull dX3_barredPeople_19 ?_
    refine ex_aload_n 3 dX3_barredPeople_22 rfl rfl ?_
    refine ex_aload_n 0 dX3_barredPeople_23 rfl rfl ?_
    refine ex_call0 (As := [.ref (o + 3 + π m)]) (v := .int (bB u q m)) (ci := 3) vl_X3_82 rfl (c_isBarred S.1 (by omega) (by omega)) S.ob rfl (by decide) (Nat.le_of_ble_eq_true rfl) (Nat.le_refl _) (Nat.le_refl _) rfl dX3_barredPeople_24 ?_
    refine ex_if_eq (tgt := 33) dX3_barredPeople_27 (by decide) (fun c_27 => ?_) (fun c_27 => ?_)
    · refine ex_iinc (v := nI (m + 1)) (lv' := [(2, .int (nI (m + 1))), (3, .ref (o + 3 + π m)), (1, .int (sumB u q m)), (0, .ref o)]) 1 dX3_barredPeople_33 rfl (nI_1 m) (by decide) rfl ?_
      refine ex_goto (tgt := 4) dX3_barredPeople_36 (by decide) ?_
      have e1 : sumB u q (m + 1) = sumB u q m := by first | simp [sumB, bB_0 c_27] | simp [sumB, bB_1 c_27]
      have e2 := ih (m + 1) (by omega)
      rw [e1] at e2
      refine ex_lv (lv2 := [(2, .int (nI (m + 1))), (1, .int (sumB u q m)), (0, .ref o)]) [0, 2, 3] rfl ?_
      exact e2
    · refine ex_iinc (v := (sumB u q m) + 1) (lv' := [(1, .int ((sumB u q m) + 1)), (3, .ref (o + 3 + π m)), (2, .int (nI m)), (0, .ref o)]) 2 dX3_barredPeople_30 rfl rfl (by decide) rfl ?_
      refine ex_iinc (v := nI (m + 1)) (lv' := [(2, .int (nI (m + 1))), (1, .int ((sumB u q m) + 1)), (3, .ref (o + 3 + π m)), (0, .ref o)]) 2 dX3_barredPeople_33 rfl (nI_1 m) (by decide) rfl ?_
      refine ex_goto (tgt := 4) dX3_barredPeople_36 (by decide) ?_
      have e1 : sumB u q (m + 1) = (sumB u q m) + 1 := by first | simp [sumB, bB_0 c_27] | simp [sumB, bB_1 c_27]
      have e2 := ih (m + 1) (by omega)
      rw [e1] at e2
      refine ex_lv (lv2 := [(2, .int (nI (m + 1))), (1, .int ((sumB u q m) + 1)), (0, .ref o)]) [0, 1, 3] rfl ?_
      exact e2

set_option maxRecDepth 20000 in
set_option maxHeartbeats 2000000 in
theorem c_allPurses {G : GG} {l : Launch} {h0 : HP} {z o : Nat} {π : Nat → Nat} {n : Nat} {g : Option Nat} {t : Nat} {u : Nat → Int32} {q : Nat → Nat → Int32} (S0 : SP G h0 o π (n, g, t, u, q)) (n8 : n ≤ 8) : Ct G l 1 0 0 yX3_allPurses cX3_allPurses 4 (some .int) [.ref o] h0 z (p0 (.int (sumP q n)) h0 z) := by
  refine Ct.intro (lv := [(0, .ref o)]) (by decide +kernel) (Nat.le_of_ble_eq_true rfl) rfl (fun X Q hQ hnm => ?_)
  have S := S0.sf
  refine ex_iconst (v := nI 0) dX3_allPurses_0 (by decide) ?_
  refine ex_istore_n (lv' := [(1, .int (nI 0)), (0, .ref o)]) dX3_allPurses_1 rfl (by decide) rfl ?_
  refine ex_iconst (v := nI 0) dX3_allPurses_2 (by decide) ?_
  refine ex_istore_n (lv' := [(2, .int (nI 0)), (1, .int (nI 0)), (0, .ref o)]) dX3_allPurses_3 rfl (by decide) rfl ?_
  suffices H : ∀ (k m : Nat), m + k = n → ex G l X Q 1 0 0 0 0 cX3_allPurses yX3_allPurses.cls 4 (some .int) h0 z 4 [(2, .int (nI m)), (1, .int (sumP q m)), (0, .ref o)] [] from by
    have e2 := H n 0 (by omega)
    refine ex_lv (lv2 := [(2, .int (nI 0)), (1, .int (nI 0)), (0, .ref o)]) [0, 1, 2] rfl ?_
    exact e2
  intro k
  induction k with
  | zero =>
    intro m hm
    refine ex_iload_n 0 dX3_allPurses_4 rfl rfl ?_
    refine ex_aload_n 2 dX3_allPurses_5 rfl rfl ?_
    refine ex_get (v := .int (nI n)) fl_X3_29 S.ob rfl dX3_allPurses_6 ?_
    refine ex_icmp_ge (tgt := 35) dX3_allPurses_9 (by decide) (fun c_9 => ?_) (fun c_9 => absurd ((nI_leI (by omega) (by omega)).mpr (by omega)) c_9)
    refine ex_iload_n 1 dX3_allPurses_35 rfl rfl ?_
    exact ex_iret hQ rfl ⟨by rw [show m = n by omega], rfl, rfl⟩ dX3_allPurses_36
  | succ k ih =>
    intro m hm
    refine ex_iload_n 0 dX3_allPurses_4 rfl rfl ?_
    refine ex_aload_n 2 dX3_allPurses_5 rfl rfl ?_
    refine ex_get (v := .int (nI n)) fl_X3_29 S.ob rfl dX3_allPurses_6 ?_
    refine ex_icmp_ge (tgt := 35) dX3_allPurses_9 (by decide) (fun c_9 => absurd c_9 (fun q9 => absurd ((nI_leI (by omega) (by omega)).mp q9) (by omega))) (fun c_9 => ?_)
    refine ex_aload_n 2 dX3_allPurses_12 rfl rfl ?_
    refine ex_iload_n 0 dX3_allPurses_13 rfl rfl ?_
    refine ex_call0 (As := [.int (nI m)]) (v := .ref (o + 3 + π m)) (ci := 3) vl_X3_70 rfl (c_at S.1 (by omega) (by omega) n8) S.ob rfl (by decide) (Nat.le_of_ble_eq_true rfl) (Nat.le_refl _) (Nat.le_refl _) rfl dX3_allPurses_14 ?_
    refine ex_astore_n (lv' := [(3, .ref (o + 3 + π m)), (2, .int (nI m)), (1, .int (sumP q m)), (0, .ref o)]) dX3_allPurses_17 rfl (by decide) rfl ?_
    refine ex_aload_n 0 dX3_allPurses_18 rfl rfl ?_
    refine ex_ifnull dX3_allPurses_19 ?_
    refine ex_iload_n 2 dX3_allPurses_22 rfl rfl ?_
    refine ex_aload_n 0 dX3_allPurses_23 rfl rfl ?_
    refine ex_get (v := .int (q m 3)) fl_X3_86 (S.pe (by omega) (by omega)) rfl dX3_allPurses_24 ?_
    refine ex_iadd dX3_allPurses_27 ?_
    refine ex_istore_n (lv' := [(1, .int ((sumP q m) + (q m 3))), (3, .ref (o + 3 + π m)), (2, .int (nI m)), (0, .ref o)]) dX3_allPurses_28 rfl (by decide) rfl ?_
    refine ex_iinc (v := nI (m + 1)) (lv' := [(2, .int (nI (m + 1))), (1, .int ((sumP q m) + (q m 3))), (3, .ref (o + 3 + π m)), (0, .ref o)]) 2 dX3_allPurses_29 rfl (nI_1 m) (by decide) rfl ?_
    refine ex_goto (tgt := 4) dX3_allPurses_32 (by decide) ?_
    have e1 : sumP q (m + 1) = (sumP q m) + (q m 3) := by rfl
    have e2 := ih (m + 1) (by omega)
    rw [e1] at e2
    refine ex_lv (lv2 := [(2, .int (nI (m + 1))), (1, .int ((sumP q m) + (q m 3))), (0, .ref o)]) [0, 1, 3] rfl ?_
    exact e2
end
section
set_option maxRecDepth 20000 in
set_option maxHeartbeats 2000000 in
theorem c_scratch {G : GG} {l : Launch} {h0 : HP} {z o : Nat} {π : Nat → Nat} {n : Nat} {g : Option Nat} {t : Nat} {u : Nat → Int32} {q : Nat → Nat → Int32} (S0 : SP G h0 o π (n, g, t, u, q)) {j : Nat} (h8 : j < 8) (hn : j < n) : Ct G l 0 0 0 yX3_scratch cX3_scratch 2 none [.ref o, .ref (o + 3 + π j)] h0 z (pS G none h0 z o π (n, g, t, upd u 12 (u 12 + nI 1), uq q j 2 (q j 2 + nI 1))) := by
  refine Ct.intro (lv := [(0, .ref o), (1, .ref (o + 3 + π j))]) (by decide +kernel) (Nat.le_of_ble_eq_true rfl) rfl (fun X Q hQ hnm => ?_)
  have S := S0.sf
  refine ex_aload_n 1 dX3_scratch_0 rfl rfl ?_
  refine ex_dup dX3_scratch_1 rfl ?_
  refine ex_get (v := .int (q j 2)) fl_X3_78 (S.pe h8 hn) rfl dX3_scratch_2 ?_
  refine ex_iconst (v := nI 1) dX3_scratch_5 (by decide) ?_
  refine ex_iadd dX3_scratch_6 ?_
  refine exP_put S h8 hn fl_X3_78 (by decide) rfl dX3_scratch_7 (fun h S => ?_)
  refine ex_aload_n 0 dX3_scratch_10 rfl rfl ?_
  refine ex_dup dX3_scratch_11 rfl ?_
  refine ex_get (v := .int (u 12)) fl_X3_48 S.ob rfl dX3_scratch_12 ?_
  refine ex_iconst (v := nI 1) dX3_scratch_15 (by decide) ?_
  refine ex_iadd dX3_scratch_16 ?_
  refine exS_putU (i := 12) S fl_X3_48 (by decide) (by decide) rfl dX3_scratch_17 (fun h S => ?_)
  exact ex_vret hQ rfl ⟨rfl, rfl, S⟩ dX3_scratch_20

set_option maxRecDepth 20000 in
set_option maxHeartbeats 2000000 in
theorem c_leave {G : GG} {l : Launch} {h0 : HP} {z o : Nat} {π : Nat → Nat} {n : Nat} {g : Option Nat} {t : Nat} {u : Nat → Int32} {q : Nat → Nat → Int32} (S0 : SP G h0 o π (n, g, t, u, q)) {t1 : Nat} : Ct G l 0 0 0 yX3_leaveWithoutGuardian cX3_leaveWithoutGuardian 2 none [.ref o, .int (nI t1)] h0 z (pS G none h0 z o π (n, none, t1, u, q)) := by
  refine Ct.intro (lv := [(0, .ref o), (1, .int (nI t1))]) (by decide +kernel) (Nat.le_of_ble_eq_true rfl) rfl (fun X Q hQ hnm => ?_)
  have S := S0.sf
  refine ex_aload_n 0 dX3_leaveWithoutGuardian_0 rfl rfl ?_
  refine ex_bipush (v := (-6)) dX3_leaveWithoutGuardian_1 (by decide) ?_
  refine exS_putG (g1 := none) S fl_X3_36 rfl dX3_leaveWithoutGuardian_3 (fun h S => ?_)
  refine ex_aload_n 0 dX3_leaveWithoutGuardian_6 rfl rfl ?_
  refine ex_iload_n 1 dX3_leaveWithoutGuardian_7 rfl rfl ?_
  refine exS_putT (t1 := t1) S fl_X3_39 rfl dX3_leaveWithoutGuardian_8 (fun h S => ?_)
  exact ex_vret hQ rfl ⟨rfl, rfl, S⟩ dX3_leaveWithoutGuardian_11

set_option maxRecDepth 20000 in
set_option maxHeartbeats 2000000 in
theorem c_depose {G : GG} {l : Launch} {h0 : HP} {z o : Nat} {π : Nat → Nat} {n : Nat} {g : Option Nat} {t : Nat} {u : Nat → Int32} {q : Nat → Nat → Int32} (S0 : SP G h0 o π (n, g, t, u, q)) {t1 : Nat} : Ct G l 1 0 0 yX3_depose cX3_depose 2 none [.ref o, .int (nI t1)] h0 z (pS G none h0 z o π (n, none, t1, upd u 14 (u 14 + nI 1), q)) := by
  refine Ct.intro (lv := [(0, .ref o), (1, .int (nI t1))]) (by decide +kernel) (Nat.le_of_ble_eq_true rfl) rfl (fun X Q hQ hnm => ?_)
  have S := S0.sf
  refine ex_aload_n 0 dX3_depose_0 rfl rfl ?_
  refine ex_iload_n 1 dX3_depose_1 rfl rfl ?_
  refine exS_call (As := [.int (nI t1)]) (r0 := none) (B := (n, none, t1, u, q)) vl_X3_97 rfl S (fun S1 => c_leave S1) rfl (by decide) (Nat.le_of_ble_eq_true rfl) (Nat.le_refl _) (Nat.le_refl _) rfl dX3_depose_2 (fun h S => ?_)
  refine ex_aload_n 0 dX3_depose_5 rfl rfl ?_
  refine ex_dup dX3_depose_6 rfl ?_
  refine ex_get (v := .int (u 14)) fl_X3_54 S.ob rfl dX3_depose_7 ?_
  refine ex_iconst (v := nI 1) dX3_depose_10 (by decide) ?_
  refine ex_iadd dX3_depose_11 ?_
  refine exS_putU (i := 14) S fl_X3_54 (by decide) (by decide) rfl dX3_depose_12 (fun h S => ?_)
  exact ex_vret hQ rfl ⟨rfl, rfl, S⟩ dX3_depose_15

set_option maxRecDepth 20000 in
set_option maxHeartbeats 2000000 in
theorem c_draw {G : GG} {l : Launch} {h0 : HP} {z o : Nat} {π : Nat → Nat} {n : Nat} {g : Option Nat} {t : Nat} {u : Nat → Int32} {q : Nat → Nat → Int32} (S0 : SP G h0 o π (n, g, t, u, q)) {x : Int32} : Ct G l 1 0 0 yX3_draw cX3_draw 3 (some .int) [.ref o, .int x] h0 z (pS G (some (.int (mnI x (u 11)))) h0 z o π (n, g, t, upd u 11 (u 11 - mnI x (u 11)), q)) := by
  refine Ct.intro (lv := [(0, .ref o), (1, .int x)]) (by decide +kernel) (Nat.le_of_ble_eq_true rfl) rfl (fun X Q hQ hnm => ?_)
  have S := S0.sf
  refine ex_iload_n 1 dX3_draw_0 rfl rfl ?_
  refine ex_aload_n 0 dX3_draw_1 rfl rfl ?_
  refine ex_get (v := .int (u 11)) fl_X3_42 S.ob rfl dX3_draw_2 ?_
  refine exm_min (v := mnI x (u 11)) mlx_min rfl (by decide) (Nat.le_of_ble_eq_true rfl) (Nat.le_refl _) (Nat.le_refl _) dX3_draw_5 ?_
  refine ex_istore_n (lv' := [(2, .int (mnI x (u 11))), (0, .ref o), (1, .int x)]) dX3_draw_8 rfl (by decide) rfl ?_
  refine ex_aload_n 1 dX3_draw_9 rfl rfl ?_
  refine ex_dup dX3_draw_10 rfl ?_
  refine ex_get (v := .int (u 11)) fl_X3_42 S.ob rfl dX3_draw_11 ?_
  refine ex_iload_n 0 dX3_draw_14 rfl rfl ?_
  refine ex_isub dX3_draw_15 ?_
  refine exS_putU (i := 11) S fl_X3_42 (by decide) (by decide) rfl dX3_draw_16 (fun h S => ?_)
  refine ex_iload_n 0 dX3_draw_19 rfl rfl ?_
  exact ex_iret hQ rfl ⟨rfl, rfl, S⟩ dX3_draw_20

set_option maxRecDepth 20000 in
set_option maxHeartbeats 2000000 in
theorem c_endMonth {G : GG} {l : Launch} {h0 : HP} {z o : Nat} {π : Nat → Nat} {n : Nat} {g : Option Nat} {t : Nat} {u : Nat → Int32} {q : Nat → Nat → Int32} (S0 : SP G h0 o π (n, g, t, u, q)) (gw : ∀ i, g = some i → i < n) (n8 : n ≤ 8) : Ct G l 2 0 0 yX3_endMonth cX3_endMonth 4 none [.ref o] h0 z (pS G none h0 z o π (monthA (n, g, t, u, q))) := by
  refine Ct.intro (lv := [(0, .ref o)]) (by decide +kernel) (Nat.le_of_ble_eq_true rfl) rfl (fun X Q hQ hnm => ?_)
  have S := S0.sf
  rcases g with _ | i
  · refine ex_aload_n 0 dX3_endMonth_0 rfl rfl ?_
    refine ex_aload_n 0 dX3_endMonth_1 rfl rfl ?_
    refine ex_get (v := .int (-6)) fl_X3_36 S.ob rfl dX3_endMonth_2 ?_
    refine ex_call0 (As := [.int (-6)]) (v := .null) (ci := 3) vl_X3_70 rfl (c_atN S.1 (Or.inl (by decide)) n8) S.ob rfl (by decide) (Nat.le_of_ble_eq_true rfl) (Nat.le_refl _) (Nat.le_refl _) rfl dX3_endMonth_5 ?_
    refine ex_astore_nN (lv' := [(1, .null), (0, .ref o)]) dX3_endMonth_8 rfl (by decide) rfl ?_
    refine ex_aload_nN 0 dX3_endMonth_9 rfl rfl ?_
    refine ex_ifnonnullN dX3_endMonth_10 ?_
    refine ex_aload_n 1 dX3_endMonth_13 rfl rfl ?_
    refine ex_dup dX3_endMonth_14 rfl ?_
    refine ex_get (v := .int (u 15)) fl_X3_57 S.ob rfl dX3_endMonth_15 ?_
    refine ex_aload_n 1 dX3_endMonth_18 rfl rfl ?_
    refine ex_aload_n 1 dX3_endMonth_19 rfl rfl ?_
    refine ex_get (v := .ref (o + 1)) fl_X3_18 S.ob rfl dX3_endMonth_20 ?_
    refine ex_iconst (v := nI 1) dX3_endMonth_23 (by decide) ?_
    refine exS_ld (i := 1) (v := u 1) S rfl (by decide) rfl dX3_endMonth_24 ?_
    refine ex_iconst (v := nI 2) dX3_endMonth_25 (by decide) ?_
    refine ex_idiv dX3_endMonth_26 (by decide) ?_
    refine exS_call (As := [.int ((u 1) / (nI 2))]) (r0 := (some (.int (mnI ((u 1) / (nI 2)) (u 11))))) (B := (n, none, t, (upd u 11 (u 11 - mnI ((u 1) / (nI 2)) (u 11))), q)) vl_X3_143 rfl S (fun S1 => c_draw S1) rfl (by decide) (Nat.le_of_ble_eq_true rfl) (Nat.le_refl _) (Nat.le_refl _) rfl dX3_endMonth_27 (fun h S => ?_)
    refine ex_iadd dX3_endMonth_30 ?_
    refine exS_putU (i := 15) S fl_X3_57 (by decide) (by decide) rfl dX3_endMonth_31 (fun h S => ?_)
    exact ex_vret hQ rfl ⟨rfl, rfl, S⟩ dX3_endMonth_34
  · have gi := gw i rfl
    refine ex_aload_n 0 dX3_endMonth_0 rfl rfl ?_
    refine ex_aload_n 0 dX3_endMonth_1 rfl rfl ?_
    refine ex_get (v := .int (nI i)) fl_X3_36 S.ob rfl dX3_endMonth_2 ?_
    refine ex_call0 (As := [.int (nI i)]) (v := .ref (o + 3 + π i)) (ci := 3) vl_X3_70 rfl (c_at S.1 (by omega) gi n8) S.ob rfl (by decide) (Nat.le_of_ble_eq_true rfl) (Nat.le_refl _) (Nat.le_refl _) rfl dX3_endMonth_5 ?_
    refine ex_astore_n (lv' := [(1, .ref (o + 3 + π i)), (0, .ref o)]) dX3_endMonth_8 rfl (by decide) rfl ?_
    refine ex_aload_n 0 dX3_endMonth_9 rfl rfl ?_
    refine ex_ifnonnull (tgt := 35) dX3_endMonth_10 (by decide) ?_
    refine ex_aload_n 1 dX3_endMonth_35 rfl rfl ?_
    refine ex_aload_n 1 dX3_endMonth_36 rfl rfl ?_
    refine ex_get (v := .ref (o + 1)) fl_X3_18 S.ob rfl dX3_endMonth_37 ?_
    refine ex_iconst (v := nI 1) dX3_endMonth_40 (by decide) ?_
    refine exS_ld (i := 1) (v := u 1) S rfl (by decide) rfl dX3_endMonth_41 ?_
    refine exS_call (As := [.int (u 1)]) (r0 := (some (.int (mnI (u 1) (u 11))))) (B := (n, (some i), t, (upd u 11 (u 11 - mnI (u 1) (u 11))), q)) vl_X3_143 rfl S (fun S1 => c_draw S1) rfl (by decide) (Nat.le_of_ble_eq_true rfl) (Nat.le_refl _) (Nat.le_refl _) rfl dX3_endMonth_42 (fun h S => ?_)
    refine ex_istore_n (lv' := [(2, .int (mnI (u 1) (u 11))), (1, .ref (o + 3 + π i)), (0, .ref o)]) dX3_endMonth_45 rfl (by decide) rfl ?_
    refine ex_iload_n 0 dX3_endMonth_46 rfl rfl ?_
    refine ex_aload_n 1 dX3_endMonth_47 rfl rfl ?_
    refine ex_get (v := .int (q i 1)) fl_X3_146 (S.pe (by omega) gi) rfl dX3_endMonth_48 ?_
    refine ex_imul dX3_endMonth_51 ?_
    refine ex_bipush (v := nI 100) dX3_endMonth_52 (by decide) ?_
    refine ex_idiv dX3_endMonth_54 (by decide) ?_
    refine ex_istore_n (lv' := [(3, .int (((mnI (u 1) (u 11)) * (q i 1)) / (nI 100))), (2, .int (mnI (u 1) (u 11))), (1, .ref (o + 3 + π i)), (0, .ref o)]) dX3_endMonth_55 rfl (by decide) rfl ?_
    refine ex_aload_n 3 dX3_endMonth_56 rfl rfl ?_
    refine ex_dup dX3_endMonth_57 rfl ?_
    refine ex_get (v := .int (u 15)) fl_X3_57 S.ob rfl dX3_endMonth_58 ?_
    refine ex_iload_n 0 dX3_endMonth_61 rfl rfl ?_
    refine ex_iadd dX3_endMonth_62 ?_
    refine exS_putU (i := 15) S fl_X3_57 (by decide) (by decide) rfl dX3_endMonth_63 (fun h S => ?_)
    refine ex_aload_n 2 dX3_endMonth_66 rfl rfl ?_
    refine ex_dup dX3_endMonth_67 rfl ?_
    refine ex_get (v := .int (q i 3)) fl_X3_86 (S.pe (by omega) gi) rfl dX3_endMonth_68 ?_
    refine ex_iload_n 1 dX3_endMonth_71 rfl rfl ?_
    refine ex_iload_n 0 dX3_endMonth_72 rfl rfl ?_
    refine ex_isub dX3_endMonth_73 ?_
    refine ex_iadd dX3_endMonth_74 ?_
    refine exP_put S (by omega) gi fl_X3_86 (by decide) rfl dX3_endMonth_75 (fun h S => ?_)
    refine ex_aload_n 3 dX3_endMonth_78 rfl rfl ?_
    refine ex_bipush (v := nI 99) dX3_endMonth_79 (by decide) ?_
    refine ex_aload_n 3 dX3_endMonth_81 rfl rfl ?_
    refine ex_get (v := .int (u 8)) fl_X3_33 S.ob rfl dX3_endMonth_82 ?_
    refine ex_iload_n 0 dX3_endMonth_85 rfl rfl ?_
    refine ex_iconst (v := nI 2) dX3_endMonth_86 (by decide) ?_
    refine ex_idiv dX3_endMonth_87 (by decide) ?_
    refine ex_iadd dX3_endMonth_88 ?_
    refine exm_min (v := mnI (nI 99) ((u 8) + ((((mnI (u 1) (u 11)) * (q i 1)) / (nI 100)) / (nI 2)))) mlx_min rfl (by decide) (Nat.le_of_ble_eq_true rfl) (Nat.le_refl _) (Nat.le_refl _) dX3_endMonth_89 ?_
    refine exS_putU (i := 8) S fl_X3_33 (by decide) (by decide) rfl dX3_endMonth_92 (fun h S => ?_)
    refine ex_aload_n 3 dX3_endMonth_95 rfl rfl ?_
    refine ex_get (v := .int (mnI (nI 99) ((u 8) + ((((mnI (u 1) (u 11)) * (q i 1)) / (nI 100)) / (nI 2))))) fl_X3_33 S.ob rfl dX3_endMonth_96 ?_
    refine ex_aload_n 3 dX3_endMonth_99 rfl rfl ?_
    refine ex_get (v := .ref (o + 1)) fl_X3_18 S.ob rfl dX3_endMonth_100 ?_
    refine ex_iconst (v := nI 5) dX3_endMonth_103 (by decide) ?_
    refine exS_ld (i := 5) (v := u 5) S rfl (by decide) rfl dX3_endMonth_104 ?_
    refine ex_icmp_ge (tgt := 113) dX3_endMonth_105 (by decide) (fun c_105 => ?_) (fun c_105 => ?_)
    · exact ex_vret hQ rfl ⟨rfl, rfl, by simp only [monthA]; rw [if_neg (Int32.not_lt.mpr c_105)]; exact S⟩ dX3_endMonth_113
    · refine ex_aload_n 3 dX3_endMonth_108 rfl rfl ?_
      refine ex_iconst (v := nI 0) dX3_endMonth_109 (by decide) ?_
      refine exS_call (As := [.int (nI 0)]) (r0 := none) (B := (n, none, 0, (upd (upd (upd (upd u 11 (u 11 - mnI (u 1) (u 11))) 15 ((u 15) + (((mnI (u 1) (u 11)) * (q i 1)) / (nI 100)))) 8 (mnI (nI 99) ((u 8) + ((((mnI (u 1) (u 11)) * (q i 1)) / (nI 100)) / (nI 2))))) 14 (u 14 + nI 1)), (uq q i 3 ((q i 3) + ((mnI (u 1) (u 11)) - (((mnI (u 1) (u 11)) * (q i 1)) / (nI 100))))))) vl_X3_105 rfl S (fun S1 => c_depose S1) rfl (by decide) (Nat.le_of_ble_eq_true rfl) (Nat.le_refl _) (Nat.le_refl _) rfl dX3_endMonth_110 (fun h S => ?_)
      exact ex_vret hQ rfl ⟨rfl, rfl, by simp only [monthA]; rw [if_pos (Int32.not_le.mp c_105)]; exact S⟩ dX3_endMonth_113

set_option maxRecDepth 20000 in
set_option maxHeartbeats 2000000 in
theorem c_nextHand {G : GG} {l : Launch} {h0 : HP} {z o : Nat} {π : Nat → Nat} {n : Nat} {g : Option Nat} {t : Nat} {u : Nat → Int32} {q : Nat → Nat → Int32} (S0 : SP G h0 o π (n, g, t, u, q)) (tw : t < n ∨ t = 0) (n8 : n ≤ 8) : Ct G l 1 0 0 yX3_nextHand cX3_nextHand 4 (some .int) [.ref o] h0 z (p0 (.int (gv (hand n t u q))) h0 z) := by
  refine Ct.intro (lv := [(0, .ref o)]) (by decide +kernel) (Nat.le_of_ble_eq_true rfl) rfl (fun X Q hQ hnm => ?_)
  have S := S0.sf
  refine ex_aload_n 0 dX3_nextHand_0 rfl rfl ?_
  refine ex_get (v := .int (nI t)) fl_X3_39 S.ob rfl dX3_nextHand_1 ?_
  refine ex_istore_n (lv' := [(1, .int (nI t)), (0, .ref o)]) dX3_nextHand_4 rfl (by decide) rfl ?_
  refine ex_iconst (v := nI 0) dX3_nextHand_5 (by decide) ?_
  refine ex_istore_n (lv' := [(2, .int (nI 0)), (1, .int (nI t)), (0, .ref o)]) dX3_nextHand_6 rfl (by decide) rfl ?_
  suffices H : ∀ (r k t1 : Nat), k + r = n → (0 < n → t1 < n) → t1 < 9 → handF n u q t1 r = hand n t u q → ex G l X Q 1 0 0 0 0 cX3_nextHand yX3_nextHand.cls 4 (some .int) h0 z 7 [(2, .int (nI k)), (1, .int (nI t1)), (0, .ref o)] [] from by
    have e2 := H n 0 t (by omega) (by omega) (by omega) rfl
    refine ex_lv (lv2 := [(2, .int (nI 0)), (1, .int (nI t)), (0, .ref o)]) [0, 1, 2] rfl ?_
    exact e2
  intro r
  induction r with
  | zero =>
    intro k t1 hk ht h9 hh
    refine ex_iload_n 0 dX3_nextHand_7 rfl rfl ?_
    refine ex_aload_n 2 dX3_nextHand_8 rfl rfl ?_
    refine ex_get (v := .int (nI n)) fl_X3_29 S.ob rfl dX3_nextHand_9 ?_
    refine ex_icmp_ge (tgt := 47) dX3_nextHand_12 (by decide) (fun c_12 => ?_) (fun c_12 => absurd ((nI_leI (by omega) (by omega)).mpr (by omega)) c_12)
    refine ex_bipush (v := (-6)) dX3_nextHand_47 (by decide) ?_
    exact ex_iret hQ rfl ⟨by rw [← hh]; rfl, rfl, rfl⟩ dX3_nextHand_49
  | succ r ih =>
    intro k t1 hk ht h9 hh
    refine ex_iload_n 0 dX3_nextHand_7 rfl rfl ?_
    refine ex_aload_n 2 dX3_nextHand_8 rfl rfl ?_
    refine ex_get (v := .int (nI n)) fl_X3_29 S.ob rfl dX3_nextHand_9 ?_
    refine ex_icmp_ge (tgt := 47) dX3_nextHand_12 (by decide) (fun c_12 => absurd c_12 (fun q9 => absurd ((nI_leI (by omega) (by omega)).mp q9) (by omega))) (fun c_12 => ?_)
    refine ex_aload_n 2 dX3_nextHand_15 rfl rfl ?_
    refine ex_iload_n 1 dX3_nextHand_16 rfl rfl ?_
    refine ex_call0 (As := [.int (nI t1)]) (v := .ref (o + 3 + π t1)) (ci := 3) vl_X3_70 rfl (c_at S.1 (by omega) (by omega) n8) S.ob rfl (by decide) (Nat.le_of_ble_eq_true rfl) (Nat.le_refl _) (Nat.le_refl _) rfl dX3_nextHand_17 ?_
    refine ex_astore_n (lv' := [(3, .ref (o + 3 + π t1)), (2, .int (nI k)), (1, .int (nI t1)), (0, .ref o)]) dX3_nextHand_20 rfl (by decide) rfl ?_
    refine ex_aload_n 0 dX3_nextHand_21 rfl rfl ?_
    refine ex_ifnull dX3_nextHand_22 ?_
    refine ex_aload_n 3 dX3_nextHand_25 rfl rfl ?_
    refine ex_aload_n 0 dX3_nextHand_26 rfl rfl ?_
    refine ex_call0 (As := [.ref (o + 3 + π t1)]) (v := .int (bB u q t1)) (ci := 3) vl_X3_82 rfl (c_isBarred S.1 (by omega) (by omega)) S.ob rfl (by decide) (Nat.le_of_ble_eq_true rfl) (Nat.le_refl _) (Nat.le_refl _) rfl dX3_nextHand_27 ?_
    refine ex_if_ne (tgt := 35) dX3_nextHand_30 (by decide) (fun c_30 => ?_) (fun c_30 => ?_)
    · refine ex_aload_n 3 dX3_nextHand_35 rfl rfl ?_
      refine ex_iload_n 2 dX3_nextHand_36 rfl rfl ?_
      refine ex_call0 (As := [.int (nI t1)]) (v := .int (nI (bh n t1))) (ci := 3) vl_X3_139 rfl (c_behind S.1 (by omega) n8) S.ob rfl (by decide) (Nat.le_of_ble_eq_true rfl) (Nat.le_refl _) (Nat.le_refl _) rfl dX3_nextHand_37 ?_
      refine ex_istore_n (lv' := [(1, .int (nI (bh n t1))), (3, .ref (o + 3 + π t1)), (2, .int (nI k)), (0, .ref o)]) dX3_nextHand_40 rfl (by decide) rfl ?_
      refine ex_iinc (v := nI (k + 1)) (lv' := [(2, .int (nI (k + 1))), (1, .int (nI (bh n t1))), (3, .ref (o + 3 + π t1)), (0, .ref o)]) 2 dX3_nextHand_41 rfl (nI_1 k) (by decide) rfl ?_
      refine ex_goto (tgt := 7) dX3_nextHand_44 (by decide) ?_
      have e2 := ih (k + 1) (bh n t1) (by omega) (fun q9 => bh_lt q9) (by have := @bh_lt n t1 (by omega); omega) (by rw [← hh, handF, if_neg (bB_1 c_30)])
      refine ex_lv (lv2 := [(2, .int (nI (k + 1))), (1, .int (nI (bh n t1))), (0, .ref o)]) [0, 1, 3] rfl ?_
      exact e2
    · refine ex_iload_n 2 dX3_nextHand_33 rfl rfl ?_
      exact ex_iret hQ rfl ⟨by rw [← hh, handF, if_pos (bB_0 c_30)]; rfl, rfl, rfl⟩ dX3_nextHand_34

set_option maxRecDepth 20000 in
set_option maxHeartbeats 2000000 in
theorem c_holdOut {G : GG} {l : Launch} {h0 : HP} {z o : Nat} {π : Nat → Nat} {n : Nat} {t : Nat} {u : Nat → Int32} {q : Nat → Nat → Int32} (S0 : SP G h0 o π (n, none, t, u, q)) (tw : t < n ∨ t = 0) (n8 : n ≤ 8) : Ct G l 2 0 0 yX3_holdOutHand cX3_holdOutHand 3 (some .int) [.ref o] h0 z (pS G (some (.int (gv (holdA n t u q).2))) h0 z o π (holdA n t u q).1) := by
  refine Ct.intro (lv := [(0, .ref o)]) (by decide +kernel) (Nat.le_of_ble_eq_true rfl) rfl (fun X Q hQ hnm => ?_)
  have S := S0.sf
  refine ex_aload_n 0 dX3_holdOutHand_0 rfl rfl ?_
  refine ex_call0 (As := []) (v := .int (gv (hand n t u q))) (ci := 3) vl_X3_130 rfl (c_nextHand S.1 tw n8) S.ob rfl (by decide) (Nat.le_of_ble_eq_true rfl) (Nat.le_refl _) (Nat.le_refl _) rfl dX3_holdOutHand_1 ?_
  rcases hh : hand n t u q with _ | j
  · refine ex_istore_n (lv' := [(1, .int (-6)), (0, .ref o)]) dX3_holdOutHand_4 rfl (by decide) rfl ?_
    refine ex_aload_n 1 dX3_holdOutHand_5 rfl rfl ?_
    refine ex_iload_n 0 dX3_holdOutHand_6 rfl rfl ?_
    refine ex_call0 (As := [.int (-6)]) (v := .null) (ci := 3) vl_X3_70 rfl (c_atN S.1 (Or.inl (by decide)) n8) S.ob rfl (by decide) (Nat.le_of_ble_eq_true rfl) (Nat.le_refl _) (Nat.le_refl _) rfl dX3_holdOutHand_7 ?_
    refine ex_astore_nN (lv' := [(2, .null), (1, .int (-6)), (0, .ref o)]) dX3_holdOutHand_10 rfl (by decide) rfl ?_
    refine ex_aload_nN 0 dX3_holdOutHand_11 rfl rfl ?_
    refine ex_ifnonnullN dX3_holdOutHand_12 ?_
    refine ex_bipush (v := (-6)) dX3_holdOutHand_15 (by decide) ?_
    exact ex_iret hQ rfl ⟨by simp only [holdA, hh]; rfl, rfl, by simp only [holdA, hh]; exact S⟩ dX3_holdOutHand_17
  · have hj : j < n := hand_lt tw hh
    refine ex_istore_n (lv' := [(1, .int (nI j)), (0, .ref o)]) dX3_holdOutHand_4 rfl (by decide) rfl ?_
    refine ex_aload_n 1 dX3_holdOutHand_5 rfl rfl ?_
    refine ex_iload_n 0 dX3_holdOutHand_6 rfl rfl ?_
    refine ex_call0 (As := [.int (nI j)]) (v := .ref (o + 3 + π j)) (ci := 3) vl_X3_70 rfl (c_at S.1 (by omega) hj n8) S.ob rfl (by decide) (Nat.le_of_ble_eq_true rfl) (Nat.le_refl _) (Nat.le_refl _) rfl dX3_holdOutHand_7 ?_
    refine ex_astore_n (lv' := [(2, .ref (o + 3 + π j)), (1, .int (nI j)), (0, .ref o)]) dX3_holdOutHand_10 rfl (by decide) rfl ?_
    refine ex_aload_n 0 dX3_holdOutHand_11 rfl rfl ?_
    refine ex_ifnonnull (tgt := 18) dX3_holdOutHand_12 (by decide) ?_
    refine ex_aload_n 2 dX3_holdOutHand_18 rfl rfl ?_
    refine ex_aload_n 0 dX3_holdOutHand_19 rfl rfl ?_
    refine ex_call0 (As := [.ref (o + 3 + π j)]) (v := .int (scI u q j)) (ci := 3) vl_X3_101 rfl (c_score S.1 (by omega) hj) S.ob rfl (by decide) (Nat.le_of_ble_eq_true rfl) (Nat.le_refl _) (Nat.le_refl _) rfl dX3_holdOutHand_20 ?_
    refine ex_aload_n 2 dX3_holdOutHand_23 rfl rfl ?_
    refine ex_get (v := .ref (o + 1)) fl_X3_18 S.ob rfl dX3_holdOutHand_24 ?_
    refine ex_iconst (v := nI 0) dX3_holdOutHand_27 (by decide) ?_
    refine exS_ld (i := 0) (v := u 0) S rfl (by decide) rfl dX3_holdOutHand_28 ?_
    refine ex_icmp_lt (tgt := 59) dX3_holdOutHand_29 (by decide) (fun c_29 => ?_) (fun c_29 => ?_)
    · refine ex_aload_n 2 dX3_holdOutHand_59 rfl rfl ?_
      refine ex_aload_n 0 dX3_holdOutHand_60 rfl rfl ?_
      refine exS_call (As := [.ref (o + 3 + π j)]) (r0 := none) (B := (n, none, t, (upd u 12 (u 12 + nI 1)), (uq q j 2 (q j 2 + nI 1)))) vl_X3_108 rfl S (fun S1 => c_scratch S1 (by omega) hj) rfl (by decide) (Nat.le_of_ble_eq_true rfl) (Nat.le_refl _) (Nat.le_refl _) rfl dX3_holdOutHand_61 (fun h S => ?_)
      refine ex_aload_n 2 dX3_holdOutHand_64 rfl rfl ?_
      refine ex_iconst (v := nI 0) dX3_holdOutHand_65 (by decide) ?_
      refine ex_aload_n 2 dX3_holdOutHand_66 rfl rfl ?_
      refine ex_get (v := .int (u 8)) fl_X3_33 S.ob rfl dX3_holdOutHand_67 ?_
      refine ex_iconst (v := nI 3) dX3_holdOutHand_70 (by decide) ?_
      refine ex_isub dX3_holdOutHand_71 ?_
      refine exm_max (v := mxI (nI 0) ((u 8) - (nI 3))) mlx_max rfl (by decide) (Nat.le_of_ble_eq_true rfl) (Nat.le_refl _) (Nat.le_refl _) dX3_holdOutHand_72 ?_
      refine exS_putU (i := 8) S fl_X3_33 (by decide) (by decide) rfl dX3_holdOutHand_75 (fun h S => ?_)
      refine ex_aload_n 2 dX3_holdOutHand_78 rfl rfl ?_
      refine ex_aload_n 2 dX3_holdOutHand_79 rfl rfl ?_
      refine ex_iload_n 1 dX3_holdOutHand_80 rfl rfl ?_
      refine ex_call0 (As := [.int (nI j)]) (v := .int (nI (bh n j))) (ci := 3) vl_X3_139 rfl (c_behind S.1 (by omega) n8) S.ob rfl (by decide) (Nat.le_of_ble_eq_true rfl) (Nat.le_refl _) (Nat.le_refl _) rfl dX3_holdOutHand_81 ?_
      refine exS_putT (t1 := bh n j) S fl_X3_39 rfl dX3_holdOutHand_84 (fun h S => ?_)
      refine ex_bipush (v := (-6)) dX3_holdOutHand_87 (by decide) ?_
      exact ex_iret hQ rfl ⟨by simp only [holdA, hh]; rw [if_pos c_29]; rfl, rfl, by simp only [holdA, hh]; rw [if_pos c_29]; exact S⟩ dX3_holdOutHand_89
    · refine ex_aload_n 2 dX3_holdOutHand_32 rfl rfl ?_
      refine ex_iload_n 1 dX3_holdOutHand_33 rfl rfl ?_
      refine exS_putG (g1 := (some j)) S fl_X3_36 rfl dX3_holdOutHand_34 (fun h S => ?_)
      refine ex_aload_n 0 dX3_holdOutHand_37 rfl rfl ?_
      refine ex_dup dX3_holdOutHand_38 rfl ?_
      refine ex_get (v := .int (q j 4)) fl_X3_133 (S.pe (by omega) hj) rfl dX3_holdOutHand_39 ?_
      refine ex_iconst (v := nI 1) dX3_holdOutHand_42 (by decide) ?_
      refine ex_iadd dX3_holdOutHand_43 ?_
      refine exP_put S (by omega) hj fl_X3_133 (by decide) rfl dX3_holdOutHand_44 (fun h S => ?_)
      refine ex_aload_n 2 dX3_holdOutHand_47 rfl rfl ?_
      refine ex_dup dX3_holdOutHand_48 rfl ?_
      refine ex_get (v := .int (u 13)) fl_X3_51 S.ob rfl dX3_holdOutHand_49 ?_
      refine ex_iconst (v := nI 1) dX3_holdOutHand_52 (by decide) ?_
      refine ex_iadd dX3_holdOutHand_53 ?_
      refine exS_putU (i := 13) S fl_X3_51 (by decide) (by decide) rfl dX3_holdOutHand_54 (fun h S => ?_)
      refine ex_iload_n 1 dX3_holdOutHand_57 rfl rfl ?_
      exact ex_iret hQ rfl ⟨by simp only [holdA, hh]; rw [if_neg c_29]; rfl, rfl, by simp only [holdA, hh]; rw [if_neg c_29]; exact S⟩ dX3_holdOutHand_58
end
section
set_option maxRecDepth 20000 in
set_option maxHeartbeats 2000000 in
theorem c_cmp {G : GG} {l : Launch} {h0 : HP} {z : Nat} {a b : Int32} : Ct G l 0 0 0 yJ6_compare_7cf53 cJ6_compare_7cf53 2 (some .int) [.int a, .int b] h0 z (p0 (.int (cpI a b)) h0 z) := by
  refine Ct.intro (lv := [(0, .int a), (1, .int b)]) (by decide +kernel) (Nat.le_of_ble_eq_true rfl) rfl (fun X Q hQ hnm => ?_)
  refine ex_iload_n 0 dJ6_compare_7cf53_0 rfl rfl ?_
  refine ex_iload_n 1 dJ6_compare_7cf53_1 rfl rfl ?_
  refine ex_icmp_ge (tgt := 9) dJ6_compare_7cf53_2 (by decide) (fun c_2 => ?_) (fun c_2 => ?_)
  · refine ex_iload_n 0 dJ6_compare_7cf53_9 rfl rfl ?_
    refine ex_iload_n 1 dJ6_compare_7cf53_10 rfl rfl ?_
    refine ex_icmp_ne (tgt := 18) dJ6_compare_7cf53_11 (by decide) (fun c_11 => ?_) (fun c_11 => ?_)
    · refine ex_iconst (v := nI 1) dJ6_compare_7cf53_18 (by decide) ?_
      exact ex_iret hQ rfl ⟨by simp [cpI, c_11, Int32.not_lt.mpr c_2], rfl, rfl⟩ dJ6_compare_7cf53_19
    · refine ex_iconst (v := nI 0) dJ6_compare_7cf53_14 (by decide) ?_
      refine ex_goto (tgt := 19) dJ6_compare_7cf53_15 (by decide) ?_
      exact ex_iret hQ rfl ⟨by simp [cpI, c_11, Int32.lt_irrefl], rfl, rfl⟩ dJ6_compare_7cf53_19
  · refine ex_iconst (v := (-1)) dJ6_compare_7cf53_5 (by decide) ?_
    refine ex_goto (tgt := 19) dJ6_compare_7cf53_6 (by decide) ?_
    exact ex_iret hQ rfl ⟨by simp [cpI, Int32.not_le.mp c_2], rfl, rfl⟩ dJ6_compare_7cf53_19

set_option maxRecDepth 20000 in
set_option maxHeartbeats 2000000 in
theorem c_liveDayT {G : GG} {l : Launch} {h0 : HP} {z o : Nat} {π : Nat → Nat} {n : Nat} {g : Option Nat} {t : Nat} {u : Nat → Int32} {q : Nat → Nat → Int32} (S0 : SP G h0 o π (n, g, t, u, q)) (w0 : wfA (n, g, t, u, q)) (hm0 : 0 < u 3) : Ct G l 3 0 0 yX3_liveDay cX3_liveDay 4 (some .int) [.ref o] h0 z (pS G (some (.int (gv (dayR (n, g, t, u, q))))) h0 z o π (dayA (n, g, t, u, q))) := by
  refine Ct.intro (lv := [(0, .ref o)]) (by decide +kernel) (Nat.le_of_ble_eq_true rfl) rfl (fun X Q hQ hnm => ?_)
  have S := S0.sf
  have n8 : n ≤ 8 := w0.1
  have gw : ∀ i, g = some i → i < n := w0.2.1
  have tw : t < n ∨ t = 0 := w0.2.2
  refine ex_aload_n 0 dX3_liveDay_0 rfl rfl ?_
  refine ex_dup dX3_liveDay_1 rfl ?_
  refine ex_get (v := .int (u 6)) fl_X3_45 S.ob rfl dX3_liveDay_2 ?_
  refine ex_iconst (v := nI 1) dX3_liveDay_5 (by decide) ?_
  refine ex_iadd dX3_liveDay_6 ?_
  refine exS_putU (i := 6) S fl_X3_45 (by decide) (by decide) rfl dX3_liveDay_7 (fun h S => ?_)
  have wf1 : wfA (hA (nA (n, g, t, u, q))).1 := hA_wf (nA_wf w0)
  have hm1 : (hA (nA (n, g, t, u, q))).1.2.2.2.1 3 = u 3 := hA_u (A := nA (n, g, t, u, q)) (by decide)
  suffices J : ∀ (h : HP) (B : AS), (hA (nA (n, g, t, u, q))).1 = B → SF G h0 h o π B → ex G l X Q 3 0 0 0 0 cX3_liveDay yX3_liveDay.cls 4 (some .int) h z 28 [(0, .ref o)] [.int (gv (dayR (n, g, t, u, q)))] from by
    rcases g with _ | i
    · refine ex_aload_n 0 dX3_liveDay_10 rfl rfl ?_
      refine ex_get (v := .int (-6)) fl_X3_36 S.ob rfl dX3_liveDay_11 ?_
      refine ex_bipush (v := (-6)) dX3_liveDay_14 (by decide) ?_
      refine ex_icmp_ne (tgt := 26) dX3_liveDay_16 (by decide) (fun c_16 => absurd (rfl) c_16) (fun c_16 => ?_)
      refine ex_aload_n 0 dX3_liveDay_19 rfl rfl ?_
      refine exS_call (As := []) (r0 := (some (.int (gv (holdA n t (upd u 6 ((u 6) + (nI 1))) q).2)))) (B := (holdA n t (upd u 6 ((u 6) + (nI 1))) q).1) vl_X3_115 rfl S (fun S1 => c_holdOut S1 tw n8) rfl (by decide) (Nat.le_of_ble_eq_true rfl) (Nat.le_refl _) (Nat.le_refl _) rfl dX3_liveDay_20 (fun h S => ?_)
      refine ex_goto (tgt := 28) dX3_liveDay_23 (by decide) ?_
      exact J _ _ rfl S
    · have gi := gw i rfl
      refine ex_aload_n 0 dX3_liveDay_10 rfl rfl ?_
      refine ex_get (v := .int (nI i)) fl_X3_36 S.ob rfl dX3_liveDay_11 ?_
      refine ex_bipush (v := (-6)) dX3_liveDay_14 (by decide) ?_
      refine ex_icmp_ne (tgt := 26) dX3_liveDay_16 (by decide) (fun c_16 => ?_) (fun c_16 => absurd c_16 (nI_n6 (by omega)))
      refine ex_bipush (v := (-6)) dX3_liveDay_26 (by decide) ?_
      exact J _ _ rfl S
  intro h B hB S
  obtain ⟨n1, g1, t1, u1, q1⟩ := B
  rw [hB] at wf1 hm1
  have n8 : n1 ≤ 8 := wf1.1
  have gw1 : ∀ i, g1 = some i → i < n1 := wf1.2.1
  have hmo : ¬ u1 3 ≤ 0 := by rw [show u1 3 = u 3 from hm1]; exact Int32.not_le.mpr hm0
  refine ex_istore_n (lv' := [(1, .int (gv (dayR (n, g, t, u, q)))), (0, .ref o)]) dX3_liveDay_28 rfl (by decide) rfl ?_
  refine ex_aload_n 1 dX3_liveDay_29 rfl rfl ?_
  refine ex_get (v := .ref (o + 1)) fl_X3_18 S.ob rfl dX3_liveDay_30 ?_
  refine ex_iconst (v := nI 3) dX3_liveDay_33 (by decide) ?_
  refine exS_ld (i := 3) (v := u1 3) S rfl (by decide) rfl dX3_liveDay_34 ?_
  refine ex_istore_n (lv' := [(2, .int (u1 3)), (1, .int (gv (dayR (n, g, t, u, q)))), (0, .ref o)]) dX3_liveDay_35 rfl (by decide) rfl ?_
  refine ex_iload_n 0 dX3_liveDay_36 rfl rfl ?_
  refine ex_if_le (tgt := 53) dX3_liveDay_37 (by decide) (fun c_37 => absurd c_37 (hmo)) (fun c_37 => ?_)
  refine ex_aload_n 2 dX3_liveDay_40 rfl rfl ?_
  refine ex_get (v := .int (u1 6)) fl_X3_45 S.ob rfl dX3_liveDay_41 ?_
  refine ex_iload_n 0 dX3_liveDay_44 rfl rfl ?_
  refine ex_irem dX3_liveDay_45 (fun q9 => hmo (by rw [q9]; exact Int32.le_refl 0)) ?_
  have wf2 : wfA (mA (n1, g1, t1, u1, q1)) := mA_wf wf1
  suffices J2 : ∀ (h : HP) (B : AS), mA (n1, g1, t1, u1, q1) = B → SF G h0 h o π B → ex G l X Q 3 0 0 0 0 cX3_liveDay yX3_liveDay.cls 4 (some .int) h z 53 [(2, .int (u1 3)), (1, .int (gv (dayR (n, g, t, u, q)))), (0, .ref o)] [] from by
    refine ex_if_ne (tgt := 53) dX3_liveDay_46 (by decide) (fun c_46 => ?_) (fun c_46 => ?_)
    · exact J2 _ _ (by unfold mA; rw [if_neg c_46]) S
    · refine ex_aload_n 2 dX3_liveDay_49 rfl rfl ?_
      refine exS_call (As := []) (r0 := none) (B := monthA (n1, g1, t1, u1, q1)) vl_X3_118 rfl S (fun S1 => c_endMonth S1 gw1 n8) rfl (by decide) (Nat.le_of_ble_eq_true rfl) (Nat.le_refl _) (Nat.le_refl _) rfl dX3_liveDay_50 (fun h S => ?_)
      exact J2 _ _ (by unfold mA; rw [if_pos c_46]) S
  intro h B hB2 S
  obtain ⟨n2, g2, t2, u2, q2⟩ := B
  rw [hB2] at wf2
  have n8 : n2 ≤ 8 := wf2.1
  have gw2 : ∀ i, g2 = some i → i < n2 := wf2.2.1
  refine ex_aload_n 2 dX3_liveDay_53 rfl rfl ?_
  refine ex_dup dX3_liveDay_54 rfl ?_
  refine ex_get (v := .int (u2 8)) fl_X3_33 S.ob rfl dX3_liveDay_55 ?_
  refine ex_bipush (v := nI 50) dX3_liveDay_58 (by decide) ?_
  refine ex_aload_n 2 dX3_liveDay_60 rfl rfl ?_
  refine ex_get (v := .int (u2 8)) fl_X3_33 S.ob rfl dX3_liveDay_61 ?_
  refine ex_callS0 (As := [.int (nI 50), .int (u2 8)]) (v := .int (cpI (nI 50) (u2 8))) vl_X3_121 (c_cmp) rfl (by decide) (Nat.le_of_ble_eq_true rfl) (Nat.le_refl _) (Nat.le_refl _) rfl dX3_liveDay_64 ?_
  refine ex_iadd dX3_liveDay_67 ?_
  refine exS_putU (i := 8) S fl_X3_33 (by decide) (by decide) rfl dX3_liveDay_68 (fun h S => ?_)
  rcases g2 with _ | i
  · refine ex_aload_n 2 dX3_liveDay_71 rfl rfl ?_
    refine ex_aload_n 2 dX3_liveDay_72 rfl rfl ?_
    refine ex_get (v := .int (-6)) fl_X3_36 S.ob rfl dX3_liveDay_73 ?_
    refine ex_call0 (As := [.int (-6)]) (v := .null) (ci := 3) vl_X3_70 rfl (c_atN S.1 (Or.inl (by decide)) n8) S.ob rfl (by decide) (Nat.le_of_ble_eq_true rfl) (Nat.le_refl _) (Nat.le_refl _) rfl dX3_liveDay_76 ?_
    refine ex_astore_nN (lv' := [(3, .null), (2, .int (u1 3)), (1, .int (gv (dayR (n, g, t, u, q)))), (0, .ref o)]) dX3_liveDay_79 rfl (by decide) rfl ?_
    refine ex_aload_nN 0 dX3_liveDay_80 rfl rfl ?_
    refine ex_ifnullN (tgt := 94) dX3_liveDay_81 (by decide) ?_
    refine ex_iload_n 2 dX3_liveDay_94 rfl rfl ?_
    exact ex_iret hQ rfl ⟨rfl, rfl, by rw [show dayA (n, g, t, u, q) = _ from by unfold dayA; rw [hB, hB2]]; exact S⟩ dX3_liveDay_95
  · have gi := gw2 i rfl
    refine ex_aload_n 2 dX3_liveDay_71 rfl rfl ?_
    refine ex_aload_n 2 dX3_liveDay_72 rfl rfl ?_
    refine ex_get (v := .int (nI i)) fl_X3_36 S.ob rfl dX3_liveDay_73 ?_
    refine ex_call0 (As := [.int (nI i)]) (v := .ref (o + 3 + π i)) (ci := 3) vl_X3_70 rfl (c_at S.1 (by omega) gi n8) S.ob rfl (by decide) (Nat.le_of_ble_eq_true rfl) (Nat.le_refl _) (Nat.le_refl _) rfl dX3_liveDay_76 ?_
    refine ex_astore_n (lv' := [(3, .ref (o + 3 + π i)), (2, .int (u1 3)), (1, .int (gv (dayR (n, g, t, u, q)))), (0, .ref o)]) dX3_liveDay_79 rfl (by decide) rfl ?_
    refine ex_aload_n 0 dX3_liveDay_80 rfl rfl ?_
    refine ex_ifnull dX3_liveDay_81 ?_
    refine ex_aload_n 0 dX3_liveDay_84 rfl rfl ?_
    refine ex_dup dX3_liveDay_85 rfl ?_
    refine ex_get (v := .int (q2 i 5)) fl_X3_127 (S.pe (by omega) gi) rfl dX3_liveDay_86 ?_
    refine ex_iconst (v := nI 1) dX3_liveDay_89 (by decide) ?_
    refine ex_iadd dX3_liveDay_90 ?_
    refine exP_put S (by omega) gi fl_X3_127 (by decide) rfl dX3_liveDay_91 (fun h S => ?_)
    refine ex_iload_n 2 dX3_liveDay_94 rfl rfl ?_
    exact ex_iret hQ rfl ⟨rfl, rfl, by rw [show dayA (n, g, t, u, q) = _ from by unfold dayA; rw [hB, hB2]]; exact S⟩ dX3_liveDay_95

theorem c_liveDay {G : GG} {l : Launch} {h0 : HP} {z o : Nat} {π : Nat → Nat} {A : AS} (S0 : SP G h0 o π A) (w0 : wfA A) (hm0 : 0 < A.2.2.2.1 3) : Ct G l 3 0 0 yX3_liveDay cX3_liveDay 4 (some .int) [.ref o] h0 z (pS G (some (.int (gv (dayR A)))) h0 z o π (dayA A)) := by
  obtain ⟨n, g, t, u, q⟩ := A
  exact c_liveDayT S0 w0 hm0

set_option maxRecDepth 20000 in
set_option maxHeartbeats 2000000 in
theorem c_liveDays {G : GG} {l : Launch} {h0 : HP} {z o : Nat} {π : Nat → Nat} {A : AS} (S0 : SP G h0 o π A) (w0 : wfA A) (hm0 : 0 < A.2.2.2.1 3) {D : Nat} (hD : D < 1000) : Ct G l 4 0 0 yX3_liveDays cX3_liveDays 3 none [.ref o, .int (nI D)] h0 z (pS G none h0 z o π (itA D A)) := by
  refine Ct.intro (lv := [(0, .ref o), (1, .int (nI D))]) (by decide +kernel) (Nat.le_of_ble_eq_true rfl) rfl (fun X Q hQ hnm => ?_)
  have S := S0.sf
  refine ex_iconst (v := nI 0) dX3_liveDays_0 (by decide) ?_
  refine ex_istore_n (lv' := [(2, .int (nI 0)), (0, .ref o), (1, .int (nI D))]) dX3_liveDays_1 rfl (by decide) rfl ?_
  suffices H : ∀ (r m : Nat) (h : HP), m + r = D → SF G h0 h o π (itA m A) → ex G l X Q 4 0 0 0 0 cX3_liveDays yX3_liveDays.cls 3 none h z 2 [(2, .int (nI m)), (0, .ref o), (1, .int (nI D))] [] from by
    have e2 := H D 0 h0 (by omega) S
    refine ex_lv (lv2 := [(2, .int (nI 0)), (0, .ref o), (1, .int (nI D))]) [0, 1, 2] rfl ?_
    exact e2
  intro r
  induction r with
  | zero =>
    intro m h hm S
    refine ex_iload_n 0 dX3_liveDays_2 rfl rfl ?_
    refine ex_iload_n 2 dX3_liveDays_3 rfl rfl ?_
    refine ex_icmp_ge (tgt := 18) dX3_liveDays_4 (by decide) (fun c_4 => ?_) (fun c_4 => absurd ((nI_leI (by omega) (by omega)).mpr (by omega)) c_4)
    exact ex_vret hQ rfl ⟨rfl, rfl, by rw [← show m = D by omega]; exact S⟩ dX3_liveDays_18
  | succ r ih =>
    intro m h hm S
    refine ex_iload_n 0 dX3_liveDays_2 rfl rfl ?_
    refine ex_iload_n 2 dX3_liveDays_3 rfl rfl ?_
    refine ex_icmp_ge (tgt := 18) dX3_liveDays_4 (by decide) (fun c_4 => absurd c_4 (fun q9 => absurd ((nI_leI (by omega) (by omega)).mp q9) (by omega))) (fun c_4 => ?_)
    refine ex_aload_n 1 dX3_liveDays_7 rfl rfl ?_
    refine exS_call (As := []) (r0 := (some (.int (gv (dayR (itA m A)))))) (B := dayA (itA m A)) vl_X3_111 rfl S (fun S1 => c_liveDay S1 (itA_wf w0 m) (by rw [itA_u (by decide)]; exact hm0)) rfl (by decide) (Nat.le_of_ble_eq_true rfl) (Nat.le_refl _) (Nat.le_refl _) rfl dX3_liveDays_8 (fun h S => ?_)
    refine ex_pop dX3_liveDays_11 rfl ?_
    refine ex_iinc (v := nI (m + 1)) (lv' := [(2, .int (nI (m + 1))), (0, .ref o), (1, .int (nI D))]) 0 dX3_liveDays_12 rfl (nI_1 m) (by decide) rfl ?_
    refine ex_goto (tgt := 2) dX3_liveDays_15 (by decide) ?_
    have e2 := ih (m + 1) h (by omega) S
    refine ex_lv (lv2 := [(2, .int (nI (m + 1))), (0, .ref o), (1, .int (nI D))]) [0, 1, 2] rfl ?_
    exact e2
end
section
/-! more rows over a state: its size, a copy of settings, calls of a person, the array of the people -/
theorem SF.to {G : GG} {h0 h : HP} {o : Nat} {π : Nat → Nat} {A B : AS} (S : SF G h0 h o π A) (e1 : B.1 = A.1) (e2 : B.2.1 = A.2.1) (e3 : B.2.2.1 = A.2.2.1) (e4 : ∀ i, i < 17 → i ≠ 7 → i ≠ 9 → i ≠ 10 → B.2.2.2.1 i = A.2.2.2.1 i) (e5 : ∀ j k, j < A.1 → k < 6 → B.2.2.2.2 j k = A.2.2.2.2 j k) : SF G h0 h o π B := ⟨S.1.to e1 e2 e3 e4 e5, S.2⟩
theorem SP.wit {G : GG} {h : HP} {o : Nat} {π : Nat → Nat} {A : AS} (S : SP G h o π A) : ∃ w : Nat → Nat → Int32, ∀ j, j < 8 → h (o + 3 + π j) = some (.inr (2, pF (w j))) ∧ (j < A.1 → ∀ k, k < 6 → w j k = A.2.2.2.2 j k) := by
  have h1 : ∀ j : Nat, ∃ w : Nat → Int32, j < 8 → h (o + 3 + π j) = some (.inr (2, pF w)) ∧ (j < A.1 → ∀ k, k < 6 → w k = A.2.2.2.2 j k) := by
    intro j
    by_cases hj : j < 8
    · obtain ⟨w, w1, w2⟩ := S.2.2.2.2.2 j hj
      exact ⟨w, fun _ => ⟨w1, w2⟩⟩
    · exact ⟨fun _ => 0, fun q => absurd q hj⟩
  exact ⟨fun j => Classical.choose (h1 j), fun j hj => Classical.choose_spec (h1 j) hj⟩
theorem SF.putN {G : GG} {h0 h : HP} {o : Nat} {π : Nat → Nat} {n n1 : Nat} {g : Option Nat} {t : Nat} {u : Nat → Int32} {q : Nat → Nat → Int32} {fs : List Value} (S : SF G h0 h o π (n, g, t, u, q)) (hk : fs = stF o (n1, g, t, u, q)) : ∃ w : Nat → Nat → Int32, (∀ j k, j < n → j < 8 → k < 6 → w j k = q j k) ∧ SF G h0 (hu h o (.inr (3, fs))) o π (n1, g, t, u, w) := by
  obtain ⟨w, hw⟩ := S.1.wit
  obtain ⟨⟨s1, ⟨f, s2, s2'⟩, ⟨r, s3, s3'⟩, s4, s5, s6⟩, s7⟩ := S
  refine ⟨w, fun j k hj h8 hk => (hw j h8).2 hj k hk, ⟨by rw [hu_s, hk]; rfl, ⟨f, by rw [hu_n (by omega)]; exact s2, s2'⟩, ⟨r, by rw [hu_n (by omega)]; exact s3, s3'⟩, s4, s5, fun j hj => ?_⟩, fun a ha => by rw [hu_n (by omega)]; exact s7 a ha⟩
  exact ⟨w j, by rw [hu_n (by omega)]; exact (hw j hj).1, fun _ k _ => rfl⟩
theorem SF.cpy {G : GG} {h0 h : HP} {o : Nat} {π : Nat → Nat} {n : Nat} {g : Option Nat} {t : Nat} {u ub : Nat → Int32} {q : Nat → Nat → Int32} {f1 : Nat → Int32} (S : SF G h0 h o π (n, g, t, u, q)) (hf : ∀ i, i < 6 → f1 i = ub i) : SF G h0 (hu h (o + 1) (aA G 0 6 f1)) o π (n, g, t, (fun i => if i < 6 then ub i else u i), q) := by
  obtain ⟨⟨s1, -, ⟨r, s3, s3'⟩, s4, s5, s6⟩, s7⟩ := S
  refine ⟨⟨?_, ⟨_, hu_s, fun b hb => ?_⟩, ⟨r, by rw [hu_n (by omega)]; exact s3, s3'⟩, s4, s5, fun j hj => ?_⟩, fun a ha => by rw [hu_n (by omega)]; exact s7 a ha⟩
  · rw [hu_n (by omega), s1]
    rfl
  · show f1 b = if b < 6 then ub b else u b
    rw [if_pos hb, hf b hb]
  · obtain ⟨w, w1, w2⟩ := s6 j hj
    exact ⟨w, by rw [hu_n (by omega)]; exact w1, w2⟩
section ES2
variable {G : GG} {l : Launch} {X : CT} {Q : State → Prop} {d mc ms cs sl : Nat} {cc : ByteArray} {own : String} {nL : Nat} {ret : Option FieldType} {h h0 : HP} {z pc : Nat} {lv : List (Nat × Value)} {st : List Value} {o : Nat} {π : Nat → Nat} {n : Nat} {g : Option Nat} {t : Nat} {u : Nat → Int32} {q : Nat → Nat → Int32}
theorem ex_topi {x y : Int32} (e : x = y) (k1 : ex G l X Q d mc ms cs sl cc own nL ret h z pc lv (.int y :: st)) : ex G l X Q d mc ms cs sl cc own nL ret h z pc lv (.int x :: st) := by
  subst e
  exact k1
theorem exS_putN {idx n1 : Nat} {v : Int32} (S : SF G h0 h o π (n, g, t, u, q)) (fl : FL own idx 3 2 .int false) (hv : v = nI n1) (dg : decode cc pc = .ok (.putfield idx, 3)) (k1 : ∀ (h : HP) (w : Nat → Nat → Int32), (∀ j k, j < n → j < 8 → k < 6 → w j k = q j k) → SF G h0 h o π (n1, g, t, u, w) → ex G l X Q d mc ms cs sl cc own nL ret h z (pc + 3) lv st) : ex G l X Q d mc ms cs sl cc own nL ret h z pc lv (.int v :: .ref o :: st) := by
  subst hv
  obtain ⟨w, hw, S1⟩ := S.putN (n1 := n1) (fs := (stF o (n, g, t, u, q)).set 2 (.int (nI n1))) rfl
  exact ex_put fl S.ob rfl rfl (by show 2 < 13; decide) dg (k1 _ w hw S1)
theorem exS_cpy {idx o2 : Nat} {π2 : Nat → Nat} {B : AS} (w1 : Cond.methodLink own idx arraycopyName ∈ TW) (w2 : Cond.native arraycopyName ∈ TW) (w3 : Cond.static arraycopyName ∈ TW) (w4 : Cond.initialized "java/lang/System" ∈ TW) (S : SF G h0 h o π (n, g, t, u, q)) (S2 : SP G h o2 π2 B) (hd : 1 ≤ d) (hst : (st.map fun v => v.category).sum ≤ 8) (dg : decode cc pc = .ok (.invokestatic idx, 3)) (k1 : ∀ h : HP, SF G h0 h o π (n, g, t, (fun i => if i < 6 then B.2.2.2.1 i else u i), q) → ex G l X Q d mc ms cs sl cc own nL ret h z (pc + 3) lv st) : ex G l X Q d mc ms cs sl cc own nL ret h z pc lv (.int (nI 6) :: .int (nI 0) :: .ref (o + 1) :: .int (nI 0) :: .ref (o2 + 1) :: st) := by
  obtain ⟨f, hf, hf2⟩ := S.1.2.1
  obtain ⟨f2, hg, hg2⟩ := S2.2.1
  refine ex_copy w1 w2 w3 w4 hg hf (Nat.le_refl _) (Nat.le_refl _) (by decide) hd hst dg (k1 _ (S.cpy fun i hi => ?_))
  rw [← hg2 i hi]
  unfold va_cpy
  simp [hi]
theorem exP_call {idx m d1 ny j : Nat} {y : MethodName} {cy : ByteArray} {ry : Option FieldType} {As : List Value} {r0 : Option Value} {π1 : Nat → Nat} {A B : AS} {st0 : List Value} (V : VV own idx y cy ny ry m) (hC : y.cls = RX2) (S : SF G h0 h o π A) (h8 : j < 8) (hn1 : j < A.1) (K : SP G h o π A → Ct G l d1 0 0 y cy ny ry (.ref (o + 3 + π j) :: As) h z (pS G r0 h z o π1 B)) (hn : As.length = m) (hd : d1 + 1 ≤ d) (hst : (st.map fun v => v.category).sum ≤ 8) (hc : cs ≤ mc) (hs : sl ≤ ms) (stk : st0 = As.reverse ++ .ref (o + 3 + π j) :: st) (dg : decode cc pc = .ok (.invokevirtual idx, 3)) (k1 : ∀ h : HP, SF G h0 h o π1 B → ex G l X Q d mc ms cs sl cc own nL ret h z (pc + 3) lv (r0.toList ++ st)) : ex G l X Q d mc ms cs sl cc own nL ret h z pc lv st0 :=
  ex_callV V (ci := 2) (by rw [hC]; rfl) (K S.1) (S.pe h8 hn1) hn hd hst hc hs stk dg (fun r h1 z1 hp => by obtain ⟨rfl, rfl, S1⟩ := hp; exact k1 h1 (S.trans S1))
end ES2
theorem ac_1 : Cond.methodLink RX3 64 arraycopyName ∈ TW := tw_t 195 (by decide +kernel) (by decide +kernel)
theorem ac_2 : Cond.native arraycopyName ∈ TW := tw_t 197 (by decide +kernel) (by decide +kernel)
theorem ac_3 : Cond.static arraycopyName ∈ TW := tw_t 196 (by decide +kernel) (by decide +kernel)
theorem ac_4 : Cond.initialized "java/lang/System" ∈ TW := tw_t 6 (by decide +kernel) (by decide +kernel)
end
section
set_option maxRecDepth 20000 in
set_option maxHeartbeats 2000000 in
theorem c_mayAppeal {G : GG} {l : Launch} {h0 : HP} {z o : Nat} {π : Nat → Nat} {n : Nat} {g : Option Nat} {t : Nat} {u : Nat → Int32} {q : Nat → Nat → Int32} (S0 : SP G h0 o π (n, g, t, u, q)) {j : Nat} (h8 : j < 8) (hn : j < n) (gw : ∀ i, g = some i → i < n) (n8 : n ≤ 8) : Ct G l 1 0 0 yX3_mayAppeal cX3_mayAppeal 3 (some .boolean) [.ref o, .int (nI j)] h0 z (p0 (.int (mayI n g u q j)) h0 z) := by
  refine Ct.intro (lv := [(0, .ref o), (1, .int (nI j))]) (by decide +kernel) (Nat.le_of_ble_eq_true rfl) rfl (fun X Q hQ hnm => ?_)
  have S := S0.sf
  rcases g with _ | i
  · refine ex_aload_n 0 dX3_mayAppeal_0 rfl rfl ?_
    refine ex_iload_n 1 dX3_mayAppeal_1 rfl rfl ?_
    refine ex_call0 (As := [.int (nI j)]) (v := .ref (o + 3 + π j)) (ci := 3) vl_X3_70 rfl (c_at S.1 h8 hn n8) S.ob rfl (by decide) (Nat.le_of_ble_eq_true rfl) (Nat.le_refl _) (Nat.le_refl _) rfl dX3_mayAppeal_2 ?_
    refine ex_astore_n (lv' := [(2, .ref (o + 3 + π j)), (0, .ref o), (1, .int (nI j))]) dX3_mayAppeal_5 rfl (by decide) rfl ?_
    refine ex_aload_n 0 dX3_mayAppeal_6 rfl rfl ?_
    refine ex_ifnull dX3_mayAppeal_7 ?_
    refine ex_aload_n 1 dX3_mayAppeal_10 rfl rfl ?_
    refine ex_get (v := .int (-6)) fl_X3_36 S.ob rfl dX3_mayAppeal_11 ?_
    refine ex_bipush (v := (-6)) dX3_mayAppeal_14 (by decide) ?_
    refine ex_icmp_eq (tgt := 52) dX3_mayAppeal_16 (by decide) (fun c_16 => ?_) (fun c_16 => absurd (rfl) c_16)
    refine ex_iconst (v := nI 0) dX3_mayAppeal_52 (by decide) ?_
    exact ex_zret hQ rfl (by decide) ⟨by simp [mayI], rfl, rfl⟩ dX3_mayAppeal_53
  · have gi := gw i rfl
    refine ex_aload_n 0 dX3_mayAppeal_0 rfl rfl ?_
    refine ex_iload_n 1 dX3_mayAppeal_1 rfl rfl ?_
    refine ex_call0 (As := [.int (nI j)]) (v := .ref (o + 3 + π j)) (ci := 3) vl_X3_70 rfl (c_at S.1 h8 hn n8) S.ob rfl (by decide) (Nat.le_of_ble_eq_true rfl) (Nat.le_refl _) (Nat.le_refl _) rfl dX3_mayAppeal_2 ?_
    refine ex_astore_n (lv' := [(2, .ref (o + 3 + π j)), (0, .ref o), (1, .int (nI j))]) dX3_mayAppeal_5 rfl (by decide) rfl ?_
    refine ex_aload_n 0 dX3_mayAppeal_6 rfl rfl ?_
    refine ex_ifnull dX3_mayAppeal_7 ?_
    refine ex_aload_n 1 dX3_mayAppeal_10 rfl rfl ?_
    refine ex_get (v := .int (nI i)) fl_X3_36 S.ob rfl dX3_mayAppeal_11 ?_
    refine ex_bipush (v := (-6)) dX3_mayAppeal_14 (by decide) ?_
    refine ex_icmp_eq (tgt := 52) dX3_mayAppeal_16 (by decide) (fun c_16 => absurd c_16 (nI_n6 (by omega))) (fun c_16 => ?_)
    refine ex_iload_n 2 dX3_mayAppeal_19 rfl rfl ?_
    refine ex_aload_n 1 dX3_mayAppeal_20 rfl rfl ?_
    refine ex_get (v := .int (nI i)) fl_X3_36 S.ob rfl dX3_mayAppeal_21 ?_
    refine ex_icmp_eq (tgt := 52) dX3_mayAppeal_24 (by decide) (fun c_24 => ?_) (fun c_24 => ?_)
    · have n_24 : j = i := (nI_eq (by omega) (by omega)).mp c_24
      refine ex_iconst (v := nI 0) dX3_mayAppeal_52 (by decide) ?_
      exact ex_zret hQ rfl (by decide) ⟨by first | (simp [mayI, bB_0 c_32, c_45, Ne.symm n_24]; done) | (simp [mayI, bB_0 c_32, c_45]; done) | (simp [mayI, bB_1 c_32]; done) | (simp [mayI, n_24]; done) | (simp [mayI, bB_0 c_32, c_45]; omega), rfl, rfl⟩ dX3_mayAppeal_53
    · have n_24 : ¬ (j = i) := fun q9 => c_24 ((nI_eq (by omega) (by omega)).mpr q9)
      refine ex_aload_n 1 dX3_mayAppeal_27 rfl rfl ?_
      refine ex_aload_n 0 dX3_mayAppeal_28 rfl rfl ?_
      refine ex_call0 (As := [.ref (o + 3 + π j)]) (v := .int (bB u q j)) (ci := 3) vl_X3_82 rfl (c_isBarred S.1 h8 hn) S.ob rfl (by decide) (Nat.le_of_ble_eq_true rfl) (Nat.le_refl _) (Nat.le_refl _) rfl dX3_mayAppeal_29 ?_
      refine ex_if_ne (tgt := 52) dX3_mayAppeal_32 (by decide) (fun c_32 => ?_) (fun c_32 => ?_)
      · refine ex_iconst (v := nI 0) dX3_mayAppeal_52 (by decide) ?_
        exact ex_zret hQ rfl (by decide) ⟨by first | (simp [mayI, bB_0 c_32, c_45, Ne.symm n_24]; done) | (simp [mayI, bB_0 c_32, c_45]; done) | (simp [mayI, bB_1 c_32]; done) | (simp [mayI, n_24]; done) | (simp [mayI, bB_0 c_32, c_45]; omega), rfl, rfl⟩ dX3_mayAppeal_53
      · refine ex_aload_n 0 dX3_mayAppeal_35 rfl rfl ?_
        refine ex_get (v := .int (q j 3)) fl_X3_86 (S.pe h8 hn) rfl dX3_mayAppeal_36 ?_
        refine ex_aload_n 1 dX3_mayAppeal_39 rfl rfl ?_
        refine ex_get (v := .ref (o + 1)) fl_X3_18 S.ob rfl dX3_mayAppeal_40 ?_
        refine ex_iconst (v := nI 2) dX3_mayAppeal_43 (by decide) ?_
        refine exS_ld (i := 2) (v := u 2) S rfl (by decide) rfl dX3_mayAppeal_44 ?_
        refine ex_icmp_lt (tgt := 52) dX3_mayAppeal_45 (by decide) (fun c_45 => ?_) (fun c_45 => ?_)
        · refine ex_iconst (v := nI 0) dX3_mayAppeal_52 (by decide) ?_
          exact ex_zret hQ rfl (by decide) ⟨by first | (simp [mayI, bB_0 c_32, c_45, Ne.symm n_24]; done) | (simp [mayI, bB_0 c_32, c_45]; done) | (simp [mayI, bB_1 c_32]; done) | (simp [mayI, n_24]; done) | (simp [mayI, bB_0 c_32, c_45]; omega), rfl, rfl⟩ dX3_mayAppeal_53
        · refine ex_iconst (v := nI 1) dX3_mayAppeal_48 (by decide) ?_
          refine ex_goto (tgt := 53) dX3_mayAppeal_49 (by decide) ?_
          exact ex_zret hQ rfl (by decide) ⟨by first | (simp [mayI, bB_0 c_32, c_45, Ne.symm n_24]; done) | (simp [mayI, bB_0 c_32, c_45]; done) | (simp [mayI, bB_1 c_32]; done) | (simp [mayI, n_24]; done) | (simp [mayI, bB_0 c_32, c_45]; omega), rfl, rfl⟩ dX3_mayAppeal_53

set_option maxRecDepth 20000 in
set_option maxHeartbeats 2000000 in
theorem c_hearAppeal {G : GG} {l : Launch} {h0 : HP} {z o : Nat} {π : Nat → Nat} {n i : Nat} {t : Nat} {u : Nat → Int32} {q : Nat → Nat → Int32} (S0 : SP G h0 o π (n, some i, t, u, q)) {j : Nat} (h8 : j < 8) (hn : j < n) (hi : i < n) (n8 : n ≤ 8) : Ct G l 2 0 0 yX3_hearAppeal cX3_hearAppeal 4 (some .boolean) [.ref o, .int (nI j)] h0 z (pS G (some (.int (if (appA n i t u q j).2 = true then nI 1 else nI 0))) h0 z o π (appA n i t u q j).1) := by
  refine Ct.intro (lv := [(0, .ref o), (1, .int (nI j))]) (by decide +kernel) (Nat.le_of_ble_eq_true rfl) rfl (fun X Q hQ hnm => ?_)
  have S := S0.sf
  refine ex_aload_n 0 dX3_hearAppeal_0 rfl rfl ?_
  refine ex_iload_n 1 dX3_hearAppeal_1 rfl rfl ?_
  refine ex_call0 (As := [.int (nI j)]) (v := .ref (o + 3 + π j)) (ci := 3) vl_X3_70 rfl (c_at S.1 h8 hn n8) S.ob rfl (by decide) (Nat.le_of_ble_eq_true rfl) (Nat.le_refl _) (Nat.le_refl _) rfl dX3_hearAppeal_2 ?_
  refine ex_astore_n (lv' := [(2, .ref (o + 3 + π j)), (0, .ref o), (1, .int (nI j))]) dX3_hearAppeal_5 rfl (by decide) rfl ?_
  refine ex_aload_n 1 dX3_hearAppeal_6 rfl rfl ?_
  refine ex_aload_n 1 dX3_hearAppeal_7 rfl rfl ?_
  refine ex_get (v := .int (nI i)) fl_X3_36 S.ob rfl dX3_hearAppeal_8 ?_
  refine ex_call0 (As := [.int (nI i)]) (v := .ref (o + 3 + π i)) (ci := 3) vl_X3_70 rfl (c_at S.1 (by omega) hi n8) S.ob rfl (by decide) (Nat.le_of_ble_eq_true rfl) (Nat.le_refl _) (Nat.le_refl _) rfl dX3_hearAppeal_11 ?_
  refine ex_astore_n (lv' := [(3, .ref (o + 3 + π i)), (2, .ref (o + 3 + π j)), (0, .ref o), (1, .int (nI j))]) dX3_hearAppeal_14 rfl (by decide) rfl ?_
  refine ex_aload_n 1 dX3_hearAppeal_15 rfl rfl ?_
  refine ex_ifnull dX3_hearAppeal_16 ?_
  refine ex_aload_n 0 dX3_hearAppeal_19 rfl rfl ?_
  refine ex_ifnonnull (tgt := 25) dX3_hearAppeal_20 (by decide) ?_
  refine ex_aload_n 1 dX3_hearAppeal_25 rfl rfl ?_
  refine ex_dup dX3_hearAppeal_26 rfl ?_
  refine ex_get (v := .int (q j 3)) fl_X3_86 (S.pe h8 hn) rfl dX3_hearAppeal_27 ?_
  refine ex_aload_n 2 dX3_hearAppeal_30 rfl rfl ?_
  refine ex_get (v := .ref (o + 1)) fl_X3_18 S.ob rfl dX3_hearAppeal_31 ?_
  refine ex_iconst (v := nI 2) dX3_hearAppeal_34 (by decide) ?_
  refine exS_ld (i := 2) (v := u 2) S rfl (by decide) rfl dX3_hearAppeal_35 ?_
  refine ex_isub dX3_hearAppeal_36 ?_
  refine exP_put S h8 hn fl_X3_86 (by decide) rfl dX3_hearAppeal_37 (fun h S => ?_)
  refine ex_aload_n 2 dX3_hearAppeal_40 rfl rfl ?_
  refine ex_dup dX3_hearAppeal_41 rfl ?_
  refine ex_get (v := .int (u 11)) fl_X3_42 S.ob rfl dX3_hearAppeal_42 ?_
  refine ex_aload_n 2 dX3_hearAppeal_45 rfl rfl ?_
  refine ex_get (v := .ref (o + 1)) fl_X3_18 S.ob rfl dX3_hearAppeal_46 ?_
  refine ex_iconst (v := nI 2) dX3_hearAppeal_49 (by decide) ?_
  refine exS_ld (i := 2) (v := u 2) S rfl (by decide) rfl dX3_hearAppeal_50 ?_
  refine ex_iadd dX3_hearAppeal_51 ?_
  refine exS_putU (i := 11) S fl_X3_42 (by decide) (by decide) rfl dX3_hearAppeal_52 (fun h S => ?_)
  refine ex_aload_n 2 dX3_hearAppeal_55 rfl rfl ?_
  refine ex_aload_n 1 dX3_hearAppeal_56 rfl rfl ?_
  refine ex_call0 (As := [.ref (o + 3 + π j)]) (v := .int (scI (upd u 11 ((u 11) + (u 2))) (uq q j 3 ((q j 3) - (u 2))) j)) (ci := 3) vl_X3_101 rfl (c_score S.1 h8 hn) S.ob rfl (by decide) (Nat.le_of_ble_eq_true rfl) (Nat.le_refl _) (Nat.le_refl _) rfl dX3_hearAppeal_57 ?_
  refine ex_aload_n 2 dX3_hearAppeal_60 rfl rfl ?_
  refine ex_aload_n 0 dX3_hearAppeal_61 rfl rfl ?_
  refine ex_call0 (As := [.ref (o + 3 + π i)]) (v := .int (scI (upd u 11 ((u 11) + (u 2))) (uq q j 3 ((q j 3) - (u 2))) i)) (ci := 3) vl_X3_101 rfl (c_score S.1 (by omega) hi) S.ob rfl (by decide) (Nat.le_of_ble_eq_true rfl) (Nat.le_refl _) (Nat.le_refl _) rfl dX3_hearAppeal_62 ?_
  refine ex_icmp_le (tgt := 75) dX3_hearAppeal_65 (by decide) (fun c_65 => ?_) (fun c_65 => ?_)
  · refine ex_aload_n 2 dX3_hearAppeal_75 rfl rfl ?_
    refine ex_aload_n 1 dX3_hearAppeal_76 rfl rfl ?_
    refine exS_call (As := [.ref (o + 3 + π j)]) (r0 := none) (B := (n, (some i), t, (upd (upd u 11 ((u 11) + (u 2))) 12 (u 12 + nI 1)), (uq (uq q j 3 ((q j 3) - (u 2))) j 2 (q j 2 + nI 1)))) vl_X3_108 rfl S (fun S1 => c_scratch S1 h8 hn) rfl (by decide) (Nat.le_of_ble_eq_true rfl) (Nat.le_refl _) (Nat.le_refl _) rfl dX3_hearAppeal_77 (fun h S => ?_)
    refine ex_iconst (v := nI 0) dX3_hearAppeal_80 (by decide) ?_
    exact ex_zret hQ rfl (by decide) ⟨by unfold appA; rw [if_neg (show ¬ scI u q i < scI u q j from Int32.not_lt.mpr c_65)]; rfl, rfl, by unfold appA; rw [if_neg (show ¬ scI u q i < scI u q j from Int32.not_lt.mpr c_65)]; exact S⟩ dX3_hearAppeal_81
  · refine ex_aload_n 2 dX3_hearAppeal_68 rfl rfl ?_
    refine ex_iload_n 3 dX3_hearAppeal_69 rfl rfl ?_
    refine exS_call (As := [.int (nI j)]) (r0 := none) (B := (n, none, j, (upd (upd u 11 ((u 11) + (u 2))) 14 (u 14 + nI 1)), (uq q j 3 ((q j 3) - (u 2))))) vl_X3_105 rfl S (fun S1 => c_depose S1) rfl (by decide) (Nat.le_of_ble_eq_true rfl) (Nat.le_refl _) (Nat.le_refl _) rfl dX3_hearAppeal_70 (fun h S => ?_)
    refine ex_iconst (v := nI 1) dX3_hearAppeal_73 (by decide) ?_
    exact ex_zret hQ rfl (by decide) ⟨by unfold appA; rw [if_pos (show scI u q i < scI u q j from Int32.not_le.mp c_65)]; rfl, rfl, by unfold appA; rw [if_pos (show scI u q i < scI u q j from Int32.not_le.mp c_65)]; exact S⟩ dX3_hearAppeal_74

set_option maxRecDepth 20000 in
set_option maxHeartbeats 2000000 in
theorem c_begin {G : GG} {l : Launch} {h0 : HP} {z o : Nat} {π : Nat → Nat} {n : Nat} {g : Option Nat} {t : Nat} {u : Nat → Int32} {q : Nat → Nat → Int32} (S0 : SP G h0 o π (n, g, t, u, q)) {j : Nat} (h8 : j < 8) (hn : j < n) {x y : Int32} : Ct G l 0 0 0 yX2_begin cX2_begin 3 none [.ref (o + 3 + π j), .int x, .int y] h0 z (pS G none h0 z o π (n, g, t, u, (uq (uq (uq (uq (uq (uq q j 0 x) j 1 y) j 2 (nI 0)) j 3 (nI 0)) j 4 (nI 0)) j 5 (nI 0)))) := by
  refine Ct.intro (lv := [(0, .ref (o + 3 + π j)), (1, .int x), (2, .int y)]) (by decide +kernel) (Nat.le_of_ble_eq_true rfl) rfl (fun X Q hQ hnm => ?_)
  have S := S0.sf
  refine ex_aload_n 0 dX2_begin_0 rfl rfl ?_
  refine ex_iload_n 1 dX2_begin_1 rfl rfl ?_
  refine exP_put S h8 hn fl_X2_7 (by decide) rfl dX2_begin_2 (fun h S => ?_)
  refine ex_aload_n 0 dX2_begin_5 rfl rfl ?_
  refine ex_iload_n 2 dX2_begin_6 rfl rfl ?_
  refine exP_put S h8 hn fl_X2_13 (by decide) rfl dX2_begin_7 (fun h S => ?_)
  refine ex_aload_n 0 dX2_begin_10 rfl rfl ?_
  refine ex_iconst (v := nI 0) dX2_begin_11 (by decide) ?_
  refine exP_put S h8 hn fl_X2_16 (by decide) rfl dX2_begin_12 (fun h S => ?_)
  refine ex_aload_n 0 dX2_begin_15 rfl rfl ?_
  refine ex_iconst (v := nI 0) dX2_begin_16 (by decide) ?_
  refine exP_put S h8 hn fl_X2_19 (by decide) rfl dX2_begin_17 (fun h S => ?_)
  refine ex_aload_n 0 dX2_begin_20 rfl rfl ?_
  refine ex_iconst (v := nI 0) dX2_begin_21 (by decide) ?_
  refine exP_put S h8 hn fl_X2_22 (by decide) rfl dX2_begin_22 (fun h S => ?_)
  refine ex_aload_n 0 dX2_begin_25 rfl rfl ?_
  refine ex_iconst (v := nI 0) dX2_begin_26 (by decide) ?_
  refine exP_put S h8 hn fl_X2_25 (by decide) rfl dX2_begin_27 (fun h S => ?_)
  exact ex_vret hQ rfl ⟨rfl, rfl, S⟩ dX2_begin_30

set_option maxRecDepth 20000 in
set_option maxHeartbeats 2000000 in
theorem c_admit {G : GG} {l : Launch} {h0 : HP} {z o : Nat} {π : Nat → Nat} {n : Nat} {g : Option Nat} {t : Nat} {u : Nat → Int32} {q : Nat → Nat → Int32} (S0 : SP G h0 o π (n, g, t, u, q)) (h8 : n < 8) {x y : Int32} : Ct G l 1 0 0 yX3_admit cX3_admit 4 none [.ref o, .int x, .int y] h0 z (pS G none h0 z o π (admA (n, g, t, u, q) x y)) := by
  refine Ct.intro (lv := [(0, .ref o), (1, .int x), (2, .int y)]) (by decide +kernel) (Nat.le_of_ble_eq_true rfl) rfl (fun X Q hQ hnm => ?_)
  have S := S0.sf
  refine ex_aload_n 0 dX3_admit_0 rfl rfl ?_
  refine ex_get (v := .int (nI n)) fl_X3_29 S.ob rfl dX3_admit_1 ?_
  refine ex_bipush (v := nI 8) dX3_admit_4 (by decide) ?_
  refine ex_icmp_lt (tgt := 10) dX3_admit_6 (by decide) (fun c_6 => ?_) (fun c_6 => absurd ((nI_ltI (by omega) (by omega)).mpr (by omega)) c_6)
  refine ex_aload_n 0 dX3_admit_10 rfl rfl ?_
  refine ex_dup dX3_admit_11 rfl ?_
  refine ex_get (v := .int (nI n)) fl_X3_29 S.ob rfl dX3_admit_12 ?_
  refine ex_iconst (v := nI 1) dX3_admit_15 (by decide) ?_
  refine ex_iaddN dX3_admit_16 ?_
  refine exS_putN (n1 := n + 1) S fl_X3_29 rfl dX3_admit_17 (fun h w hw S => ?_)
  refine ex_aload_n 0 dX3_admit_20 rfl rfl ?_
  refine ex_aload_n 0 dX3_admit_21 rfl rfl ?_
  refine ex_get (v := .int (nI (n + 1))) fl_X3_29 S.ob rfl dX3_admit_22 ?_
  refine ex_iconst (v := nI 1) dX3_admit_25 (by decide) ?_
  refine ex_isub dX3_admit_26 ?_
  refine ex_topi (show nI (n + 1) - nI 1 = nI n from nI_pred n) ?_
  have n9 : n + 1 ≤ 8 := by omega
  refine ex_call0 (As := [.int (nI n)]) (v := .ref (o + 3 + π n)) (ci := 3) vl_X3_70 rfl (c_at S.1 h8 (by omega) n9) S.ob rfl (by decide) (Nat.le_of_ble_eq_true rfl) (Nat.le_refl _) (Nat.le_refl _) rfl dX3_admit_27 ?_
  refine ex_astore_n (lv' := [(3, .ref (o + 3 + π n)), (0, .ref o), (1, .int x), (2, .int y)]) dX3_admit_30 rfl (by decide) rfl ?_
  refine ex_aload_n 0 dX3_admit_31 rfl rfl ?_
  refine ex_ifnull dX3_admit_32 ?_
  refine ex_aload_n 0 dX3_admit_35 rfl rfl ?_
  refine ex_iload_n 2 dX3_admit_36 rfl rfl ?_
  refine ex_iload_n 3 dX3_admit_37 rfl rfl ?_
  refine exP_call (As := [.int x, .int y]) (r0 := none) (B := ((n + 1), g, t, u, (uq (uq (uq (uq (uq (uq w n 0 x) n 1 y) n 2 (nI 0)) n 3 (nI 0)) n 4 (nI 0)) n 5 (nI 0)))) vl_X3_89 rfl S h8 (Nat.lt_succ_self n) (fun S1 => c_begin S1 h8 (Nat.lt_succ_self n)) rfl (by decide) (Nat.le_of_ble_eq_true rfl) (Nat.le_refl _) (Nat.le_refl _) rfl dX3_admit_38 (fun h S => ?_)
  exact ex_vret hQ rfl ⟨rfl, rfl, S.to rfl rfl rfl (fun _ _ _ _ _ => rfl) (fun a b ha hb => by
      have ha : a < n + 1 := ha
      show (if a = n then _ else _) = _
      by_cases e : a = n
      · subst e
        rcases (show b = 0 ∨ b = 1 ∨ b = 2 ∨ b = 3 ∨ b = 4 ∨ b = 5 by omega) with rfl | rfl | rfl | rfl | rfl | rfl <;> simp [uq, nI_0]
      · rw [if_neg e]
        simp only [uq, e, if_false]
        rw [← hw a b (by omega) (by omega) hb]
        split <;> (try split) <;> (try split) <;> (try split) <;> (try split) <;> (try split) <;> rfl)⟩ dX3_admit_41

set_option maxRecDepth 20000 in
set_option maxHeartbeats 2000000 in
theorem c_pam {G : GG} {l : Launch} {h0 : HP} {z o : Nat} {p x y : Nat} (hp : p < 9) (hx : x < 9) (hy : y < 9) : Ct G l 0 0 0 yX3_placeAfterMove cX3_placeAfterMove 4 (some .int) [.ref o, .int (nI p), .int (nI x), .int (nI y)] h0 z (p0 (.int (nI (mvP p x y))) h0 z) := by
  refine Ct.intro (lv := [(0, .ref o), (1, .int (nI p)), (2, .int (nI x)), (3, .int (nI y))]) (by decide +kernel) (Nat.le_of_ble_eq_true rfl) rfl (fun X Q hQ hnm => ?_)
  refine ex_iload_n 1 dX3_placeAfterMove_0 rfl rfl ?_
  refine ex_iload_n 2 dX3_placeAfterMove_1 rfl rfl ?_
  refine ex_icmp_ne (tgt := 7) dX3_placeAfterMove_2 (by decide) (fun c_2 => ?_) (fun c_2 => ?_)
  · have n_2 : ¬ (p = x) := fun q9 => c_2 ((nI_eq (by omega) (by omega)).mpr q9)
    refine ex_iload_n 1 dX3_placeAfterMove_7 rfl rfl ?_
    refine ex_iload_n 2 dX3_placeAfterMove_8 rfl rfl ?_
    refine ex_icmp_le (tgt := 21) dX3_placeAfterMove_9 (by decide) (fun c_9 => ?_) (fun c_9 => ?_)
    · have n_9 : p ≤ x := (nI_leI (by omega) (by omega)).mp c_9
      refine ex_iload_n 1 dX3_placeAfterMove_21 rfl rfl ?_
      refine ex_iload_n 2 dX3_placeAfterMove_22 rfl rfl ?_
      refine ex_icmp_ge (tgt := 35) dX3_placeAfterMove_23 (by decide) (fun c_23 => ?_) (fun c_23 => ?_)
      · have n_23 : x ≤ p := (nI_leI (by omega) (by omega)).mp c_23
        refine ex_iload_n 1 dX3_placeAfterMove_35 rfl rfl ?_
        exact ex_iret hQ rfl ⟨congrArg (fun a => some (Value.int (nI a))) (by unfold mvP; first | (rw [if_pos (by omega)]; done) | (rw [if_neg (by omega), if_pos (by omega)]; done) | (rw [if_neg (by omega), if_neg (by omega), if_pos (by omega)]; done) | (rw [if_neg (by omega), if_neg (by omega), if_neg (by omega)]; done)), rfl, rfl⟩ dX3_placeAfterMove_36
      · have n_23 : ¬ (x ≤ p) := fun q9 => c_23 ((nI_leI (by omega) (by omega)).mpr q9)
        refine ex_iload_n 1 dX3_placeAfterMove_26 rfl rfl ?_
        refine ex_iload_n 3 dX3_placeAfterMove_27 rfl rfl ?_
        refine ex_icmp_lt (tgt := 35) dX3_placeAfterMove_28 (by decide) (fun c_28 => ?_) (fun c_28 => ?_)
        · have n_28 : p < y := (nI_ltI (by omega) (by omega)).mp c_28
          refine ex_iload_n 1 dX3_placeAfterMove_35 rfl rfl ?_
          exact ex_iret hQ rfl ⟨congrArg (fun a => some (Value.int (nI a))) (by unfold mvP; first | (rw [if_pos (by omega)]; done) | (rw [if_neg (by omega), if_pos (by omega)]; done) | (rw [if_neg (by omega), if_neg (by omega), if_pos (by omega)]; done) | (rw [if_neg (by omega), if_neg (by omega), if_neg (by omega)]; done)), rfl, rfl⟩ dX3_placeAfterMove_36
        · have n_28 : ¬ (p < y) := fun q9 => c_28 ((nI_ltI (by omega) (by omega)).mpr q9)
          refine ex_iload_n 1 dX3_placeAfterMove_31 rfl rfl ?_
          refine ex_iconst (v := nI 1) dX3_placeAfterMove_32 (by decide) ?_
          refine ex_iaddN dX3_placeAfterMove_33 ?_
          exact ex_iret hQ rfl ⟨congrArg (fun a => some (Value.int (nI a))) (by unfold mvP; first | (rw [if_pos (by omega)]; done) | (rw [if_neg (by omega), if_pos (by omega)]; done) | (rw [if_neg (by omega), if_neg (by omega), if_pos (by omega)]; done) | (rw [if_neg (by omega), if_neg (by omega), if_neg (by omega)]; done)), rfl, rfl⟩ dX3_placeAfterMove_34
    · have n_9 : ¬ (p ≤ x) := fun q9 => c_9 ((nI_leI (by omega) (by omega)).mpr q9)
      refine ex_iload_n 1 dX3_placeAfterMove_12 rfl rfl ?_
      refine ex_iload_n 3 dX3_placeAfterMove_13 rfl rfl ?_
      refine ex_icmp_gt (tgt := 21) dX3_placeAfterMove_14 (by decide) (fun c_14 => ?_) (fun c_14 => ?_)
      · have n_14 : y < p := (nI_ltI (by omega) (by omega)).mp c_14
        refine ex_iload_n 1 dX3_placeAfterMove_21 rfl rfl ?_
        refine ex_iload_n 2 dX3_placeAfterMove_22 rfl rfl ?_
        refine ex_icmp_ge (tgt := 35) dX3_placeAfterMove_23 (by decide) (fun c_23 => ?_) (fun c_23 => ?_)
        · have n_23 : x ≤ p := (nI_leI (by omega) (by omega)).mp c_23
          refine ex_iload_n 1 dX3_placeAfterMove_35 rfl rfl ?_
          exact ex_iret hQ rfl ⟨congrArg (fun a => some (Value.int (nI a))) (by unfold mvP; first | (rw [if_pos (by omega)]; done) | (rw [if_neg (by omega), if_pos (by omega)]; done) | (rw [if_neg (by omega), if_neg (by omega), if_pos (by omega)]; done) | (rw [if_neg (by omega), if_neg (by omega), if_neg (by omega)]; done)), rfl, rfl⟩ dX3_placeAfterMove_36
        · have n_23 : ¬ (x ≤ p) := fun q9 => c_23 ((nI_leI (by omega) (by omega)).mpr q9)
          refine ex_iload_n 1 dX3_placeAfterMove_26 rfl rfl ?_
          refine ex_iload_n 3 dX3_placeAfterMove_27 rfl rfl ?_
          refine ex_icmp_lt (tgt := 35) dX3_placeAfterMove_28 (by decide) (fun c_28 => ?_) (fun c_28 => ?_)
          · have n_28 : p < y := (nI_ltI (by omega) (by omega)).mp c_28
            refine ex_iload_n 1 dX3_placeAfterMove_35 rfl rfl ?_
            exact ex_iret hQ rfl ⟨congrArg (fun a => some (Value.int (nI a))) (by unfold mvP; first | (rw [if_pos (by omega)]; done) | (rw [if_neg (by omega), if_pos (by omega)]; done) | (rw [if_neg (by omega), if_neg (by omega), if_pos (by omega)]; done) | (rw [if_neg (by omega), if_neg (by omega), if_neg (by omega)]; done)), rfl, rfl⟩ dX3_placeAfterMove_36
          · have n_28 : ¬ (p < y) := fun q9 => c_28 ((nI_ltI (by omega) (by omega)).mpr q9)
            refine ex_iload_n 1 dX3_placeAfterMove_31 rfl rfl ?_
            refine ex_iconst (v := nI 1) dX3_placeAfterMove_32 (by decide) ?_
            refine ex_iaddN dX3_placeAfterMove_33 ?_
            exact ex_iret hQ rfl ⟨congrArg (fun a => some (Value.int (nI a))) (by unfold mvP; first | (rw [if_pos (by omega)]; done) | (rw [if_neg (by omega), if_pos (by omega)]; done) | (rw [if_neg (by omega), if_neg (by omega), if_pos (by omega)]; done) | (rw [if_neg (by omega), if_neg (by omega), if_neg (by omega)]; done)), rfl, rfl⟩ dX3_placeAfterMove_34
      · have n_14 : ¬ (y < p) := fun q9 => c_14 ((nI_ltI (by omega) (by omega)).mpr q9)
        refine ex_iload_n 1 dX3_placeAfterMove_17 rfl rfl ?_
        refine ex_iconst (v := nI 1) dX3_placeAfterMove_18 (by decide) ?_
        refine ex_isubN dX3_placeAfterMove_19 (by omega) ?_
        exact ex_iret hQ rfl ⟨congrArg (fun a => some (Value.int (nI a))) (by unfold mvP; first | (rw [if_pos (by omega)]; done) | (rw [if_neg (by omega), if_pos (by omega)]; done) | (rw [if_neg (by omega), if_neg (by omega), if_pos (by omega)]; done) | (rw [if_neg (by omega), if_neg (by omega), if_neg (by omega)]; done)), rfl, rfl⟩ dX3_placeAfterMove_20
  · have n_2 : p = x := (nI_eq (by omega) (by omega)).mp c_2
    refine ex_iload_n 3 dX3_placeAfterMove_5 rfl rfl ?_
    exact ex_iret hQ rfl ⟨congrArg (fun a => some (Value.int (nI a))) (by unfold mvP; first | (rw [if_pos (by omega)]; done) | (rw [if_neg (by omega), if_pos (by omega)]; done) | (rw [if_neg (by omega), if_neg (by omega), if_pos (by omega)]; done) | (rw [if_neg (by omega), if_neg (by omega), if_neg (by omega)]; done)), rfl, rfl⟩ dX3_placeAfterMove_6

set_option maxRecDepth 20000 in
set_option maxHeartbeats 2000000 in
theorem c_pamN {G : GG} {l : Launch} {h0 : HP} {z o : Nat} {x y : Nat} (hx : x < 9) (hy : y < 9) : Ct G l 0 0 0 yX3_placeAfterMove cX3_placeAfterMove 4 (some .int) [.ref o, .int (-6), .int (nI x), .int (nI y)] h0 z (p0 (.int (-6)) h0 z) := by
  refine Ct.intro (lv := [(0, .ref o), (1, .int (-6)), (2, .int (nI x)), (3, .int (nI y))]) (by decide +kernel) (Nat.le_of_ble_eq_true rfl) rfl (fun X Q hQ hnm => ?_)
  refine ex_iload_n 1 dX3_placeAfterMove_0 rfl rfl ?_
  refine ex_iload_n 2 dX3_placeAfterMove_1 rfl rfl ?_
  refine ex_icmp_ne (tgt := 7) dX3_placeAfterMove_2 (by decide) (fun c_2 => ?_) (fun c_2 => absurd c_2 (fun q9 => nI_n6 (show x < 2 ^ 31 by omega) q9.symm))
  refine ex_iload_n 1 dX3_placeAfterMove_7 rfl rfl ?_
  refine ex_iload_n 2 dX3_placeAfterMove_8 rfl rfl ?_
  refine ex_icmp_le (tgt := 21) dX3_placeAfterMove_9 (by decide) (fun c_9 => ?_) (fun c_9 => absurd (Int32.le_iff_toInt_le.mpr (by rw [nI_toInt (by omega), show (-6 : Int32).toInt = -6 from by decide]; omega)) c_9)
  refine ex_iload_n 1 dX3_placeAfterMove_21 rfl rfl ?_
  refine ex_iload_n 2 dX3_placeAfterMove_22 rfl rfl ?_
  refine ex_icmp_ge (tgt := 35) dX3_placeAfterMove_23 (by decide) (fun c_23 => absurd c_23 (fun q9 => by have a9 := Int32.le_iff_toInt_le.mp q9; rw [nI_toInt (by omega), show (-6 : Int32).toInt = -6 from by decide] at a9; omega)) (fun c_23 => ?_)
  refine ex_iload_n 1 dX3_placeAfterMove_26 rfl rfl ?_
  refine ex_iload_n 3 dX3_placeAfterMove_27 rfl rfl ?_
  refine ex_icmp_lt (tgt := 35) dX3_placeAfterMove_28 (by decide) (fun c_28 => ?_) (fun c_28 => absurd (Int32.lt_iff_toInt_lt.mpr (by rw [nI_toInt (by omega), show (-6 : Int32).toInt = -6 from by decide]; omega)) c_28)
  refine ex_iload_n 1 dX3_placeAfterMove_35 rfl rfl ?_
  exact ex_iret hQ rfl ⟨rfl, rfl, rfl⟩ dX3_placeAfterMove_36
end
section
/-! the array of the people while they change places: everything but that array is as it was -/
def SA (G : GG) (h : HP) (o : Nat) (π : Nat → Nat) (A : AS) (r : Nat → Option Nat) : Prop :=
  h o = some (.inr (3, stF o A)) ∧ (∃ f : Nat → Int32, h (o + 1) = some (aA G 0 6 f) ∧ ∀ i, i < 6 → f i = A.2.2.2.1 i) ∧ h (o + 2) = some (aQ G 3 8 r) ∧ (∀ j, j < 8 → π j < 8) ∧ (∀ i j, i < 8 → j < 8 → π i = π j → i = j) ∧ (∀ j, j < 8 → ∃ w : Nat → Int32, h (o + 3 + π j) = some (.inr (2, pF w)) ∧ (j < A.1 → ∀ k, k < 6 → w k = A.2.2.2.2 j k))
def SAF (G : GG) (h0 h : HP) (o : Nat) (π : Nat → Nat) (A : AS) (r : Nat → Option Nat) : Prop := SA G h o π A r ∧ ∀ a, (a < o ∨ o + 11 ≤ a) → h a = h0 a
theorem SAF.ob {G : GG} {h0 h : HP} {o : Nat} {π : Nat → Nat} {A : AS} {r : Nat → Option Nat} (S : SAF G h0 h o π A r) : h o = some (.inr (3, stF o A)) := S.1.1
theorem SF.sa {G : GG} {h0 h : HP} {o : Nat} {π : Nat → Nat} {A : AS} (S : SF G h0 h o π A) : ∃ r : Nat → Option Nat, (∀ j, j < 8 → r j = some (o + 3 + π j)) ∧ SAF G h0 h o π A r := by
  obtain ⟨⟨s1, s2, ⟨r, s3, s3'⟩, s4, s5, s6⟩, s7⟩ := S
  exact ⟨r, s3', ⟨s1, s2, s3, s4, s5, s6⟩, s7⟩
theorem SAF.put {G : GG} {h0 h : HP} {o : Nat} {π : Nat → Nat} {A : AS} {r r2 : Nat → Option Nat} (S : SAF G h0 h o π A r) : SAF G h0 (hu h (o + 2) (aQ G 3 8 r2)) o π A r2 := by
  obtain ⟨⟨s1, ⟨f, s2, s2'⟩, s3, s4, s5, s6⟩, s7⟩ := S
  refine ⟨⟨by rw [hu_n (by omega)]; exact s1, ⟨f, by rw [hu_n (by omega)]; exact s2, s2'⟩, hu_s, s4, s5, fun j hj => ?_⟩, fun a ha => by rw [hu_n (by omega)]; exact s7 a ha⟩
  obtain ⟨w, w1, w2⟩ := s6 j hj
  exact ⟨w, by rw [hu_n (by omega)]; exact w1, w2⟩
theorem mvI_lt {x y p n : Nat} (hx : x < n) (hy : y < n) (hp : p < n) : mvI x y p < n := by
  unfold mvI
  split
  · exact hx
  · split
    · omega
    · split <;> omega
theorem mvI_inj {x y p p2 : Nat} (h : mvI x y p = mvI x y p2) : p = p2 := by
  unfold mvI at h
  split at h <;> split at h <;> (try split at h) <;> (try split at h) <;> (try split at h) <;> (try split at h) <;> omega
/-- the people in their new places -/
theorem SAF.done {G : GG} {h0 h : HP} {o : Nat} {π : Nat → Nat} {n : Nat} {g : Option Nat} {t : Nat} {u : Nat → Int32} {q : Nat → Nat → Int32} {r : Nat → Option Nat} {x y : Nat} (S : SAF G h0 h o π (n, g, t, u, q) r) (n8 : n ≤ 8) (hx : x < n) (hy : y < n) (hr : ∀ j, j < 8 → r j = some (o + 3 + π (mvI x y j))) : SF G h0 h o (fun j => π (mvI x y j)) (n, g, t, u, fun a b => q (mvI x y a) b) := by
  obtain ⟨⟨s1, s2, s3, s4, s5, s6⟩, s7⟩ := S
  have lt8 : ∀ j, j < 8 → mvI x y j < 8 := fun j hj => mvI_lt (by omega) (by omega) hj
  refine ⟨⟨s1, s2, ⟨r, s3, hr⟩, fun j hj => s4 _ (lt8 j hj), fun i j hi hj e => mvI_inj (s5 _ _ (lt8 i hi) (lt8 j hj) e), fun j hj => ?_⟩, s7⟩
  obtain ⟨w, w1, w2⟩ := s6 _ (lt8 j hj)
  exact ⟨w, w1, fun hn k hk => w2 (mvI_lt hx hy hn) k hk⟩
section ES3
variable {G : GG} {l : Launch} {X : CT} {Q : State → Prop} {d mc ms cs sl : Nat} {cc : ByteArray} {own : String} {nL : Nat} {ret : Option FieldType} {h h0 : HP} {z pc : Nat} {lv : List (Nat × Value)} {st : List Value} {o : Nat} {π : Nat → Nat} {n : Nat} {g : Option Nat} {t : Nat} {u : Nat → Int32} {q : Nat → Nat → Int32} {r : Nat → Option Nat}
theorem exA_ld {i j : Nat} {x : Int32} (S : SAF G h0 h o π (n, g, t, u, q) r) (hx : x = nI i) (hi : i < 8) (hr : r i = some (o + 3 + π j)) (dg : decode cc pc = .ok (.aaload, 1)) (k1 : ex G l X Q d mc ms cs sl cc own nL ret h z (pc + 1) lv (.ref (o + 3 + π j) :: st)) : ex G l X Q d mc ms cs sl cc own nL ret h z pc lv (.int x :: .ref (o + 2) :: st) := by
  refine ex_aald3 S.1.2.2.1 hx hi (by decide) dg ?_
  rw [hr]
  exact k1
theorem exA_st {i j : Nat} {x : Int32} (S : SAF G h0 h o π (n, g, t, u, q) r) (hx : x = nI i) (hi : i < 8) (hj : j < 8) (dg : decode cc pc = .ok (.aastore, 1)) (k1 : ∀ h : HP, SAF G h0 h o π (n, g, t, u, q) (va_up r i (some (o + 3 + π j))) → ex G l X Q d mc ms cs sl cc own nL ret h z (pc + 1) lv st) : ex G l X Q d mc ms cs sl cc own nL ret h z pc lv (.ref (o + 3 + π j) :: .int x :: .ref (o + 2) :: st) := by
  obtain ⟨w, w1, -⟩ := S.1.2.2.2.2.2 j hj
  exact ex_aast (t := 3) (ci := 2) (r := (RX2, TX2, 6)) rfl rfl S.1.2.2.1 w1 hx hi (by decide) dg (k1 _ S.put)
end ES3
end
section
set_option maxRecDepth 20000 in
set_option maxHeartbeats 2000000 in
theorem c_relocate {G : GG} {l : Launch} {h0 : HP} {z o : Nat} {π : Nat → Nat} {n : Nat} {g : Option Nat} {t : Nat} {u : Nat → Int32} {q : Nat → Nat → Int32} (S0 : SP G h0 o π (n, g, t, u, q)) (gw : ∀ i, g = some i → i < n) (tw : t < n ∨ t = 0) (n8 : n ≤ 8) {x y : Nat} (hx : x < n) (hy : y < n) : Ct G l 1 0 0 yX3_relocate cX3_relocate 5 none [.ref o, .int (nI x), .int (nI y)] h0 z (pS G none h0 z o (fun j => π (mvI x y j)) (moveA (n, g, t, u, q) x y)) := by
  refine Ct.intro (lv := [(0, .ref o), (1, .int (nI x)), (2, .int (nI y))]) (by decide +kernel) (Nat.le_of_ble_eq_true rfl) rfl (fun X Q hQ hnm => ?_)
  have S := S0.sf
  refine ex_aload_n 0 dX3_relocate_0 rfl rfl ?_
  refine ex_iload_n 1 dX3_relocate_1 rfl rfl ?_
  refine ex_call0 (As := [.int (nI x)]) (v := .ref (o + 3 + π x)) (ci := 3) vl_X3_70 rfl (c_at S.1 (by omega) hx n8) S.ob rfl (by decide) (Nat.le_of_ble_eq_true rfl) (Nat.le_refl _) (Nat.le_refl _) rfl dX3_relocate_2 ?_
  refine ex_astore_n (lv' := [(3, .ref (o + 3 + π x)), (0, .ref o), (1, .int (nI x)), (2, .int (nI y))]) dX3_relocate_5 rfl (by decide) rfl ?_
  refine ex_aload_n 0 dX3_relocate_6 rfl rfl ?_
  refine ex_ifnull dX3_relocate_7 ?_
  refine ex_aload_n 1 dX3_relocate_10 rfl rfl ?_
  refine ex_iload_n 3 dX3_relocate_11 rfl rfl ?_
  refine ex_call0 (As := [.int (nI y)]) (v := .ref (o + 3 + π y)) (ci := 3) vl_X3_70 rfl (c_at S.1 (by omega) hy n8) S.ob rfl (by decide) (Nat.le_of_ble_eq_true rfl) (Nat.le_refl _) (Nat.le_refl _) rfl dX3_relocate_12 ?_
  refine ex_ifnonnull (tgt := 19) dX3_relocate_15 (by decide) ?_
  refine ex_iload_n 2 dX3_relocate_19 rfl rfl ?_
  refine ex_istore (lv' := [(4, .int (nI x)), (3, .ref (o + 3 + π x)), (0, .ref o), (1, .int (nI x)), (2, .int (nI y))]) dX3_relocate_20 (by decide) rfl ?_
  obtain ⟨r0, hr0, SA0⟩ := S.sa
  have L2 : ∀ (k p : Nat) (h : HP) (r : Nat → Option Nat), k + y = p ∨ (p = x ∧ x ≤ y) → p ≤ x → SAF G h0 h o π (n, g, t, u, q) r → (∀ j, j < 8 → r j = some (o + 3 + π (if x ≤ j ∧ j < y then j + 1 else if p < j ∧ j ≤ x then j - 1 else j))) → ex G l X Q 1 0 0 0 0 cX3_relocate yX3_relocate.cls 5 none h z 53 [(4, .int (nI p)), (3, .ref (o + 3 + π x)), (2, .int (nI y)), (1, .int (nI x)), (0, .ref o)] [] := by
    intro k
    induction k with
    | zero =>
      intro p h r hk hp S hr
      refine ex_iload 0 dX3_relocate_53 rfl ?_
      refine ex_iload_n 2 dX3_relocate_55 rfl rfl ?_
      refine ex_icmp_le (tgt := 81) dX3_relocate_56 (by decide) (fun c_56 => ?_) (fun c_56 => absurd ((nI_leI (by omega) (by omega)).mpr (by omega)) c_56)
      refine ex_aload_n 4 dX3_relocate_81 rfl rfl ?_
      refine ex_get (v := .ref (o + 2)) fl_X3_25 S.ob rfl dX3_relocate_82 ?_
      refine ex_iload_n 2 dX3_relocate_85 rfl rfl ?_
      refine ex_aload_n 1 dX3_relocate_86 rfl rfl ?_
      refine exA_st (i := y) (j := x) S rfl (by omega) (by omega) dX3_relocate_87 (fun h S => ?_)
      have S := S.done n8 hx hy (fun j hj => by
        show (if j = y then _ else r j) = _
        unfold mvI
        by_cases e : j = y
        · rw [if_pos e, if_pos e]
        · rw [if_neg e, if_neg e, hr j hj]
          by_cases e1 : x ≤ j ∧ j < y
          · rw [if_pos e1, if_pos e1]
          · rw [if_neg e1, if_neg e1]
            by_cases e2 : p < j ∧ j ≤ x
            · rw [if_pos e2, if_pos (by omega)]
            · rw [if_neg e2, if_neg (by omega)])
      rcases g with _ | i
      · refine ex_aload_n 4 dX3_relocate_88 rfl rfl ?_
        refine ex_aload_n 4 dX3_relocate_89 rfl rfl ?_
        refine ex_aload_n 4 dX3_relocate_90 rfl rfl ?_
        refine ex_get (v := .int (-6)) fl_X3_36 S.ob rfl dX3_relocate_91 ?_
        refine ex_iload_n 3 dX3_relocate_94 rfl rfl ?_
        refine ex_iload_n 2 dX3_relocate_95 rfl rfl ?_
        refine ex_call0 (As := [.int (-6), .int (nI x), .int (nI y)]) (v := .int (-6)) (ci := 3) vl_X3_93 rfl (c_pamN (by omega) (by omega)) S.ob rfl (by decide) (Nat.le_of_ble_eq_true rfl) (Nat.le_refl _) (Nat.le_refl _) rfl dX3_relocate_96 ?_
        refine exS_putG (g1 := none) S fl_X3_36 rfl dX3_relocate_99 (fun h S => ?_)
        refine ex_aload_n 4 dX3_relocate_102 rfl rfl ?_
        refine ex_aload_n 4 dX3_relocate_103 rfl rfl ?_
        refine ex_aload_n 4 dX3_relocate_104 rfl rfl ?_
        refine ex_get (v := .int (nI t)) fl_X3_39 S.ob rfl dX3_relocate_105 ?_
        refine ex_iload_n 3 dX3_relocate_108 rfl rfl ?_
        refine ex_iload_n 2 dX3_relocate_109 rfl rfl ?_
        refine ex_call0 (As := [.int (nI t), .int (nI x), .int (nI y)]) (v := .int (nI (mvP t x y))) (ci := 3) vl_X3_93 rfl (c_pam (by omega) (by omega) (by omega)) S.ob rfl (by decide) (Nat.le_of_ble_eq_true rfl) (Nat.le_refl _) (Nat.le_refl _) rfl dX3_relocate_110 ?_
        refine exS_putT (t1 := mvP t x y) S fl_X3_39 rfl dX3_relocate_113 (fun h S => ?_)
        exact ex_vret hQ rfl ⟨rfl, rfl, S⟩ dX3_relocate_116
      · have gi := gw i rfl
        refine ex_aload_n 4 dX3_relocate_88 rfl rfl ?_
        refine ex_aload_n 4 dX3_relocate_89 rfl rfl ?_
        refine ex_aload_n 4 dX3_relocate_90 rfl rfl ?_
        refine ex_get (v := .int (nI i)) fl_X3_36 S.ob rfl dX3_relocate_91 ?_
        refine ex_iload_n 3 dX3_relocate_94 rfl rfl ?_
        refine ex_iload_n 2 dX3_relocate_95 rfl rfl ?_
        refine ex_call0 (As := [.int (nI i), .int (nI x), .int (nI y)]) (v := .int (nI (mvP i x y))) (ci := 3) vl_X3_93 rfl (c_pam (by omega) (by omega) (by omega)) S.ob rfl (by decide) (Nat.le_of_ble_eq_true rfl) (Nat.le_refl _) (Nat.le_refl _) rfl dX3_relocate_96 ?_
        refine exS_putG (g1 := (some (mvP i x y))) S fl_X3_36 rfl dX3_relocate_99 (fun h S => ?_)
        refine ex_aload_n 4 dX3_relocate_102 rfl rfl ?_
        refine ex_aload_n 4 dX3_relocate_103 rfl rfl ?_
        refine ex_aload_n 4 dX3_relocate_104 rfl rfl ?_
        refine ex_get (v := .int (nI t)) fl_X3_39 S.ob rfl dX3_relocate_105 ?_
        refine ex_iload_n 3 dX3_relocate_108 rfl rfl ?_
        refine ex_iload_n 2 dX3_relocate_109 rfl rfl ?_
        refine ex_call0 (As := [.int (nI t), .int (nI x), .int (nI y)]) (v := .int (nI (mvP t x y))) (ci := 3) vl_X3_93 rfl (c_pam (by omega) (by omega) (by omega)) S.ob rfl (by decide) (Nat.le_of_ble_eq_true rfl) (Nat.le_refl _) (Nat.le_refl _) rfl dX3_relocate_110 ?_
        refine exS_putT (t1 := mvP t x y) S fl_X3_39 rfl dX3_relocate_113 (fun h S => ?_)
        exact ex_vret hQ rfl ⟨rfl, rfl, S⟩ dX3_relocate_116
    | succ k ih =>
      intro p h r hk hp S hr
      rcases Nat.lt_or_ge y p with hlt | hge
      · refine ex_iload 0 dX3_relocate_53 rfl ?_
        refine ex_iload_n 2 dX3_relocate_55 rfl rfl ?_
        refine ex_icmp_le (tgt := 81) dX3_relocate_56 (by decide) (fun c_56 => absurd c_56 (fun q9 => absurd ((nI_leI (by omega) (by omega)).mp q9) (by omega))) (fun c_56 => ?_)
        refine ex_aload_n 4 dX3_relocate_59 rfl rfl ?_
        refine ex_get (v := .ref (o + 2)) fl_X3_25 S.ob rfl dX3_relocate_60 ?_
        refine ex_iload 0 dX3_relocate_63 rfl ?_
        refine ex_aload_n 4 dX3_relocate_65 rfl rfl ?_
        refine ex_get (v := .ref (o + 2)) fl_X3_25 S.ob rfl dX3_relocate_66 ?_
        refine ex_iload 0 dX3_relocate_69 rfl ?_
        refine ex_iconst (v := nI 1) dX3_relocate_71 (by decide) ?_
        refine ex_isubN dX3_relocate_72 (by omega) ?_
        refine exA_ld (i := p - 1) (j := (p - 1)) S rfl (by omega) (by rw [hr _ (by omega), if_neg (by omega), if_neg (by omega)]) dX3_relocate_73 ?_
        refine exA_st (i := p) (j := (p - 1)) S rfl (by omega) (by omega) dX3_relocate_74 (fun h S => ?_)
        refine ex_iinc (v := nI (p - 1)) (lv' := [(4, .int (nI (p - 1))), (3, .ref (o + 3 + π x)), (2, .int (nI y)), (1, .int (nI x)), (0, .ref o)]) 0 dX3_relocate_75 rfl (by have e9 := pk_m1 (p - 1); rw [show p - 1 + 1 = p by omega] at e9; exact e9) (by decide) rfl ?_
        refine ex_goto (tgt := 53) dX3_relocate_78 (by decide) ?_
        have e2 := ih (p - 1) h _ (by omega) (by omega) S (fun j hj => by
          show (if j = p then _ else r j) = _
          by_cases e : j = p
          · rw [if_pos e, if_neg (by omega), if_pos (by omega), e]
          · rw [if_neg e, hr j hj]
            by_cases e1 : x ≤ j ∧ j < y
            · rw [if_pos e1, if_pos e1]
            · rw [if_neg e1, if_neg e1]
              by_cases e2 : p < j ∧ j ≤ x
              · rw [if_pos e2, if_pos (by omega)]
              · rw [if_neg e2, if_neg (by omega)])
        refine ex_lv (lv2 := [(4, .int (nI (p - 1))), (3, .ref (o + 3 + π x)), (2, .int (nI y)), (1, .int (nI x)), (0, .ref o)]) [0, 1, 2, 3, 4] rfl ?_
        exact e2
      · refine ex_iload 0 dX3_relocate_53 rfl ?_
        refine ex_iload_n 2 dX3_relocate_55 rfl rfl ?_
        refine ex_icmp_le (tgt := 81) dX3_relocate_56 (by decide) (fun c_56 => ?_) (fun c_56 => absurd ((nI_leI (by omega) (by omega)).mpr (by omega)) c_56)
        refine ex_aload_n 4 dX3_relocate_81 rfl rfl ?_
        refine ex_get (v := .ref (o + 2)) fl_X3_25 S.ob rfl dX3_relocate_82 ?_
        refine ex_iload_n 2 dX3_relocate_85 rfl rfl ?_
        refine ex_aload_n 1 dX3_relocate_86 rfl rfl ?_
        refine exA_st (i := y) (j := x) S rfl (by omega) (by omega) dX3_relocate_87 (fun h S => ?_)
        have S := S.done n8 hx hy (fun j hj => by
          show (if j = y then _ else r j) = _
          unfold mvI
          by_cases e : j = y
          · rw [if_pos e, if_pos e]
          · rw [if_neg e, if_neg e, hr j hj]
            by_cases e1 : x ≤ j ∧ j < y
            · rw [if_pos e1, if_pos e1]
            · rw [if_neg e1, if_neg e1]
              by_cases e2 : p < j ∧ j ≤ x
              · rw [if_pos e2, if_pos (by omega)]
              · rw [if_neg e2, if_neg (by omega)])
        rcases g with _ | i
        · refine ex_aload_n 4 dX3_relocate_88 rfl rfl ?_
          refine ex_aload_n 4 dX3_relocate_89 rfl rfl ?_
          refine ex_aload_n 4 dX3_relocate_90 rfl rfl ?_
          refine ex_get (v := .int (-6)) fl_X3_36 S.ob rfl dX3_relocate_91 ?_
          refine ex_iload_n 3 dX3_relocate_94 rfl rfl ?_
          refine ex_iload_n 2 dX3_relocate_95 rfl rfl ?_
          refine ex_call0 (As := [.int (-6), .int (nI x), .int (nI y)]) (v := .int (-6)) (ci := 3) vl_X3_93 rfl (c_pamN (by omega) (by omega)) S.ob rfl (by decide) (Nat.le_of_ble_eq_true rfl) (Nat.le_refl _) (Nat.le_refl _) rfl dX3_relocate_96 ?_
          refine exS_putG (g1 := none) S fl_X3_36 rfl dX3_relocate_99 (fun h S => ?_)
          refine ex_aload_n 4 dX3_relocate_102 rfl rfl ?_
          refine ex_aload_n 4 dX3_relocate_103 rfl rfl ?_
          refine ex_aload_n 4 dX3_relocate_104 rfl rfl ?_
          refine ex_get (v := .int (nI t)) fl_X3_39 S.ob rfl dX3_relocate_105 ?_
          refine ex_iload_n 3 dX3_relocate_108 rfl rfl ?_
          refine ex_iload_n 2 dX3_relocate_109 rfl rfl ?_
          refine ex_call0 (As := [.int (nI t), .int (nI x), .int (nI y)]) (v := .int (nI (mvP t x y))) (ci := 3) vl_X3_93 rfl (c_pam (by omega) (by omega) (by omega)) S.ob rfl (by decide) (Nat.le_of_ble_eq_true rfl) (Nat.le_refl _) (Nat.le_refl _) rfl dX3_relocate_110 ?_
          refine exS_putT (t1 := mvP t x y) S fl_X3_39 rfl dX3_relocate_113 (fun h S => ?_)
          exact ex_vret hQ rfl ⟨rfl, rfl, S⟩ dX3_relocate_116
        · have gi := gw i rfl
          refine ex_aload_n 4 dX3_relocate_88 rfl rfl ?_
          refine ex_aload_n 4 dX3_relocate_89 rfl rfl ?_
          refine ex_aload_n 4 dX3_relocate_90 rfl rfl ?_
          refine ex_get (v := .int (nI i)) fl_X3_36 S.ob rfl dX3_relocate_91 ?_
          refine ex_iload_n 3 dX3_relocate_94 rfl rfl ?_
          refine ex_iload_n 2 dX3_relocate_95 rfl rfl ?_
          refine ex_call0 (As := [.int (nI i), .int (nI x), .int (nI y)]) (v := .int (nI (mvP i x y))) (ci := 3) vl_X3_93 rfl (c_pam (by omega) (by omega) (by omega)) S.ob rfl (by decide) (Nat.le_of_ble_eq_true rfl) (Nat.le_refl _) (Nat.le_refl _) rfl dX3_relocate_96 ?_
          refine exS_putG (g1 := (some (mvP i x y))) S fl_X3_36 rfl dX3_relocate_99 (fun h S => ?_)
          refine ex_aload_n 4 dX3_relocate_102 rfl rfl ?_
          refine ex_aload_n 4 dX3_relocate_103 rfl rfl ?_
          refine ex_aload_n 4 dX3_relocate_104 rfl rfl ?_
          refine ex_get (v := .int (nI t)) fl_X3_39 S.ob rfl dX3_relocate_105 ?_
          refine ex_iload_n 3 dX3_relocate_108 rfl rfl ?_
          refine ex_iload_n 2 dX3_relocate_109 rfl rfl ?_
          refine ex_call0 (As := [.int (nI t), .int (nI x), .int (nI y)]) (v := .int (nI (mvP t x y))) (ci := 3) vl_X3_93 rfl (c_pam (by omega) (by omega) (by omega)) S.ob rfl (by decide) (Nat.le_of_ble_eq_true rfl) (Nat.le_refl _) (Nat.le_refl _) rfl dX3_relocate_110 ?_
          refine exS_putT (t1 := mvP t x y) S fl_X3_39 rfl dX3_relocate_113 (fun h S => ?_)
          exact ex_vret hQ rfl ⟨rfl, rfl, S⟩ dX3_relocate_116
  have L1 : ∀ (k p : Nat) (h : HP) (r : Nat → Option Nat), p + k = y ∨ (p = x ∧ y ≤ x) → x ≤ p → SAF G h0 h o π (n, g, t, u, q) r → (∀ j, j < 8 → r j = some (o + 3 + π (if x ≤ j ∧ j < p then j + 1 else j))) → ex G l X Q 1 0 0 0 0 cX3_relocate yX3_relocate.cls 5 none h z 22 [(4, .int (nI p)), (3, .ref (o + 3 + π x)), (2, .int (nI y)), (1, .int (nI x)), (0, .ref o)] [] := by
    intro k
    induction k with
    | zero =>
      intro p h r hk hp S hr
      refine ex_iload 0 dX3_relocate_22 rfl ?_
      refine ex_iload_n 2 dX3_relocate_24 rfl rfl ?_
      refine ex_icmp_ge (tgt := 50) dX3_relocate_25 (by decide) (fun c_25 => ?_) (fun c_25 => absurd ((nI_leI (by omega) (by omega)).mpr (by omega)) c_25)
      refine ex_iload_n 3 dX3_relocate_50 rfl rfl ?_
      refine ex_istore (lv' := [(4, .int (nI x)), (3, .ref (o + 3 + π x)), (2, .int (nI y)), (1, .int (nI x)), (0, .ref o)]) dX3_relocate_51 (by decide) rfl ?_
      have e2 := L2 (x - y) x h r (by omega) (Nat.le_refl _) S (fun j hj => by
        rw [hr j hj]
        by_cases e1 : x ≤ j ∧ j < y
        · rw [if_pos e1, if_pos (by omega)]
        · rw [if_neg e1, if_neg (by omega), if_neg (by omega)])
      refine ex_lv (lv2 := [(4, .int (nI x)), (3, .ref (o + 3 + π x)), (2, .int (nI y)), (1, .int (nI x)), (0, .ref o)]) [0, 1, 2, 3, 4] rfl ?_
      exact e2
    | succ k ih =>
      intro p h r hk hp S hr
      rcases Nat.lt_or_ge p y with hlt | hge
      · refine ex_iload 0 dX3_relocate_22 rfl ?_
        refine ex_iload_n 2 dX3_relocate_24 rfl rfl ?_
        refine ex_icmp_ge (tgt := 50) dX3_relocate_25 (by decide) (fun c_25 => absurd c_25 (fun q9 => absurd ((nI_leI (by omega) (by omega)).mp q9) (by omega))) (fun c_25 => ?_)
        refine ex_aload_n 4 dX3_relocate_28 rfl rfl ?_
        refine ex_get (v := .ref (o + 2)) fl_X3_25 S.ob rfl dX3_relocate_29 ?_
        refine ex_iload 0 dX3_relocate_32 rfl ?_
        refine ex_aload_n 4 dX3_relocate_34 rfl rfl ?_
        refine ex_get (v := .ref (o + 2)) fl_X3_25 S.ob rfl dX3_relocate_35 ?_
        refine ex_iload 0 dX3_relocate_38 rfl ?_
        refine ex_iconst (v := nI 1) dX3_relocate_40 (by decide) ?_
        refine ex_iaddN dX3_relocate_41 ?_
        refine exA_ld (i := p + 1) (j := (p + 1)) S rfl (by omega) (by rw [hr _ (by omega), if_neg (by omega)]) dX3_relocate_42 ?_
        refine exA_st (i := p) (j := (p + 1)) S rfl (by omega) (by omega) dX3_relocate_43 (fun h S => ?_)
        refine ex_iinc (v := nI (p + 1)) (lv' := [(4, .int (nI (p + 1))), (3, .ref (o + 3 + π x)), (2, .int (nI y)), (1, .int (nI x)), (0, .ref o)]) 0 dX3_relocate_44 rfl (nI_1 p) (by decide) rfl ?_
        refine ex_goto (tgt := 22) dX3_relocate_47 (by decide) ?_
        have e2 := ih (p + 1) h _ (by omega) (by omega) S (fun j hj => by
          show (if j = p then _ else r j) = _
          by_cases e : j = p
          · rw [if_pos e, if_pos (by omega), e]
          · rw [if_neg e, hr j hj]
            by_cases e1 : x ≤ j ∧ j < p
            · rw [if_pos e1, if_pos (by omega)]
            · rw [if_neg e1, if_neg (by omega)])
        refine ex_lv (lv2 := [(4, .int (nI (p + 1))), (3, .ref (o + 3 + π x)), (2, .int (nI y)), (1, .int (nI x)), (0, .ref o)]) [0, 1, 2, 3, 4] rfl ?_
        exact e2
      · refine ex_iload 0 dX3_relocate_22 rfl ?_
        refine ex_iload_n 2 dX3_relocate_24 rfl rfl ?_
        refine ex_icmp_ge (tgt := 50) dX3_relocate_25 (by decide) (fun c_25 => ?_) (fun c_25 => absurd ((nI_leI (by omega) (by omega)).mpr (by omega)) c_25)
        refine ex_iload_n 3 dX3_relocate_50 rfl rfl ?_
        refine ex_istore (lv' := [(4, .int (nI x)), (3, .ref (o + 3 + π x)), (2, .int (nI y)), (1, .int (nI x)), (0, .ref o)]) dX3_relocate_51 (by decide) rfl ?_
        have e2 := L2 (x - y) x h r (by omega) (Nat.le_refl _) S (fun j hj => by
          rw [hr j hj]
          by_cases e1 : x ≤ j ∧ j < y
          · rw [if_pos e1, if_pos (by omega)]
          · rw [if_neg e1, if_neg (by omega), if_neg (by omega)])
        refine ex_lv (lv2 := [(4, .int (nI x)), (3, .ref (o + 3 + π x)), (2, .int (nI y)), (1, .int (nI x)), (0, .ref o)]) [0, 1, 2, 3, 4] rfl ?_
        exact e2
  have e2 := L1 (y - x) x h0 r0 (by omega) (Nat.le_refl _) SA0 (fun j hj => by rw [hr0 j hj, if_neg (by omega)])
  refine ex_lv (lv2 := [(4, .int (nI x)), (3, .ref (o + 3 + π x)), (2, .int (nI y)), (1, .int (nI x)), (0, .ref o)]) [0, 1, 4, 3, 2] rfl ?_
  exact e2

set_option maxRecDepth 20000 in
set_option maxHeartbeats 2000000 in
theorem c_pcopy {G : GG} {l : Launch} {h0 : HP} {z o o2 : Nat} {π π2 : Nat → Nat} {n : Nat} {g : Option Nat} {t : Nat} {u : Nat → Int32} {q : Nat → Nat → Int32} {n2 : Nat} {g2 : Option Nat} {t2 : Nat} {u2 : Nat → Int32} {q2 : Nat → Nat → Int32} (S0 : SP G h0 o π (n, g, t, u, q)) (S02 : SP G h0 o2 π2 (n2, g2, t2, u2, q2)) (hap : o + 11 ≤ o2 ∨ o2 + 11 ≤ o) {j j2 : Nat} (h8 : j < 8) (hn : j < n) (h82 : j2 < 8) (hn2 : j2 < n2) : Ct G l 0 0 0 yX2_copyFrom cX2_copyFrom 2 none [.ref (o + 3 + π j), .ref (o2 + 3 + π2 j2)] h0 z (pS G none h0 z o π (n, g, t, u, (uq (uq (uq (uq (uq (uq q j 0 (q2 j2 0)) j 1 (q2 j2 1)) j 2 (q2 j2 2)) j 3 (q2 j2 3)) j 4 (q2 j2 4)) j 5 (q2 j2 5)))) := by
  refine Ct.intro (lv := [(0, .ref (o + 3 + π j)), (1, .ref (o2 + 3 + π2 j2))]) (by decide +kernel) (Nat.le_of_ble_eq_true rfl) rfl (fun X Q hQ hnm => ?_)
  have S := S0.sf
  refine ex_aload_n 0 dX2_copyFrom_0 rfl rfl ?_
  refine ex_aload_n 1 dX2_copyFrom_1 rfl rfl ?_
  refine ex_get (v := .int (q2 j2 0)) fl_X2_7 ((S02.kept (fun a h1 h2 => S.2 a (by omega))).pe h82 hn2) rfl dX2_copyFrom_2 ?_
  refine exP_put S h8 hn fl_X2_7 (by decide) rfl dX2_copyFrom_5 (fun h S => ?_)
  refine ex_aload_n 0 dX2_copyFrom_8 rfl rfl ?_
  refine ex_aload_n 1 dX2_copyFrom_9 rfl rfl ?_
  refine ex_get (v := .int (q2 j2 1)) fl_X2_13 ((S02.kept (fun a h1 h2 => S.2 a (by omega))).pe h82 hn2) rfl dX2_copyFrom_10 ?_
  refine exP_put S h8 hn fl_X2_13 (by decide) rfl dX2_copyFrom_13 (fun h S => ?_)
  refine ex_aload_n 0 dX2_copyFrom_16 rfl rfl ?_
  refine ex_aload_n 1 dX2_copyFrom_17 rfl rfl ?_
  refine ex_get (v := .int (q2 j2 2)) fl_X2_16 ((S02.kept (fun a h1 h2 => S.2 a (by omega))).pe h82 hn2) rfl dX2_copyFrom_18 ?_
  refine exP_put S h8 hn fl_X2_16 (by decide) rfl dX2_copyFrom_21 (fun h S => ?_)
  refine ex_aload_n 0 dX2_copyFrom_24 rfl rfl ?_
  refine ex_aload_n 1 dX2_copyFrom_25 rfl rfl ?_
  refine ex_get (v := .int (q2 j2 3)) fl_X2_19 ((S02.kept (fun a h1 h2 => S.2 a (by omega))).pe h82 hn2) rfl dX2_copyFrom_26 ?_
  refine exP_put S h8 hn fl_X2_19 (by decide) rfl dX2_copyFrom_29 (fun h S => ?_)
  refine ex_aload_n 0 dX2_copyFrom_32 rfl rfl ?_
  refine ex_aload_n 1 dX2_copyFrom_33 rfl rfl ?_
  refine ex_get (v := .int (q2 j2 4)) fl_X2_22 ((S02.kept (fun a h1 h2 => S.2 a (by omega))).pe h82 hn2) rfl dX2_copyFrom_34 ?_
  refine exP_put S h8 hn fl_X2_22 (by decide) rfl dX2_copyFrom_37 (fun h S => ?_)
  refine ex_aload_n 0 dX2_copyFrom_40 rfl rfl ?_
  refine ex_aload_n 1 dX2_copyFrom_41 rfl rfl ?_
  refine ex_get (v := .int (q2 j2 5)) fl_X2_25 ((S02.kept (fun a h1 h2 => S.2 a (by omega))).pe h82 hn2) rfl dX2_copyFrom_42 ?_
  refine exP_put S h8 hn fl_X2_25 (by decide) rfl dX2_copyFrom_45 (fun h S => ?_)
  exact ex_vret hQ rfl ⟨rfl, rfl, S⟩ dX2_copyFrom_48
end
section
set_option maxRecDepth 20000 in
set_option maxHeartbeats 2000000 in
theorem c_copyT {G : GG} {l : Launch} {h0 : HP} {z o o2 : Nat} {π π2 : Nat → Nat} {n : Nat} {g : Option Nat} {t : Nat} {u : Nat → Int32} {q : Nat → Nat → Int32} {n2 : Nat} {g2 : Option Nat} {t2 : Nat} {u2 : Nat → Int32} {q2 : Nat → Nat → Int32} (S0 : SP G h0 o π (n, g, t, u, q)) (S02 : SP G h0 o2 π2 (n2, g2, t2, u2, q2)) (hap : o + 11 ≤ o2 ∨ o2 + 11 ≤ o) (n8 : n2 ≤ 8) : Ct G l 1 0 0 yX3_copyFrom cX3_copyFrom 5 none [.ref o, .ref o2] h0 z (pS G none h0 z o π (n2, g2, t2, u2, q2)) := by
  refine Ct.intro (lv := [(0, .ref o), (1, .ref o2)]) (by decide +kernel) (Nat.le_of_ble_eq_true rfl) rfl (fun X Q hQ hnm => ?_)
  have S := S0.sf
  refine ex_aload_n 1 dX3_copyFrom_0 rfl rfl ?_
  refine ex_get (v := .ref (o2 + 1)) fl_X3_18 (S02.kept (fun a h1 h2 => S.2 a (by omega))).ob rfl dX3_copyFrom_1 ?_
  refine ex_iconst (v := nI 0) dX3_copyFrom_4 (by decide) ?_
  refine ex_aload_n 0 dX3_copyFrom_5 rfl rfl ?_
  refine ex_get (v := .ref (o + 1)) fl_X3_18 S.ob rfl dX3_copyFrom_6 ?_
  refine ex_iconst (v := nI 0) dX3_copyFrom_9 (by decide) ?_
  refine ex_getsN rfl dX3_copyFrom_10 ?_
  refine ex_tlen (k := 0) (by decide) dX3_copyFrom_13 ?_
  refine exS_cpy ac_1 ac_2 ac_3 ac_4 S (S02.kept (fun a h1 h2 => S.2 a (by omega))) (by decide) (Nat.le_of_ble_eq_true rfl) dX3_copyFrom_14 (fun h S => ?_)
  refine ex_aload_n 0 dX3_copyFrom_17 rfl rfl ?_
  refine ex_aload_n 1 dX3_copyFrom_18 rfl rfl ?_
  refine ex_get (v := .int (nI n2)) fl_X3_29 (S02.kept (fun a h1 h2 => S.2 a (by omega))).ob rfl dX3_copyFrom_19 ?_
  refine exS_putN (n1 := n2) S fl_X3_29 rfl dX3_copyFrom_22 (fun h w hw S => ?_)
  refine ex_iconst (v := nI 0) dX3_copyFrom_25 (by decide) ?_
  refine ex_istore_n (lv' := [(2, .int (nI 0)), (0, .ref o), (1, .ref o2)]) dX3_copyFrom_26 rfl (by decide) rfl ?_
  suffices H : ∀ (k m : Nat) (h : HP) (v : Nat → Nat → Int32), m + k = 8 → SF G h0 h o π (n2, g, t, (fun i => if i < 6 then u2 i else u i), v) → (∀ j b, j < m → j < n2 → b < 6 → v j b = q2 j b) → ex G l X Q 1 0 0 0 0 cX3_copyFrom yX3_copyFrom.cls 5 none h z 27 [(2, .int (nI m)), (0, .ref o), (1, .ref o2)] [] from by
    have e2 := H 8 0 h w (by omega) S (fun j b hj => absurd hj (by omega))
    refine ex_lv (lv2 := [(2, .int (nI 0)), (0, .ref o), (1, .ref o2)]) [0, 1, 2] rfl ?_
    exact e2
  intro k
  induction k with
  | zero =>
    intro m h v hm S hv
    refine ex_iload_n 0 dX3_copyFrom_27 rfl rfl ?_
    refine ex_bipush (v := nI 8) dX3_copyFrom_28 (by decide) ?_
    refine ex_icmp_ge (tgt := 67) dX3_copyFrom_30 (by decide) (fun c_30 => ?_) (fun c_30 => absurd ((nI_leI (by omega) (by omega)).mpr (by omega)) c_30)
    refine ex_aload_n 1 dX3_copyFrom_67 rfl rfl ?_
    refine ex_aload_n 2 dX3_copyFrom_68 rfl rfl ?_
    refine ex_get (v := .int (u2 8)) fl_X3_33 (S02.kept (fun a h1 h2 => S.2 a (by omega))).ob rfl dX3_copyFrom_69 ?_
    refine exS_putU (i := 8) S fl_X3_33 (by decide) (by decide) rfl dX3_copyFrom_72 (fun h S => ?_)
    refine ex_aload_n 1 dX3_copyFrom_75 rfl rfl ?_
    refine ex_aload_n 2 dX3_copyFrom_76 rfl rfl ?_
    refine ex_get (v := .int (gv g2)) fl_X3_36 (S02.kept (fun a h1 h2 => S.2 a (by omega))).ob rfl dX3_copyFrom_77 ?_
    refine exS_putG (g1 := g2) S fl_X3_36 rfl dX3_copyFrom_80 (fun h S => ?_)
    refine ex_aload_n 1 dX3_copyFrom_83 rfl rfl ?_
    refine ex_aload_n 2 dX3_copyFrom_84 rfl rfl ?_
    refine ex_get (v := .int (nI t2)) fl_X3_39 (S02.kept (fun a h1 h2 => S.2 a (by omega))).ob rfl dX3_copyFrom_85 ?_
    refine exS_putT (t1 := t2) S fl_X3_39 rfl dX3_copyFrom_88 (fun h S => ?_)
    refine ex_aload_n 1 dX3_copyFrom_91 rfl rfl ?_
    refine ex_aload_n 2 dX3_copyFrom_92 rfl rfl ?_
    refine ex_get (v := .int (u2 11)) fl_X3_42 (S02.kept (fun a h1 h2 => S.2 a (by omega))).ob rfl dX3_copyFrom_93 ?_
    refine exS_putU (i := 11) S fl_X3_42 (by decide) (by decide) rfl dX3_copyFrom_96 (fun h S => ?_)
    refine ex_aload_n 1 dX3_copyFrom_99 rfl rfl ?_
    refine ex_aload_n 2 dX3_copyFrom_100 rfl rfl ?_
    refine ex_get (v := .int (u2 6)) fl_X3_45 (S02.kept (fun a h1 h2 => S.2 a (by omega))).ob rfl dX3_copyFrom_101 ?_
    refine exS_putU (i := 6) S fl_X3_45 (by decide) (by decide) rfl dX3_copyFrom_104 (fun h S => ?_)
    refine ex_aload_n 1 dX3_copyFrom_107 rfl rfl ?_
    refine ex_aload_n 2 dX3_copyFrom_108 rfl rfl ?_
    refine ex_get (v := .int (u2 12)) fl_X3_48 (S02.kept (fun a h1 h2 => S.2 a (by omega))).ob rfl dX3_copyFrom_109 ?_
    refine exS_putU (i := 12) S fl_X3_48 (by decide) (by decide) rfl dX3_copyFrom_112 (fun h S => ?_)
    refine ex_aload_n 1 dX3_copyFrom_115 rfl rfl ?_
    refine ex_aload_n 2 dX3_copyFrom_116 rfl rfl ?_
    refine ex_get (v := .int (u2 13)) fl_X3_51 (S02.kept (fun a h1 h2 => S.2 a (by omega))).ob rfl dX3_copyFrom_117 ?_
    refine exS_putU (i := 13) S fl_X3_51 (by decide) (by decide) rfl dX3_copyFrom_120 (fun h S => ?_)
    refine ex_aload_n 1 dX3_copyFrom_123 rfl rfl ?_
    refine ex_aload_n 2 dX3_copyFrom_124 rfl rfl ?_
    refine ex_get (v := .int (u2 14)) fl_X3_54 (S02.kept (fun a h1 h2 => S.2 a (by omega))).ob rfl dX3_copyFrom_125 ?_
    refine exS_putU (i := 14) S fl_X3_54 (by decide) (by decide) rfl dX3_copyFrom_128 (fun h S => ?_)
    refine ex_aload_n 1 dX3_copyFrom_131 rfl rfl ?_
    refine ex_aload_n 2 dX3_copyFrom_132 rfl rfl ?_
    refine ex_get (v := .int (u2 15)) fl_X3_57 (S02.kept (fun a h1 h2 => S.2 a (by omega))).ob rfl dX3_copyFrom_133 ?_
    refine exS_putU (i := 15) S fl_X3_57 (by decide) (by decide) rfl dX3_copyFrom_136 (fun h S => ?_)
    refine ex_aload_n 1 dX3_copyFrom_139 rfl rfl ?_
    refine ex_aload_n 2 dX3_copyFrom_140 rfl rfl ?_
    refine ex_get (v := .int (u2 16)) fl_X3_60 (S02.kept (fun a h1 h2 => S.2 a (by omega))).ob rfl dX3_copyFrom_141 ?_
    refine exS_putU (i := 16) S fl_X3_60 (by decide) (by decide) rfl dX3_copyFrom_144 (fun h S => ?_)
    exact ex_vret hQ rfl ⟨rfl, rfl, S.to rfl rfl rfl (fun i hi a1 a2 a3 => by
          rcases (show i = 0 ∨ i = 1 ∨ i = 2 ∨ i = 3 ∨ i = 4 ∨ i = 5 ∨ i = 6 ∨ i = 8 ∨ i = 11 ∨ i = 12 ∨ i = 13 ∨ i = 14 ∨ i = 15 ∨ i = 16 by omega) with rfl | rfl | rfl | rfl | rfl | rfl | rfl | rfl | rfl | rfl | rfl | rfl | rfl | rfl <;> rfl) (fun j b hj hb => (hv j b (by have : j < n2 := hj; omega) hj hb).symm)⟩ dX3_copyFrom_147
  | succ k ih =>
    intro m h v hm S hv
    rcases Nat.lt_or_ge m n2 with hlt | hge
    · refine ex_iload_n 0 dX3_copyFrom_27 rfl rfl ?_
      refine ex_bipush (v := nI 8) dX3_copyFrom_28 (by decide) ?_
      refine ex_icmp_ge (tgt := 67) dX3_copyFrom_30 (by decide) (fun c_30 => absurd c_30 (fun q9 => absurd ((nI_leI (by omega) (by omega)).mp q9) (by omega))) (fun c_30 => ?_)
      refine ex_aload_n 1 dX3_copyFrom_33 rfl rfl ?_
      refine ex_iload_n 0 dX3_copyFrom_34 rfl rfl ?_
      refine ex_call0 (As := [.int (nI m)]) (v := .ref (o + 3 + π m)) (ci := 3) vl_X3_70 rfl (c_at S.1 (by omega) hlt n8) S.ob rfl (by decide) (Nat.le_of_ble_eq_true rfl) (Nat.le_refl _) (Nat.le_refl _) rfl dX3_copyFrom_35 ?_
      refine ex_astore_n (lv' := [(3, .ref (o + 3 + π m)), (2, .int (nI m)), (0, .ref o), (1, .ref o2)]) dX3_copyFrom_38 rfl (by decide) rfl ?_
      refine ex_aload_n 3 dX3_copyFrom_39 rfl rfl ?_
      refine ex_iload_n 1 dX3_copyFrom_40 rfl rfl ?_
      refine ex_call0 (As := [.int (nI m)]) (v := .ref (o2 + 3 + π2 m)) (ci := 3) vl_X3_70 rfl (c_at (S02.kept (fun a h1 h2 => S.2 a (by omega))) (by omega) hlt n8) (S02.kept (fun a h1 h2 => S.2 a (by omega))).ob rfl (by decide) (Nat.le_of_ble_eq_true rfl) (Nat.le_refl _) (Nat.le_refl _) rfl dX3_copyFrom_41 ?_
      refine ex_astore (lv' := [(4, .ref (o2 + 3 + π2 m)), (3, .ref (o + 3 + π m)), (2, .int (nI m)), (0, .ref o), (1, .ref o2)]) dX3_copyFrom_44 (by decide) rfl ?_
      refine ex_aload_n 1 dX3_copyFrom_46 rfl rfl ?_
      refine ex_ifnull dX3_copyFrom_47 ?_
      refine ex_aload 0 dX3_copyFrom_50 rfl ?_
      refine ex_ifnull dX3_copyFrom_52 ?_
      refine ex_aload_n 1 dX3_copyFrom_55 rfl rfl ?_
      refine ex_aload 0 dX3_copyFrom_56 rfl ?_
      refine exP_call (As := [.ref (o2 + 3 + π2 m)]) (r0 := none) (B := (n2, g, t, (fun i => if i < 6 then u2 i else u i), (uq (uq (uq (uq (uq (uq v m 0 (q2 m 0)) m 1 (q2 m 1)) m 2 (q2 m 2)) m 3 (q2 m 3)) m 4 (q2 m 4)) m 5 (q2 m 5)))) vl_X3_74 rfl S (by omega) hlt (fun S1 => c_pcopy S1 (S02.kept (fun a h1 h2 => S.2 a (by omega))) hap (by omega) hlt (by omega) hlt) rfl (by decide) (Nat.le_of_ble_eq_true rfl) (Nat.le_refl _) (Nat.le_refl _) rfl dX3_copyFrom_58 (fun h S => ?_)
      refine ex_iinc (v := nI (m + 1)) (lv' := [(2, .int (nI (m + 1))), (4, .ref (o2 + 3 + π2 m)), (3, .ref (o + 3 + π m)), (0, .ref o), (1, .ref o2)]) 2 dX3_copyFrom_61 rfl (nI_1 m) (by decide) rfl ?_
      refine ex_goto (tgt := 27) dX3_copyFrom_64 (by decide) ?_
      have e2 := ih (m + 1) h _ (by omega) S (fun j b hj hn hb => by
        by_cases e : j = m
        · subst e
          rcases (show b = 0 ∨ b = 1 ∨ b = 2 ∨ b = 3 ∨ b = 4 ∨ b = 5 by omega) with rfl | rfl | rfl | rfl | rfl | rfl <;> simp [uq]
        · simp only [uq, e, if_false]
          rw [← hv j b (by omega) hn hb]
          split <;> (try split) <;> (try split) <;> (try split) <;> (try split) <;> (try split) <;> rfl)
      refine ex_lv (lv2 := [(2, .int (nI (m + 1))), (0, .ref o), (1, .ref o2)]) [0, 3, 4] rfl ?_
      exact e2
    · refine ex_iload_n 0 dX3_copyFrom_27 rfl rfl ?_
      refine ex_bipush (v := nI 8) dX3_copyFrom_28 (by decide) ?_
      refine ex_icmp_ge (tgt := 67) dX3_copyFrom_30 (by decide) (fun c_30 => absurd c_30 (fun q9 => absurd ((nI_leI (by omega) (by omega)).mp q9) (by omega))) (fun c_30 => ?_)
      refine ex_aload_n 1 dX3_copyFrom_33 rfl rfl ?_
      refine ex_iload_n 0 dX3_copyFrom_34 rfl rfl ?_
      refine ex_call0 (As := [.int (nI m)]) (v := .null) (ci := 3) vl_X3_70 rfl (c_atN S.1 (Or.inr ((nI_leI (by omega) (by omega)).mpr hge)) n8) S.ob rfl (by decide) (Nat.le_of_ble_eq_true rfl) (Nat.le_refl _) (Nat.le_refl _) rfl dX3_copyFrom_35 ?_
      refine ex_astore_nN (lv' := [(3, .null), (2, .int (nI m)), (0, .ref o), (1, .ref o2)]) dX3_copyFrom_38 rfl (by decide) rfl ?_
      refine ex_aload_n 3 dX3_copyFrom_39 rfl rfl ?_
      refine ex_iload_n 1 dX3_copyFrom_40 rfl rfl ?_
      refine ex_call0 (As := [.int (nI m)]) (v := .null) (ci := 3) vl_X3_70 rfl (c_atN (S02.kept (fun a h1 h2 => S.2 a (by omega))) (Or.inr ((nI_leI (by omega) (by omega)).mpr hge)) n8) (S02.kept (fun a h1 h2 => S.2 a (by omega))).ob rfl (by decide) (Nat.le_of_ble_eq_true rfl) (Nat.le_refl _) (Nat.le_refl _) rfl dX3_copyFrom_41 ?_
      refine ex_astoreN (lv' := [(4, .null), (3, .null), (2, .int (nI m)), (0, .ref o), (1, .ref o2)]) dX3_copyFrom_44 (by decide) rfl ?_
      refine ex_aload_nN 1 dX3_copyFrom_46 rfl rfl ?_
      refine ex_ifnullN (tgt := 61) dX3_copyFrom_47 (by decide) ?_
      refine ex_iinc (v := nI (m + 1)) (lv' := [(2, .int (nI (m + 1))), (4, .null), (3, .null), (0, .ref o), (1, .ref o2)]) 2 dX3_copyFrom_61 rfl (nI_1 m) (by decide) rfl ?_
      refine ex_goto (tgt := 27) dX3_copyFrom_64 (by decide) ?_
      have e2 := ih (m + 1) h v (by omega) S (fun j b hj hn hb => hv j b (by omega) hn hb)
      refine ex_lv (lv2 := [(2, .int (nI (m + 1))), (0, .ref o), (1, .ref o2)]) [0, 3, 4] rfl ?_
      exact e2

theorem c_copy {G : GG} {l : Launch} {h0 : HP} {z o o2 : Nat} {π π2 : Nat → Nat} {A B : AS} (S0 : SP G h0 o π A) (S02 : SP G h0 o2 π2 B) (hap : o + 11 ≤ o2 ∨ o2 + 11 ≤ o) (n8 : B.1 ≤ 8) : Ct G l 1 0 0 yX3_copyFrom cX3_copyFrom 5 none [.ref o, .ref o2] h0 z (pS G none h0 z o π B) := by
  obtain ⟨n, g, t, u, q⟩ := A
  obtain ⟨n2, g2, t2, u2, q2⟩ := B
  exact c_copyT S0 S02 hap n8

def pV (h : HP) (z : Nat) : Option Value → HP → Nat → Prop := fun r h1 z1 => r = none ∧ h1 = h ∧ z1 = z
theorem ex_heq {G : GG} {l : Launch} {X : CT} {Q : State → Prop} {d mc ms cs sl : Nat} {cc : ByteArray} {own : String} {nL : Nat} {ret : Option FieldType} {h h2 : HP} {z pc : Nat} {lv : List (Nat × Value)} {st : List Value} (e : h = h2) (k1 : ex G l X Q d mc ms cs sl cc own nL ret h2 z pc lv st) : ex G l X Q d mc ms cs sl cc own nL ret h z pc lv st := by
  subst e
  exact k1
theorem ex_zeq {G : GG} {l : Launch} {X : CT} {Q : State → Prop} {d mc ms cs sl : Nat} {cc : ByteArray} {own : String} {nL : Nat} {ret : Option FieldType} {h : HP} {z z2 pc : Nat} {lv : List (Nat × Value)} {st : List Value} (e : z = z2) (k1 : ex G l X Q d mc ms cs sl cc own nL ret h z2 pc lv st) : ex G l X Q d mc ms cs sl cc own nL ret h z pc lv st := by
  subst e
  exact k1
theorem hu_hu {h : HP} {a : Nat} {e e2 : va_E} : hu (hu h a e) a e2 = hu h a e2 := by
  funext b
  unfold hu
  split <;> rfl
theorem hu_c {h : HP} {a b : Nat} {e e2 : va_E} (n : a ≠ b) : hu (hu h a e) b e2 = hu (hu h b e2) a e := by
  funext x
  unfold hu
  by_cases h1 : x = b
  · by_cases h2 : x = a
    · exact absurd (h2.symm.trans h1) n
    · simp [h1, h2]
      intro q
      exact absurd (q.symm) n
  · simp [h1]

set_option maxRecDepth 20000 in
set_option maxHeartbeats 2000000 in
theorem c_Pinit {G : GG} {l : Launch} {h0 : HP} {z : Nat} {a : Nat} : Ct G l 1 0 0 yX2_init cX2_init 1 none [.ref a] h0 z (pV h0 z) := by
  refine Ct.intro (lv := [(0, .ref a)]) (by decide +kernel) (Nat.le_of_ble_eq_true rfl) rfl (fun X Q hQ hnm => ?_)
  refine ex_aload_n 0 dX2_init_0 rfl rfl ?_
  refine ex_objInit oi_X2_1 oi_2 oi_3 (by decide) (Nat.le_of_ble_eq_true rfl) dX2_init_1 ?_
  exact ex_vret hQ rfl ⟨rfl, rfl, rfl⟩ dX2_init_4
end
section
theorem hu_id {h : HP} {a : Nat} {e : va_E} (q : h a = some e) : h = hu h a e := by
  funext b
  unfold hu
  split
  · rename_i e1
    rw [e1, q]
  · rfl
section ER
variable {G : GG} {l : Launch} {X : CT} {Q : State → Prop} {d mc ms cs sl : Nat} {cc : ByteArray} {own : String} {nL : Nat} {ret : Option FieldType} {B : HP} {z pc : Nat} {lv : List (Nat × Value)} {st : List Value}
theorem ex_putR {idx ci k a : Nat} {ty : FieldType} {fs fs1 : List Value} {v : Value} (L0 : FL own idx ci k ty false) (hn : narrow ty v = v) (hfit : fits ty v = true) (hl : k < fs.length) (hf : fs.set k v = fs1) (dg : decode cc pc = .ok (.putfield idx, 3)) (k1 : ex G l X Q d mc ms cs sl cc own nL ret (hu B a (.inr (ci, fs1))) z (pc + 3) lv st) : ex G l X Q d mc ms cs sl cc own nL ret (hu B a (.inr (ci, fs))) z pc lv (v :: .ref a :: st) := by
  subst hf
  refine ex_put L0 hu_s hn hfit hl dg ?_
  rw [hu_hu]
  exact k1
theorem ex_putFR {idx ci k a : Nat} {ty : FieldType} {fs fs1 : List Value} {v : Value} (hin : X.2.2.2.2.2.2.1.name = "<init>") (hoc : vwCl[ci]?.map (fun q => q.1) = some own) (L0 : FL own idx ci k ty true) (hn : narrow ty v = v) (hfit : fits ty v = true) (hl : k < fs.length) (hf : fs.set k v = fs1) (dg : decode cc pc = .ok (.putfield idx, 3)) (k1 : ex G l X Q d mc ms cs sl cc own nL ret (hu B a (.inr (ci, fs1))) z (pc + 3) lv st) : ex G l X Q d mc ms cs sl cc own nL ret (hu B a (.inr (ci, fs))) z pc lv (v :: .ref a :: st) := by
  subst hf
  refine ex_putF hin hoc L0 hu_s hn hfit hl dg ?_
  rw [hu_hu]
  exact k1
theorem ex_cZ {a b : Nat} {e c : va_E} (n : a ≠ b) (k1 : ex G l X Q d mc ms cs sl cc own nL ret (hu (hu B b c) a e) z pc lv st) : ex G l X Q d mc ms cs sl cc own nL ret (hu (hu B a e) b c) z pc lv st := by
  rw [hu_c n]
  exact k1
end ER
/-- the first value of a state -/
def u0 : Nat → Int32 := fun i => match i with
  | 0 => 70
  | 1 => 30
  | 2 => 10
  | 3 => 28
  | 4 => 3
  | 5 => 20
  | 8 => 50
  | 11 => 1000
  | _ => 0
def A0 : AS := (0, none, 0, u0, fun _ _ => 0)
/-- a State in the making: m persons stand -/
def IN (G : GG) (h0 h : HP) (o m : Nat) : Prop := h o = some (.inr (3, stF o A0)) ∧ (∃ f : Nat → Int32, h (o + 1) = some (aA G 0 6 f) ∧ ∀ i, i < 6 → f i = u0 i) ∧ (∃ r : Nat → Option Nat, h (o + 2) = some (aQ G 3 8 r) ∧ ∀ j, j < m → r j = some (o + 3 + j)) ∧ (∀ j, j < m → h (o + 3 + j) = some (.inr (2, pF (fun _ => 0)))) ∧ ∀ a, (a < o ∨ o + 3 + m ≤ a) → h a = h0 a
theorem IN.done {G : GG} {h0 h : HP} {o : Nat} (H : IN G h0 h o 8) : SF G h0 h o (fun j => j) A0 := by
  obtain ⟨h1, h2, h3, h4, h5⟩ := H
  exact ⟨⟨h1, h2, h3, fun j hj => hj, fun i j _ _ e => e, fun j hj => ⟨_, h4 j hj, fun hn => absurd hn (Nat.not_lt_zero _)⟩⟩, h5⟩
theorem IN.next {G : GG} {h0 h : HP} {o m : Nat} {r : Nat → Option Nat} (H : IN G h0 h o m) (hr : h (o + 2) = some (aQ G 3 8 r)) (hm : m < 8) : IN G h0 (hu (hu h (o + 3 + m) (.inr (2, pF (fun _ => 0)))) (o + 2) (aQ G 3 8 (va_up r m (some (o + 3 + m))))) o (m + 1) := by
  obtain ⟨h1, ⟨f, h2, h2'⟩, ⟨r', h3, h3'⟩, h4, h5⟩ := H
  have e : r = r' := by rw [hr] at h3; simpa using h3
  subst e
  refine ⟨by rw [hu_n (by omega), hu_n (by omega)]; exact h1, ⟨f, by rw [hu_n (by omega), hu_n (by omega)]; exact h2, h2'⟩, ⟨_, hu_s, fun j hj => ?_⟩, fun j hj => ?_, fun a ha => by rw [hu_n (by omega), hu_n (by omega)]; exact h5 a (by omega)⟩
  · show (if j = m then _ else r j) = _
    by_cases e : j = m
    · rw [if_pos e, e]
    · rw [if_neg e]
      exact h3' j (by omega)
  · rw [hu_n (by omega)]
    by_cases e : j = m
    · rw [e, hu_s]
    · rw [hu_n (by omega)]
      exact h4 j (by omega)

set_option maxRecDepth 20000 in
set_option maxHeartbeats 2000000 in
theorem c_Sinit {G : GG} {l : Launch} {h0 : HP} {o : Nat} (H0 : h0 o = some (.inr (3, [.null, .null, .int 0, .int 0, .int 0, .int 0, .int 0, .int 0, .int 0, .int 0, .int 0, .int 0, .int 0]))) : Ct G l 2 10 62 yX3_init cX3_init 2 none [.ref o] h0 (o + 1) (fun r h1 z1 => r = none ∧ z1 = o + 11 ∧ SF G h0 h1 o (fun j => j) A0) := by
  refine Ct.intro (lv := [(0, .ref o)]) (by decide +kernel) (Nat.le_of_ble_eq_true rfl) rfl (fun X Q hQ hnm => ?_)
  refine ex_heq (hu_id H0) ?_
  refine ex_aload_n 0 dX3_init_0 rfl rfl ?_
  refine ex_objInit oi_X3_3 oi_2 oi_3 (by decide) (Nat.le_of_ble_eq_true rfl) dX3_init_1 ?_
  refine ex_aload_n 0 dX3_init_4 rfl rfl ?_
  refine ex_getsN rfl dX3_init_5 ?_
  refine ex_clone (by decide) (tw_t 25 (by decide +kernel) (by decide +kernel)) (tw_t 26 (by decide +kernel) (by decide +kernel)) (tw_t 27 (by decide +kernel) (by decide +kernel)) (tw_t 28 (by decide +kernel) (by decide +kernel)) (tw_t 29 (by decide +kernel) (by decide +kernel)) (by decide) (Nat.le_of_ble_eq_true rfl) (by decide) (by decide) dX3_init_8 ?_
  refine ex_cast0 (t := 0) cl_X3_14 hu_s dX3_init_11 ?_
  refine ex_cZ (by omega) ?_
  refine ex_putFR (fs1 := [.ref (o + 1), .null, .int 0, .int 0, .int 0, .int 0, .int 0, .int 0, .int 0, .int 0, .int 0, .int 0, .int 0]) hnm rfl fl_X3_18 rfl rfl (Nat.le_of_ble_eq_true rfl) rfl dX3_init_14 ?_
  refine ex_aload_n 0 dX3_init_17 rfl rfl ?_
  refine ex_bipush (v := nI 8) dX3_init_18 (by decide) ?_
  refine ex_anew (t := 3) rfl cl_X3_23 (Or.inl rfl) (by decide) (by decide) (by decide) dX3_init_20 ?_
  refine ex_cZ (by omega) ?_
  refine ex_putFR (fs1 := [.ref (o + 1), .ref (o + 1 + 1), .int 0, .int 0, .int 0, .int 0, .int 0, .int 0, .int 0, .int 0, .int 0, .int 0, .int 0]) hnm rfl fl_X3_25 rfl rfl (Nat.le_of_ble_eq_true rfl) rfl dX3_init_23 ?_
  refine ex_aload_n 0 dX3_init_26 rfl rfl ?_
  refine ex_iconst (v := nI 0) dX3_init_27 (by decide) ?_
  refine ex_putR (fs1 := [.ref (o + 1), .ref (o + 1 + 1), .int (nI 0), .int 0, .int 0, .int 0, .int 0, .int 0, .int 0, .int 0, .int 0, .int 0, .int 0]) fl_X3_29 rfl rfl (Nat.le_of_ble_eq_true rfl) rfl dX3_init_28 ?_
  refine ex_aload_n 0 dX3_init_31 rfl rfl ?_
  refine ex_bipush (v := nI 50) dX3_init_32 (by decide) ?_
  refine ex_putR (fs1 := [.ref (o + 1), .ref (o + 1 + 1), .int (nI 0), .int (nI 50), .int 0, .int 0, .int 0, .int 0, .int 0, .int 0, .int 0, .int 0, .int 0]) fl_X3_33 rfl rfl (Nat.le_of_ble_eq_true rfl) rfl dX3_init_34 ?_
  refine ex_aload_n 0 dX3_init_37 rfl rfl ?_
  refine ex_bipush (v := (-6)) dX3_init_38 (by decide) ?_
  refine ex_putR (fs1 := [.ref (o + 1), .ref (o + 1 + 1), .int (nI 0), .int (nI 50), .int (-6), .int 0, .int 0, .int 0, .int 0, .int 0, .int 0, .int 0, .int 0]) fl_X3_36 rfl rfl (Nat.le_of_ble_eq_true rfl) rfl dX3_init_40 ?_
  refine ex_aload_n 0 dX3_init_43 rfl rfl ?_
  refine ex_iconst (v := nI 0) dX3_init_44 (by decide) ?_
  refine ex_putR (fs1 := [.ref (o + 1), .ref (o + 1 + 1), .int (nI 0), .int (nI 50), .int (-6), .int (nI 0), .int 0, .int 0, .int 0, .int 0, .int 0, .int 0, .int 0]) fl_X3_39 rfl rfl (Nat.le_of_ble_eq_true rfl) rfl dX3_init_45 ?_
  refine ex_aload_n 0 dX3_init_48 rfl rfl ?_
  refine ex_sipush (v := nI 1000) dX3_init_49 (by decide) ?_
  refine ex_putR (fs1 := [.ref (o + 1), .ref (o + 1 + 1), .int (nI 0), .int (nI 50), .int (-6), .int (nI 0), .int (nI 1000), .int 0, .int 0, .int 0, .int 0, .int 0, .int 0]) fl_X3_42 rfl rfl (Nat.le_of_ble_eq_true rfl) rfl dX3_init_52 ?_
  refine ex_aload_n 0 dX3_init_55 rfl rfl ?_
  refine ex_iconst (v := nI 0) dX3_init_56 (by decide) ?_
  refine ex_putR (fs1 := [.ref (o + 1), .ref (o + 1 + 1), .int (nI 0), .int (nI 50), .int (-6), .int (nI 0), .int (nI 1000), .int (nI 0), .int 0, .int 0, .int 0, .int 0, .int 0]) fl_X3_45 rfl rfl (Nat.le_of_ble_eq_true rfl) rfl dX3_init_57 ?_
  refine ex_aload_n 0 dX3_init_60 rfl rfl ?_
  refine ex_iconst (v := nI 0) dX3_init_61 (by decide) ?_
  refine ex_putR (fs1 := [.ref (o + 1), .ref (o + 1 + 1), .int (nI 0), .int (nI 50), .int (-6), .int (nI 0), .int (nI 1000), .int (nI 0), .int (nI 0), .int 0, .int 0, .int 0, .int 0]) fl_X3_48 rfl rfl (Nat.le_of_ble_eq_true rfl) rfl dX3_init_62 ?_
  refine ex_aload_n 0 dX3_init_65 rfl rfl ?_
  refine ex_iconst (v := nI 0) dX3_init_66 (by decide) ?_
  refine ex_putR (fs1 := [.ref (o + 1), .ref (o + 1 + 1), .int (nI 0), .int (nI 50), .int (-6), .int (nI 0), .int (nI 1000), .int (nI 0), .int (nI 0), .int (nI 0), .int 0, .int 0, .int 0]) fl_X3_51 rfl rfl (Nat.le_of_ble_eq_true rfl) rfl dX3_init_67 ?_
  refine ex_aload_n 0 dX3_init_70 rfl rfl ?_
  refine ex_iconst (v := nI 0) dX3_init_71 (by decide) ?_
  refine ex_putR (fs1 := [.ref (o + 1), .ref (o + 1 + 1), .int (nI 0), .int (nI 50), .int (-6), .int (nI 0), .int (nI 1000), .int (nI 0), .int (nI 0), .int (nI 0), .int (nI 0), .int 0, .int 0]) fl_X3_54 rfl rfl (Nat.le_of_ble_eq_true rfl) rfl dX3_init_72 ?_
  refine ex_aload_n 0 dX3_init_75 rfl rfl ?_
  refine ex_iconst (v := nI 0) dX3_init_76 (by decide) ?_
  refine ex_putR (fs1 := [.ref (o + 1), .ref (o + 1 + 1), .int (nI 0), .int (nI 50), .int (-6), .int (nI 0), .int (nI 1000), .int (nI 0), .int (nI 0), .int (nI 0), .int (nI 0), .int (nI 0), .int 0]) fl_X3_57 rfl rfl (Nat.le_of_ble_eq_true rfl) rfl dX3_init_77 ?_
  refine ex_aload_n 0 dX3_init_80 rfl rfl ?_
  refine ex_iconst (v := nI 0) dX3_init_81 (by decide) ?_
  refine ex_putR (fs1 := [.ref (o + 1), .ref (o + 1 + 1), .int (nI 0), .int (nI 50), .int (-6), .int (nI 0), .int (nI 1000), .int (nI 0), .int (nI 0), .int (nI 0), .int (nI 0), .int (nI 0), .int (nI 0)]) fl_X3_60 rfl rfl (Nat.le_of_ble_eq_true rfl) rfl dX3_init_82 ?_
  refine ex_iconst (v := nI 0) dX3_init_85 (by decide) ?_
  refine ex_istore_n (lv' := [(1, .int (nI 0)), (0, .ref o)]) dX3_init_86 rfl (by decide) rfl ?_
  suffices H : ∀ (k m : Nat) (h : HP), m + k = 8 → IN G h0 h o m → ex G l X Q 2 10 62 (2 + m) (14 + 6 * m) cX3_init yX3_init.cls 2 none h (o + 3 + m) 87 [(1, .int (nI m)), (0, .ref o)] [] from by
    refine ex_widen (c2 := 2 + 0) (s2 := 14 + 6 * 0) (by decide) (by decide) ?_
    refine H 8 0 _ (by omega) ⟨hu_s, ⟨fV, by rw [hu_n (by omega), hu_n (by omega)]; exact hu_s, fun i hi => ?_⟩, ⟨_, by rw [hu_n (by omega)]; exact hu_s, fun j hj => absurd hj (Nat.not_lt_zero _)⟩, fun j hj => absurd hj (Nat.not_lt_zero _), fun a ha => by rw [hu_n (by omega), hu_n (by omega), hu_n (by omega)]⟩
    rcases (show i = 0 ∨ i = 1 ∨ i = 2 ∨ i = 3 ∨ i = 4 ∨ i = 5 by omega) with rfl | rfl | rfl | rfl | rfl | rfl <;> rfl
  intro k
  induction k with
  | zero =>
    intro m h hm I
    obtain rfl : m = 8 := by omega
    refine ex_iload_n 0 dX3_init_87 rfl rfl ?_
    refine ex_bipush (v := nI 8) dX3_init_88 (by decide) ?_
    refine ex_icmp_ge (tgt := 112) dX3_init_90 (by decide) (fun c_90 => ?_) (fun c_90 => absurd ((nI_leI (by omega) (by omega)).mpr (by omega)) c_90)
    exact ex_vret hQ rfl ⟨rfl, rfl, I.done⟩ dX3_init_112
  | succ k ih =>
    intro m h hm I
    obtain ⟨r, hr, -⟩ := I.2.2.1
    refine ex_iload_n 0 dX3_init_87 rfl rfl ?_
    refine ex_bipush (v := nI 8) dX3_init_88 (by decide) ?_
    refine ex_icmp_ge (tgt := 112) dX3_init_90 (by decide) (fun c_90 => absurd c_90 (fun q9 => absurd ((nI_leI (by omega) (by omega)).mp q9) (by omega))) (fun c_90 => ?_)
    refine ex_aload_n 1 dX3_init_93 rfl rfl ?_
    refine ex_get (v := .ref (o + 2)) fl_X3_25 I.1 rfl dX3_init_94 ?_
    refine ex_iload_n 0 dX3_init_97 rfl rfl ?_
    refine ex_new nl_X3_23 (by omega) (by omega) dX3_init_98 ?_
    refine ex_dup dX3_init_101 rfl ?_
    refine ex_callIN (As := []) (fun K => K.2.2.2.2.2.2.1) vn_X3_63 (c_Pinit (a := o + 3 + m)) rfl (by decide) (Nat.le_of_ble_eq_true rfl) (by omega) (by omega) rfl dX3_init_102 (fun r1 h1 z1 hp => ?_)
    obtain ⟨rfl, rfl, rfl⟩ := hp
    refine ex_aast (t := 3) (ci := 2) (r := (RX2, TX2, 6)) (n := 8) (f := r) (j := m) rfl rfl (by rw [hu_n (by omega)]; exact hr) hu_s rfl (by omega) (by decide) dX3_init_105 ?_
    refine ex_iinc (v := nI (m + 1)) (lv' := [(1, .int (nI (m + 1))), (0, .ref o)]) 0 dX3_init_106 rfl (nI_1 m) (by decide) rfl ?_
    refine ex_goto (tgt := 87) dX3_init_109 (by decide) ?_
    refine ex_widen (c2 := 2 + (m + 1)) (s2 := 14 + 6 * (m + 1)) (by omega) (by omega) ?_
    exact ih (m + 1) _ (by omega) (I.next hr (by omega))
end
section
/-! the history: six States behind it, told by their places (P), and the array's order -/
def HA (G : GG) (h0 h : HP) (b k : Nat) (r : Nat → Option Nat) (P : Nat → AS) : Prop := h b = some (.inr (0, [.ref (b + 1), .int (nI k)])) ∧ h (b + 1) = some (aQ G 4 6 r) ∧ (∀ i, i < 6 → ∃ π : Nat → Nat, SP G h (b + 2 + 11 * i) π (P i)) ∧ ∀ a, (a < b ∨ b + 68 ≤ a) → h a = h0 a
def HS (G : GG) (h0 h : HP) (b : Nat) (σ : Nat → Nat) (k : Nat) (P : Nat → AS) : Prop := ∃ r : Nat → Option Nat, HA G h0 h b k r P ∧ (∀ j, j < 6 → r j = some (b + 2 + 11 * σ j)) ∧ (∀ j, j < 6 → σ j < 6) ∧ (∀ i j, i < 6 → j < 6 → σ i = σ j → i = j) ∧ k ≤ 6
theorem HA.putA {G : GG} {h0 h : HP} {b k : Nat} {r r2 : Nat → Option Nat} {P : Nat → AS} (S : HA G h0 h b k r P) : HA G h0 (hu h (b + 1) (aQ G 4 6 r2)) b k r2 P := by
  obtain ⟨s1, s2, s3, s4⟩ := S
  refine ⟨by rw [hu_n (by omega)]; exact s1, hu_s, fun i hi => ?_, fun a ha => by rw [hu_n (by omega)]; exact s4 a ha⟩
  obtain ⟨π, hπ⟩ := s3 i hi
  exact ⟨π, hπ.kept (fun a h1 h2 => by rw [hu_n (by omega)])⟩
theorem HA.putL {G : GG} {h0 h : HP} {b k k2 : Nat} {r : Nat → Option Nat} {P : Nat → AS} {fs : List Value} (S : HA G h0 h b k r P) (hf : fs = [.ref (b + 1), .int (nI k2)]) : HA G h0 (hu h b (.inr (0, fs))) b k2 r P := by
  obtain ⟨s1, s2, s3, s4⟩ := S
  refine ⟨by rw [hu_s, hf], by rw [hu_n (by omega)]; exact s2, fun i hi => ?_, fun a ha => by rw [hu_n (by omega)]; exact s4 a ha⟩
  obtain ⟨π, hπ⟩ := s3 i hi
  exact ⟨π, hπ.kept (fun a h1 h2 => by rw [hu_n (by omega)])⟩
/-- one of the States has another value -/
theorem HA.setP {G : GG} {h0 h h1 : HP} {b k s : Nat} {r : Nat → Option Nat} {P : Nat → AS} {π : Nat → Nat} {A : AS} (S : HA G h0 h b k r P) (hs : s < 6) (S1 : SF G h h1 (b + 2 + 11 * s) π A) : HA G h0 h1 b k r (fun i => if i = s then A else P i) := by
  obtain ⟨s1, s2, s3, s4⟩ := S
  refine ⟨by rw [S1.2 _ (by omega)]; exact s1, by rw [S1.2 _ (by omega)]; exact s2, fun i hi => ?_, fun a ha => by rw [S1.2 _ (by omega)]; exact s4 a ha⟩
  by_cases e : i = s
  · subst e
    exact ⟨π, by simp only [if_true]; exact S1.1⟩
  · obtain ⟨π2, hπ⟩ := s3 i hi
    refine ⟨π2, ?_⟩
    simp only [e, if_false]
    exact hπ.kept (fun a h1 h2 => S1.2 a (by omega))
theorem HA.kept {G : GG} {h0 h h1 : HP} {b k : Nat} {r : Nat → Option Nat} {P : Nat → AS} (S : HA G h0 h b k r P) (q : ∀ a, b ≤ a → a < b + 68 → h1 a = h a) : HA G h1 h1 b k r P := by
  obtain ⟨s1, s2, s3, s4⟩ := S
  refine ⟨by rw [q _ (by omega) (by omega)]; exact s1, by rw [q _ (by omega) (by omega)]; exact s2, fun i hi => ?_, fun a ha => rfl⟩
  obtain ⟨π, hπ⟩ := s3 i hi
  exact ⟨π, hπ.kept (fun a h1 h2 => q a (by omega) (by omega))⟩
theorem HA.trans {G : GG} {h0 h h1 : HP} {b k k1 : Nat} {r r1 : Nat → Option Nat} {P P1 : Nat → AS} (S : HA G h0 h b k r P) (S1 : HA G h h1 b k1 r1 P1) : HA G h0 h1 b k1 r1 P1 := ⟨S1.1, S1.2.1, S1.2.2.1, fun a ha => (S1.2.2.2 a ha).trans (S.2.2.2 a ha)⟩
section EHi
variable {G : GG} {l : Launch} {X : CT} {Q : State → Prop} {d mc ms cs sl : Nat} {cc : ByteArray} {own : String} {nL : Nat} {ret : Option FieldType} {h h0 : HP} {z pc : Nat} {lv : List (Nat × Value)} {st : List Value} {b k : Nat} {r : Nat → Option Nat} {P : Nat → AS}
theorem exH_ld {i v : Nat} {x : Int32} (S : HA G h0 h b k r P) (hx : x = nI i) (hi : i < 6) (hr : r i = some v) (dg : decode cc pc = .ok (.aaload, 1)) (k1 : ex G l X Q d mc ms cs sl cc own nL ret h z (pc + 1) lv (.ref v :: st)) : ex G l X Q d mc ms cs sl cc own nL ret h z pc lv (.int x :: .ref (b + 1) :: st) := by
  refine ex_aald4 S.2.1 hx hi (by decide) dg ?_
  rw [hr]
  exact k1
theorem exH_st {i s : Nat} {x : Int32} (S : HA G h0 h b k r P) (hx : x = nI i) (hi : i < 6) (hs : s < 6) (dg : decode cc pc = .ok (.aastore, 1)) (k1 : ∀ h : HP, HA G h0 h b k (va_up r i (some (b + 2 + 11 * s))) P → ex G l X Q d mc ms cs sl cc own nL ret h z (pc + 1) lv st) : ex G l X Q d mc ms cs sl cc own nL ret h z pc lv (.ref (b + 2 + 11 * s) :: .int x :: .ref (b + 1) :: st) := by
  obtain ⟨π, hπ⟩ := S.2.2.1 s hs
  exact ex_aast (t := 4) (ci := 3) (r := (RX3, TX3, 13)) rfl rfl S.2.1 hπ.ob hx hi (by decide) dg (k1 _ S.putA)
theorem exH_len {idx k2 : Nat} {v : Int32} (S : HA G h0 h b k r P) (fl : FL own idx 0 1 .int false) (hv : v = nI k2) (dg : decode cc pc = .ok (.putfield idx, 3)) (k1 : ∀ h : HP, HA G h0 h b k2 r P → ex G l X Q d mc ms cs sl cc own nL ret h z (pc + 3) lv st) : ex G l X Q d mc ms cs sl cc own nL ret h z pc lv (.int v :: .ref b :: st) := by
  subst hv
  exact ex_put fl S.1 rfl rfl (Nat.le_of_ble_eq_true rfl) dg (k1 _ (S.putL rfl))
end EHi
end
section
set_option maxRecDepth 20000 in
set_option maxHeartbeats 2000000 in
theorem c_dropOldest {G : GG} {l : Launch} {h0 : HP} {z b k : Nat} {r : Nat → Option Nat} {P : Nat → AS} {σ : Nat → Nat} (S : HA G h0 h0 b k r P) (hr : ∀ j, j < 6 → r j = some (b + 2 + 11 * σ j)) (hσ : ∀ j, j < 6 → σ j < 6) : Ct G l 0 0 0 yX0_dropOldest cX0_dropOldest 3 none [.ref b] h0 z (fun rr h1 z1 => rr = none ∧ z1 = z ∧ ∃ r1 : Nat → Option Nat, HA G h0 h1 b 5 r1 P ∧ ∀ j, j < 6 → r1 j = some (b + 2 + 11 * (if j < 5 then σ (j + 1) else σ 0))) := by
  refine Ct.intro (lv := [(0, .ref b)]) (by decide +kernel) (Nat.le_of_ble_eq_true rfl) rfl (fun X Q hQ hnm => ?_)
  refine ex_aload_n 0 dX0_dropOldest_0 rfl rfl ?_
  refine ex_get (v := .ref (b + 1)) fl_X0_11 S.1 rfl dX0_dropOldest_1 ?_
  refine ex_iconst (v := nI 0) dX0_dropOldest_4 (by decide) ?_
  refine exH_ld (i := 0) (v := b + 2 + 11 * (σ 0)) S rfl (by omega) (hr 0 (by decide)) dX0_dropOldest_5 ?_
  refine ex_astore_n (lv' := [(1, .ref (b + 2 + 11 * (σ 0))), (0, .ref b)]) dX0_dropOldest_6 rfl (by decide) rfl ?_
  refine ex_iconst (v := nI 1) dX0_dropOldest_7 (by decide) ?_
  refine ex_istore_n (lv' := [(2, .int (nI 1)), (1, .ref (b + 2 + 11 * (σ 0))), (0, .ref b)]) dX0_dropOldest_8 rfl (by decide) rfl ?_
  suffices H : ∀ (k2 m : Nat) (h : HP) (r2 : Nat → Option Nat), m + k2 = 6 → 1 ≤ m → HA G h0 h b k r2 P → (∀ j, j < 6 → r2 j = some (b + 2 + 11 * σ (if j + 1 < m then j + 1 else j))) → ex G l X Q 0 0 0 0 0 cX0_dropOldest yX0_dropOldest.cls 3 none h z 9 [(2, .int (nI m)), (1, .ref (b + 2 + 11 * (σ 0))), (0, .ref b)] [] from by
    have e2 := H 5 1 h0 r (by omega) (by omega) S (fun j hj => by rw [hr j hj, if_neg (by omega)])
    refine ex_lv (lv2 := [(2, .int (nI 1)), (1, .ref (b + 2 + 11 * (σ 0))), (0, .ref b)]) [0, 1, 2] rfl ?_
    exact e2
  intro k2
  induction k2 with
  | zero =>
    intro m h r2 hm h1 S hr2
    refine ex_iload_n 0 dX0_dropOldest_9 rfl rfl ?_
    refine ex_bipush (v := nI 6) dX0_dropOldest_10 (by decide) ?_
    refine ex_icmp_ge (tgt := 35) dX0_dropOldest_12 (by decide) (fun c_12 => ?_) (fun c_12 => absurd ((nI_leI (by omega) (by omega)).mpr (by omega)) c_12)
    refine ex_aload_n 2 dX0_dropOldest_35 rfl rfl ?_
    refine ex_get (v := .ref (b + 1)) fl_X0_11 S.1 rfl dX0_dropOldest_36 ?_
    refine ex_iconst (v := nI 5) dX0_dropOldest_39 (by decide) ?_
    refine ex_aload_n 1 dX0_dropOldest_40 rfl rfl ?_
    refine exH_st (i := 5) (s := (σ 0)) S rfl (by omega) (hσ _ (by omega)) dX0_dropOldest_41 (fun h S => ?_)
    refine ex_aload_n 2 dX0_dropOldest_42 rfl rfl ?_
    refine ex_iconst (v := nI 5) dX0_dropOldest_43 (by decide) ?_
    refine exH_len (k2 := 5) S fl_X0_17 rfl dX0_dropOldest_44 (fun h S => ?_)
    exact ex_vret hQ rfl ⟨rfl, rfl, _, S, fun j hj => by
          show (if j = 5 then _ else r2 j) = _
          by_cases e : j = 5
          · rw [if_pos e, if_neg (by omega)]
          · rw [if_neg e, hr2 j hj, if_pos (by omega), if_pos (by omega)]⟩ dX0_dropOldest_47
  | succ k2 ih =>
    intro m h r2 hm h1 S hr2
    refine ex_iload_n 0 dX0_dropOldest_9 rfl rfl ?_
    refine ex_bipush (v := nI 6) dX0_dropOldest_10 (by decide) ?_
    refine ex_icmp_ge (tgt := 35) dX0_dropOldest_12 (by decide) (fun c_12 => absurd c_12 (fun q9 => absurd ((nI_leI (by omega) (by omega)).mp q9) (by omega))) (fun c_12 => ?_)
    refine ex_aload_n 2 dX0_dropOldest_15 rfl rfl ?_
    refine ex_get (v := .ref (b + 1)) fl_X0_11 S.1 rfl dX0_dropOldest_16 ?_
    refine ex_iload_n 0 dX0_dropOldest_19 rfl rfl ?_
    refine ex_iconst (v := nI 1) dX0_dropOldest_20 (by decide) ?_
    refine ex_isubN dX0_dropOldest_21 (by omega) ?_
    refine ex_aload_n 2 dX0_dropOldest_22 rfl rfl ?_
    refine ex_get (v := .ref (b + 1)) fl_X0_11 S.1 rfl dX0_dropOldest_23 ?_
    refine ex_iload_n 0 dX0_dropOldest_26 rfl rfl ?_
    refine exH_ld (i := m) (v := b + 2 + 11 * (σ m)) S rfl (by omega) (by rw [hr2 _ (by omega), if_neg (by omega)]) dX0_dropOldest_27 ?_
    refine exH_st (i := m - 1) (s := (σ m)) S rfl (by omega) (hσ _ (by omega)) dX0_dropOldest_28 (fun h S => ?_)
    refine ex_iinc (v := nI (m + 1)) (lv' := [(2, .int (nI (m + 1))), (1, .ref (b + 2 + 11 * (σ 0))), (0, .ref b)]) 0 dX0_dropOldest_29 rfl (nI_1 m) (by decide) rfl ?_
    refine ex_goto (tgt := 9) dX0_dropOldest_32 (by decide) ?_
    have e2 := ih (m + 1) h _ (by omega) (by omega) S (fun j hj => by
      show (if j = m - 1 then _ else r2 j) = _
      by_cases e : j = m - 1
      · rw [if_pos e, if_pos (by omega), show j + 1 = m by omega]
      · rw [if_neg e, hr2 j hj]
        by_cases e1 : j + 1 < m
        · rw [if_pos e1, if_pos (by omega)]
        · rw [if_neg e1, if_neg (by omega)])
    refine ex_lv (lv2 := [(2, .int (nI (m + 1))), (1, .ref (b + 2 + 11 * (σ 0))), (0, .ref b)]) [0, 1, 2] rfl ?_
    exact e2

def recR (k : Nat) (Rs : Nat → AS) (A : AS) : Nat → AS := fun j => if k < 6 then (if j = k then A else Rs j) else (if j = 5 then A else Rs (j + 1))
def rot (σ : Nat → Nat) : Nat → Nat := fun j => if j < 5 then σ (j + 1) else σ 0
theorem rot_lt {σ : Nat → Nat} (h : ∀ j, j < 6 → σ j < 6) : ∀ j, j < 6 → rot σ j < 6 := fun j hj => by
  unfold rot
  split
  · exact h _ (by omega)
  · exact h _ (by omega)
theorem rot_inj {σ : Nat → Nat} (h : ∀ i j, i < 6 → j < 6 → σ i = σ j → i = j) : ∀ i j, i < 6 → j < 6 → rot σ i = rot σ j → i = j := fun i j hi hj e => by
  unfold rot at e
  split at e <;> split at e
  · have := h _ _ (by omega) (by omega) e
    omega
  · have := h _ _ (by omega) (by omega) e
    omega
  · have := h _ _ (by omega) (by omega) e
    omega
  · omega

set_option maxRecDepth 20000 in
set_option maxHeartbeats 2000000 in
theorem c_record {G : GG} {l : Launch} {h0 : HP} {z b k o : Nat} {r : Nat → Option Nat} {P : Nat → AS} {σ π : Nat → Nat} {A : AS} (S : HA G h0 h0 b k r P) (hr : ∀ j, j < 6 → r j = some (b + 2 + 11 * σ j)) (hσ : ∀ j, j < 6 → σ j < 6) (hi : ∀ i j, i < 6 → j < 6 → σ i = σ j → i = j) (k6 : k ≤ 6) (T : SP G h0 o π A) (hap : o + 11 ≤ b ∨ b + 68 ≤ o) (n8 : A.1 ≤ 8) : Ct G l 2 0 0 yX0_record cX0_record 2 none [.ref b, .ref o] h0 z (fun rr h1 z1 => rr = none ∧ z1 = z ∧ ∃ (σ1 : Nat → Nat) (P1 : Nat → AS), HS G h0 h1 b σ1 (if k < 6 then k + 1 else 6) P1 ∧ ∀ j, j < (if k < 6 then k + 1 else 6) → P1 (σ1 j) = recR k (fun j => P (σ j)) A j) := by
  refine Ct.intro (lv := [(0, .ref b), (1, .ref o)]) (by decide +kernel) (Nat.le_of_ble_eq_true rfl) rfl (fun X Q hQ hnm => ?_)
  have TL : ∀ (h : HP) (k1 : Nat) (r1 : Nat → Option Nat) (s1 : Nat → Nat), k1 < 6 → HA G h0 h b k1 r1 P → (∀ j, j < 6 → r1 j = some (b + 2 + 11 * s1 j)) → (∀ j, j < 6 → s1 j < 6) → (∀ i j, i < 6 → j < 6 → s1 i = s1 j → i = j) → (k < 6 → k1 = k ∧ s1 = σ) → (¬ k < 6 → k1 = 5 ∧ s1 = rot σ) → (if k < 6 then k + 1 else 6) = k1 + 1 → ex G l X Q 2 0 0 0 0 cX0_record yX0_record.cls 2 none h z 13 [(0, .ref b), (1, .ref o)] [] := by
    intro h k1 r1 s1 hk1 S hr1 hs1 hi1 c1 c2 kk
    refine ex_aload_n 0 dX0_record_13 rfl rfl ?_
    refine ex_get (v := .int (nI k1)) fl_X0_17 S.1 rfl dX0_record_14 ?_
    refine ex_if_lt (tgt := 64) dX0_record_17 (by decide) (fun c_17 => absurd c_17 (nI_pos (by omega))) (fun c_17 => ?_)
    refine ex_aload_n 0 dX0_record_20 rfl rfl ?_
    refine ex_get (v := .int (nI k1)) fl_X0_17 S.1 rfl dX0_record_21 ?_
    refine ex_bipush (v := nI 6) dX0_record_24 (by decide) ?_
    refine ex_icmp_ge (tgt := 64) dX0_record_26 (by decide) (fun c_26 => absurd c_26 (fun q9 => absurd ((nI_leI (by omega) (by omega)).mp q9) (by omega))) (fun c_26 => ?_)
    refine ex_aload_n 0 dX0_record_29 rfl rfl ?_
    refine ex_get (v := .ref (b + 1)) fl_X0_11 S.1 rfl dX0_record_30 ?_
    refine ex_aload_n 0 dX0_record_33 rfl rfl ?_
    refine ex_get (v := .int (nI k1)) fl_X0_17 S.1 rfl dX0_record_34 ?_
    refine exH_ld (i := k1) (v := b + 2 + 11 * (s1 k1)) S rfl (by omega) (hr1 _ (by omega)) dX0_record_37 ?_
    refine ex_ifnull dX0_record_38 ?_
    refine ex_aload_n 0 dX0_record_41 rfl rfl ?_
    refine ex_get (v := .ref (b + 1)) fl_X0_11 S.1 rfl dX0_record_42 ?_
    refine ex_aload_n 0 dX0_record_45 rfl rfl ?_
    refine ex_get (v := .int (nI k1)) fl_X0_17 S.1 rfl dX0_record_46 ?_
    refine exH_ld (i := k1) (v := b + 2 + 11 * (s1 k1)) S rfl (by omega) (hr1 _ (by omega)) dX0_record_49 ?_
    refine ex_aload_n 1 dX0_record_50 rfl rfl ?_
    obtain ⟨π1, hπ⟩ := S.2.2.1 (s1 k1) (hs1 k1 (by omega))
    refine ex_callV (As := [.ref o]) (ci := 3) vl_X0_25 rfl (c_copy hπ (T.kept (fun a g1 g2 => S.2.2.2 a (by omega))) (by have := hs1 k1 (by omega); omega) n8) hπ.ob rfl (by decide) (Nat.le_of_ble_eq_true rfl) (Nat.le_refl _) (Nat.le_refl _) rfl dX0_record_51 (fun r9 h9 z9 hp => ?_)
    obtain ⟨rfl, rfl, S9⟩ := hp
    have S := S.setP (hs1 k1 (by omega)) S9
    refine ex_aload_n 0 dX0_record_54 rfl rfl ?_
    refine ex_dup dX0_record_55 rfl ?_
    refine ex_get (v := .int (nI k1)) fl_X0_17 S.1 rfl dX0_record_56 ?_
    refine ex_iconst (v := nI 1) dX0_record_59 (by decide) ?_
    refine ex_iaddN dX0_record_60 ?_
    refine exH_len (k2 := k1 + 1) S fl_X0_17 rfl dX0_record_61 (fun h S => ?_)
    exact ex_vret hQ rfl (by
            refine ⟨rfl, rfl, s1, (fun i => if i = s1 k1 then A else P i), ?_⟩
            rw [kk]
            refine ⟨⟨r1, S, hr1, hs1, hi1, by omega⟩, fun j hj => ?_⟩
            show (if s1 j = s1 k1 then A else P (s1 j)) = _
            unfold recR
            by_cases c : k < 6
            · obtain ⟨rfl, rfl⟩ := c1 c
              rw [if_pos c]
              by_cases e : j = k1
              · rw [if_pos (by rw [e]), if_pos e]
              · rw [if_neg (fun q => e (hi1 _ _ (by omega) (by omega) q)), if_neg e]
            · obtain ⟨rfl, rfl⟩ := c2 c
              rw [if_neg c]
              by_cases e : j = 5
              · rw [if_pos (by rw [e]), if_pos e]
              · rw [if_neg (fun q => e (hi1 _ _ (by omega) (by omega) q)), if_neg e]
                show P (rot σ j) = P (σ (j + 1))
                unfold rot
                rw [if_pos (by omega)]) dX0_record_64
  rcases Nat.lt_or_ge k 6 with hlt | hge
  · refine ex_aload_n 0 dX0_record_0 rfl rfl ?_
    refine ex_get (v := .int (nI k)) fl_X0_17 S.1 rfl dX0_record_1 ?_
    refine ex_bipush (v := nI 6) dX0_record_4 (by decide) ?_
    refine ex_icmp_lt (tgt := 13) dX0_record_6 (by decide) (fun c_6 => ?_) (fun c_6 => absurd ((nI_ltI (by omega) (by omega)).mpr (by omega)) c_6)
    exact TL _ _ _ _ hlt S hr hσ hi (fun _ => ⟨rfl, rfl⟩) (fun q => absurd hlt q) (by rw [if_pos hlt])
  · refine ex_aload_n 0 dX0_record_0 rfl rfl ?_
    refine ex_get (v := .int (nI k)) fl_X0_17 S.1 rfl dX0_record_1 ?_
    refine ex_bipush (v := nI 6) dX0_record_4 (by decide) ?_
    refine ex_icmp_lt (tgt := 13) dX0_record_6 (by decide) (fun c_6 => absurd c_6 (fun q9 => absurd ((nI_ltI (by omega) (by omega)).mp q9) (by omega))) (fun c_6 => ?_)
    refine ex_aload_n 0 dX0_record_9 rfl rfl ?_
    obtain rfl : k = 6 := by omega
    refine ex_callV (As := []) (ci := 0) vl_X0_22 rfl (c_dropOldest S hr hσ) S.1 rfl (by decide) (Nat.le_of_ble_eq_true rfl) (Nat.le_refl _) (Nat.le_refl _) rfl dX0_record_10 (fun r9 h9 z9 hp => ?_)
    obtain ⟨rfl, rfl, r1, S, hr1⟩ := hp
    exact TL _ 5 _ (rot σ) (by omega) S hr1 (rot_lt hσ) (rot_inj hi) (fun q => absurd q (by omega)) (fun _ => ⟨rfl, rfl⟩) (by rw [if_neg (by omega)])

set_option maxRecDepth 20000 in
set_option maxHeartbeats 2000000 in
theorem c_takeBack {G : GG} {l : Launch} {h0 : HP} {z b k o : Nat} {r : Nat → Option Nat} {P : Nat → AS} {σ π : Nat → Nat} {A : AS} (S : HA G h0 h0 b k r P) (hr : ∀ j, j < 6 → r j = some (b + 2 + 11 * σ j)) (hσ : ∀ j, j < 6 → σ j < 6) (hi : ∀ i j, i < 6 → j < 6 → σ i = σ j → i = j) (k6 : k ≤ 6) (k1 : 1 ≤ k) (T : SP G h0 o π A) (hap : o + 11 ≤ b ∨ b + 68 ≤ o) (n8 : (P (σ (k - 1))).1 ≤ 8) : Ct G l 2 0 0 yX0_takeBack cX0_takeBack 2 none [.ref b, .ref o] h0 z (fun rr h1 z1 => rr = none ∧ z1 = z ∧ SP G h1 o π (P (σ (k - 1))) ∧ HS G h1 h1 b σ (k - 1) P ∧ ∀ a, (a < b ∨ b + 68 ≤ a) → (a < o ∨ o + 11 ≤ a) → h1 a = h0 a) := by
  refine Ct.intro (lv := [(0, .ref b), (1, .ref o)]) (by decide +kernel) (Nat.le_of_ble_eq_true rfl) rfl (fun X Q hQ hnm => ?_)
  refine ex_aload_n 0 dX0_takeBack_0 rfl rfl ?_
  refine ex_get (v := .int (nI k)) fl_X0_17 S.1 rfl dX0_takeBack_1 ?_
  refine ex_iconst (v := nI 1) dX0_takeBack_4 (by decide) ?_
  refine ex_icmp_lt (tgt := 31) dX0_takeBack_5 (by decide) (fun c_5 => absurd c_5 (fun q9 => absurd ((nI_ltI (by omega) (by omega)).mp q9) (by omega))) (fun c_5 => ?_)
  refine ex_aload_n 0 dX0_takeBack_8 rfl rfl ?_
  refine ex_get (v := .int (nI k)) fl_X0_17 S.1 rfl dX0_takeBack_9 ?_
  refine ex_bipush (v := nI 6) dX0_takeBack_12 (by decide) ?_
  refine ex_icmp_gt (tgt := 31) dX0_takeBack_14 (by decide) (fun c_14 => absurd c_14 (fun q9 => absurd ((nI_ltI (by omega) (by omega)).mp q9) (by omega))) (fun c_14 => ?_)
  refine ex_aload_n 0 dX0_takeBack_17 rfl rfl ?_
  refine ex_get (v := .ref (b + 1)) fl_X0_11 S.1 rfl dX0_takeBack_18 ?_
  refine ex_aload_n 0 dX0_takeBack_21 rfl rfl ?_
  refine ex_get (v := .int (nI k)) fl_X0_17 S.1 rfl dX0_takeBack_22 ?_
  refine ex_iconst (v := nI 1) dX0_takeBack_25 (by decide) ?_
  refine ex_isubN dX0_takeBack_26 (by omega) ?_
  refine exH_ld (i := k - 1) (v := b + 2 + 11 * (σ (k - 1))) S rfl (by omega) (hr _ (by omega)) dX0_takeBack_27 ?_
  refine ex_ifnonnull (tgt := 32) dX0_takeBack_28 (by decide) ?_
  refine ex_aload_n 0 dX0_takeBack_32 rfl rfl ?_
  refine ex_dup dX0_takeBack_33 rfl ?_
  refine ex_get (v := .int (nI k)) fl_X0_17 S.1 rfl dX0_takeBack_34 ?_
  refine ex_iconst (v := nI 1) dX0_takeBack_37 (by decide) ?_
  refine ex_isubN dX0_takeBack_38 (by omega) ?_
  refine exH_len (k2 := k - 1) S fl_X0_17 rfl dX0_takeBack_39 (fun h S => ?_)
  refine ex_aload_n 1 dX0_takeBack_42 rfl rfl ?_
  refine ex_aload_n 0 dX0_takeBack_43 rfl rfl ?_
  refine ex_get (v := .ref (b + 1)) fl_X0_11 S.1 rfl dX0_takeBack_44 ?_
  refine ex_aload_n 0 dX0_takeBack_47 rfl rfl ?_
  refine ex_get (v := .int (nI (k - 1))) fl_X0_17 S.1 rfl dX0_takeBack_48 ?_
  refine exH_ld (i := k - 1) (v := b + 2 + 11 * (σ (k - 1))) S rfl (by omega) (hr _ (by omega)) dX0_takeBack_51 ?_
  obtain ⟨π1, hπ⟩ := S.2.2.1 (σ (k - 1)) (hσ (k - 1) (by omega))
  refine ex_callV (As := [.ref (b + 2 + 11 * (σ (k - 1)))]) (ci := 3) vl_X0_25 rfl (c_copy (T.kept (fun a g1 g2 => S.2.2.2 a (by omega))) hπ (by have := hσ (k - 1) (by omega); omega) n8) (T.kept (fun a g1 g2 => S.2.2.2 a (by omega))).ob rfl (by decide) (Nat.le_of_ble_eq_true rfl) (Nat.le_refl _) (Nat.le_refl _) rfl dX0_takeBack_52 (fun r9 h9 z9 hp => ?_)
  obtain ⟨rfl, rfl, S9⟩ := hp
  exact ex_vret hQ rfl ⟨rfl, rfl, S9.1, ⟨r, S.kept (fun a g1 g2 => S9.2 a (by omega)), hr, hσ, hi, by omega⟩, fun a g1 g2 => by rw [S9.2 a (by omega)]; exact S.2.2.2 a (by omega)⟩ dX0_takeBack_55
end
section
/-! the pad: its object, its characters by their codes -/
def PD (G : GG) (h0 h : HP) (b len : Nat) (c : Nat → Nat) : Prop := h b = some (.inr (1, [.ref (b + 1), .int (nI len)])) ∧ (∃ f : Nat → Int32, h (b + 1) = some (aA G 1 60 f) ∧ ∀ i, i < len → f i = nI (c i)) ∧ len ≤ 60 ∧ ∀ a, (a < b ∨ b + 2 ≤ a) → h a = h0 a
theorem PD.kept {G : GG} {h0 h h1 : HP} {b len : Nat} {c : Nat → Nat} (S : PD G h0 h b len c) (q : ∀ a, b ≤ a → a < b + 2 → h1 a = h a) : PD G h1 h1 b len c := by
  obtain ⟨s1, ⟨f, s2, s3⟩, s4, s5⟩ := S
  exact ⟨by rw [q _ (by omega) (by omega)]; exact s1, ⟨f, by rw [q _ (by omega) (by omega)]; exact s2, s3⟩, s4, fun _ _ => rfl⟩
theorem PD.putL {G : GG} {h0 h : HP} {b len l2 : Nat} {c : Nat → Nat} {fs : List Value} (S : PD G h0 h b len c) (hf : fs = [.ref (b + 1), .int (nI l2)]) (hl : l2 ≤ len) : PD G h0 (hu h b (.inr (1, fs))) b l2 c := by
  obtain ⟨s1, ⟨f, s2, s3⟩, s4, s5⟩ := S
  exact ⟨by rw [hu_s, hf], ⟨f, by rw [hu_n (by omega)]; exact s2, fun i hi => s3 i (by omega)⟩, by omega, fun a ha => by rw [hu_n (by omega)]; exact s5 a ha⟩
/-- what a character is: behind the end a comma -/
def chA (len : Nat) (c : Nat → Nat) (i : Nat) : Nat := if i < len then c i else 44
def dI (c : Nat) : Bool := decide (48 ≤ c) && decide (c ≤ 57)
def shW (s : Int32) (c : Nat) : Int32 := nI 10 * s + nI c - nI 48
def canS (due : Nat) (s : Int32) (c : Nat) : Bool := match due with
  | 0 => decide (49 ≤ c) && decide (c ≤ 57)
  | 1 => decide (c = 102)
  | 2 => dI c
  | _ => decide (c = 44) || (dI c && (decide (0 < s) && decide (shW s c ≤ nI 100)))
def dueB (due c : Nat) : Nat := match due with
  | 0 => 1
  | 1 => 2
  | 2 => 3
  | _ => if c = 44 then 0 else 3
def bI (b : Bool) : Int32 := if b = true then nI 1 else nI 0
theorem bI_0 {b : Bool} (h : bI b = 0) : b = false := by
  cases b
  · rfl
  · exact absurd h (by decide)
theorem bI_1 {b : Bool} (h : ¬ bI b = 0) : b = true := by
  cases b
  · exact absurd (by decide) h
  · rfl
/-- the fault, from the place i on -/
def ffG (len : Nat) (c : Nat → Nat) (k i due : Nat) (s : Int32) : Option Nat := match k with
  | 0 => if due = 3 then none else some len
  | k + 1 => if canS due s (c i) = true then ffG len c k (i + 1) (dueB due (c i)) (if due ≠ 0 ∧ dI (c i) = true then shW s (c i) else nI 0) else some i
def ffA (len : Nat) (c : Nat → Nat) : Option Nat := ffG len c len 0 0 (nI 0)
def cms (c : Nat → Nat) (m : Nat) : Nat := match m with
  | 0 => 0
  | k + 1 => if c k = 44 then cms c k + 1 else cms c k
def adm8 (A : AS) (w s : Int32) : AS := if A.1 < 8 then admA A w s else A
/-- the people of the pad from the place i on, k characters and the end -/
def apG (len : Nat) (c : Nat → Nat) (k i : Nat) (w s : Int32) (A : AS) : AS := match k with
  | 0 => A
  | k + 1 => if chA len c i = 44 then apG len c k (i + 1) (nI 0) (nI 0) (adm8 A w s) else if w = 0 then apG len c k (i + 1) (nI (chA len c i) - nI 48) s A else if chA len c i = 102 then apG len c k (i + 1) w s A else apG len c k (i + 1) w (shW s (chA len c i)) A
theorem admA_1 {A : AS} {w s : Int32} : (admA A w s).1 = A.1 + 1 := by
  obtain ⟨n, g, t, u, q⟩ := A
  rfl
theorem adm8_8 {A : AS} {w s : Int32} (h : A.1 ≤ 8) : (adm8 A w s).1 ≤ 8 := by
  unfold adm8
  split
  · rw [admA_1]
    omega
  · exact h
section EPd
variable {G : GG} {l : Launch} {X : CT} {Q : State → Prop} {d mc ms cs sl : Nat} {cc : ByteArray} {own : String} {nL : Nat} {ret : Option FieldType} {h h0 : HP} {z pc : Nat} {lv : List (Nat × Value)} {st : List Value} {b len : Nat} {c : Nat → Nat}
theorem exD_ld {i : Nat} {x : Int32} (S : PD G h0 h b len c) (hx : x = nI i) (hi : i < len) (dg : decode cc pc = .ok (.caload, 1)) (k1 : ex G l X Q d mc ms cs sl cc own nL ret h z (pc + 1) lv (.int (nI (c i)) :: st)) : ex G l X Q d mc ms cs sl cc own nL ret h z pc lv (.int x :: .ref (b + 1) :: st) := by
  obtain ⟨s1, ⟨f, s2, s3⟩, s4, s5⟩ := S
  refine ex_cald s2 hx (by omega) (by decide) dg ?_
  rw [s3 i hi]
  exact k1
theorem exD_len {idx l2 : Nat} {v : Int32} (S : PD G h0 h b len c) (fl : FL own idx 1 1 .int false) (hv : v = nI l2) (hl : l2 ≤ len) (dg : decode cc pc = .ok (.putfield idx, 3)) (k1 : ∀ h : HP, PD G h0 h b l2 c → ex G l X Q d mc ms cs sl cc own nL ret h z (pc + 3) lv st) : ex G l X Q d mc ms cs sl cc own nL ret h z pc lv (.int v :: .ref b :: st) := by
  subst hv
  exact ex_put fl S.1 rfl rfl (Nat.le_of_ble_eq_true rfl) dg (k1 _ (S.putL rfl hl))
/-- a character is put behind the end: the length follows at once -/
theorem nar_c {v : Nat} (hv : v < 65536) : vp_nar .char (nI v) = nI v := by
  have h := (pk_charN hv).1
  unfold vp_nar
  rw [h]
theorem PD.app {v : Nat} {f : Nat → Int32} (S : PD G h0 h b len c) (hf : h (b + 1) = some (aA G 1 60 f)) (hv : v < 65536) (hl : len < 60) : PD G h0 (hu (hu h (b + 1) (aA G 1 60 (upd f len (vp_nar .char (nI v))))) b (.inr (1, [.ref (b + 1), .int (nI (len + 1))]))) b (len + 1) (fun i => if i = len then v else c i) := by
  obtain ⟨s1, ⟨f', s2, s3⟩, s4, s5⟩ := S
  have e : f = f' := by rw [hf] at s2; simpa using s2
  subst e
  refine ⟨hu_s, ⟨_, by rw [hu_n (by omega)]; exact hu_s, fun i hi => ?_⟩, by omega, fun a ha => by rw [hu_n (by omega), hu_n (by omega)]; exact s5 a ha⟩
  rw [nar_c hv]
  by_cases e : i = len
  · subst e
    rw [upd_s]
    simp
  · rw [upd_n e]
    simp only [e, if_false]
    exact s3 i (by omega)
end EPd
end
section
theorem Ct.mono {G : GG} {l : Launch} {d mc ms : Nat} {y : MethodName} {cc : ByteArray} {nL : Nat} {ret : Option FieldType} {as : List Value} {h : HP} {z : Nat} {p1 p2 : Option Value → HP → Nat → Prop} (e : p1 = p2) (C : Ct G l d mc ms y cc nL ret as h z p1) : Ct G l d mc ms y cc nL ret as h z p2 := e ▸ C
theorem arrC : Cond.arrayClass .char ∈ TW := tw_t 154 (by decide +kernel) (by decide +kernel)
theorem arrI : Cond.arrayClass .int ∈ TW := tw_t 70 (by decide +kernel) (by decide +kernel)
set_option maxRecDepth 20000 in
set_option maxHeartbeats 2000000 in
theorem c_Dinit {G : GG} {l : Launch} {h0 : HP} {b : Nat} (H0 : h0 b = some (.inr (1, [.null, .int 0]))) : Ct G l 1 1 60 yX1_init cX1_init 1 none [.ref b] h0 (b + 1) (fun r h1 z1 => r = none ∧ z1 = b + 2 ∧ PD G h0 h1 b 0 (fun _ => 0)) := by
  refine Ct.intro (lv := [(0, .ref b)]) (by decide +kernel) (Nat.le_of_ble_eq_true rfl) rfl (fun X Q hQ hnm => ?_)
  refine ex_heq (hu_id H0) ?_
  refine ex_aload_n 0 dX1_init_0 rfl rfl ?_
  refine ex_objInit oi_X1_3 oi_2 oi_3 (by decide) (Nat.le_of_ble_eq_true rfl) dX1_init_1 ?_
  refine ex_aload_n 0 dX1_init_4 rfl rfl ?_
  refine ex_bipush (v := nI 60) dX1_init_5 (by decide) ?_
  refine ex_newaC arrC (by decide) (by decide) (by decide) dX1_init_7 ?_
  refine ex_cZ (by omega) ?_
  refine ex_putFR (fs1 := [.ref (b + 1), .int 0]) hnm rfl fl_X1_9 rfl rfl (Nat.le_of_ble_eq_true rfl) rfl dX1_init_9 ?_
  refine ex_aload_n 0 dX1_init_12 rfl rfl ?_
  refine ex_iconst (v := nI 0) dX1_init_13 (by decide) ?_
  refine ex_putR (fs1 := [.ref (b + 1), .int (nI 0)]) fl_X1_15 rfl rfl (Nat.le_of_ble_eq_true rfl) rfl dX1_init_14 ?_
  exact ex_vret hQ rfl ⟨rfl, rfl, hu_s, ⟨_, by rw [hu_n (by omega)]; exact hu_s, fun i hi => absurd hi (Nat.not_lt_zero _)⟩, by decide, fun a ha => by rw [hu_n (by omega), hu_n (by omega)]⟩ dX1_init_17

/-- a history in the making: m States stand -/
def HI (G : GG) (h0 h : HP) (b m : Nat) : Prop := h b = some (.inr (0, [.ref (b + 1), .int (nI 0)])) ∧ (∃ r : Nat → Option Nat, h (b + 1) = some (aQ G 4 6 r) ∧ ∀ j, j < m → r j = some (b + 2 + 11 * j)) ∧ (∀ j, j < m → SP G h (b + 2 + 11 * j) (fun j => j) A0) ∧ ∀ a, (a < b ∨ b + 2 + 11 * m ≤ a) → h a = h0 a
theorem HI.done {G : GG} {h0 h : HP} {b : Nat} (H : HI G h0 h b 6) : HS G h0 h b (fun j => j) 0 (fun _ => A0) := by
  obtain ⟨h1, ⟨r, h2, h3⟩, h4, h5⟩ := H
  exact ⟨r, ⟨h1, h2, fun i hi => ⟨_, h4 i hi⟩, h5⟩, h3, fun j hj => hj, fun i j _ _ e => e, by decide⟩
theorem HI.next {G : GG} {h0 h h1 : HP} {b m : Nat} {r : Nat → Option Nat} {e : va_E} (H : HI G h0 h b m) (hr : h (b + 1) = some (aQ G 4 6 r)) (hm : m < 6) (S : SF G (hu h (b + 2 + 11 * m) e) h1 (b + 2 + 11 * m) (fun j => j) A0) : HI G h0 (hu h1 (b + 1) (aQ G 4 6 (va_up r m (some (b + 2 + 11 * m))))) b (m + 1) := by
  obtain ⟨g1, ⟨r', g2, g3⟩, g4, g5⟩ := H
  have e0 : r = r' := by rw [hr] at g2; simpa using g2
  subst e0
  have off : ∀ a, (a < b + 2 + 11 * m ∨ b + 2 + 11 * m + 11 ≤ a) → h1 a = h a := fun a ha => by rw [S.2 a ha, hu_n (by omega)]
  refine ⟨by rw [hu_n (by omega), off b (by omega)]; exact g1, ⟨_, hu_s, fun j hj => ?_⟩, fun j hj => ?_, fun a ha => by rw [hu_n (by omega), off a (by omega)]; exact g5 a (by omega)⟩
  · show (if j = m then _ else r j) = _
    by_cases e : j = m
    · rw [if_pos e, e]
    · rw [if_neg e]
      exact g3 j (by omega)
  · by_cases e : j = m
    · subst e
      exact S.1.kept (fun a a1 a2 => by rw [hu_n (by omega)])
    · exact (g4 j (by omega)).kept (fun a a1 a2 => by rw [hu_n (by omega), off a (by omega)])

set_option maxRecDepth 20000 in
set_option maxHeartbeats 2000000 in
theorem c_Hinit {G : GG} {l : Launch} {h0 : HP} {b : Nat} (H0 : h0 b = some (.inr (0, [.null, .int 0]))) : Ct G l 3 67 456 yX0_init cX0_init 2 none [.ref b] h0 (b + 1) (fun r h1 z1 => r = none ∧ z1 = b + 68 ∧ HS G h0 h1 b (fun j => j) 0 (fun _ => A0)) := by
  refine Ct.intro (lv := [(0, .ref b)]) (by decide +kernel) (Nat.le_of_ble_eq_true rfl) rfl (fun X Q hQ hnm => ?_)
  refine ex_heq (hu_id H0) ?_
  refine ex_aload_n 0 dX0_init_0 rfl rfl ?_
  refine ex_objInit oi_X0_3 oi_2 oi_3 (by decide) (Nat.le_of_ble_eq_true rfl) dX0_init_1 ?_
  refine ex_aload_n 0 dX0_init_4 rfl rfl ?_
  refine ex_bipush (v := nI 6) dX0_init_5 (by decide) ?_
  refine ex_anew (t := 4) rfl cl_X0_9 (Or.inr rfl) (by decide) (by decide) (by decide) dX0_init_7 ?_
  refine ex_cZ (by omega) ?_
  refine ex_putFR (fs1 := [.ref (b + 1), .int 0]) hnm rfl fl_X0_11 rfl rfl (Nat.le_of_ble_eq_true rfl) rfl dX0_init_10 ?_
  refine ex_aload_n 0 dX0_init_13 rfl rfl ?_
  refine ex_iconst (v := nI 0) dX0_init_14 (by decide) ?_
  refine ex_putR (fs1 := [.ref (b + 1), .int (nI 0)]) fl_X0_17 rfl rfl (Nat.le_of_ble_eq_true rfl) rfl dX0_init_15 ?_
  refine ex_iconst (v := nI 0) dX0_init_18 (by decide) ?_
  refine ex_istore_n (lv' := [(1, .int (nI 0)), (0, .ref b)]) dX0_init_19 rfl (by decide) rfl ?_
  suffices H : ∀ (k m : Nat) (h : HP), m + k = 6 → HI G h0 h b m → ex G l X Q 3 67 456 (1 + 11 * m) (6 + 75 * m) cX0_init yX0_init.cls 2 none h (b + 2 + 11 * m) 20 [(1, .int (nI m)), (0, .ref b)] [] from by
    refine ex_widen (c2 := 1 + 11 * 0) (s2 := 6 + 75 * 0) (by decide) (by decide) ?_
    exact H 6 0 _ (by omega) ⟨hu_s, ⟨_, by rw [hu_n (by omega)]; exact hu_s, fun j hj => absurd hj (Nat.not_lt_zero _)⟩, fun j hj => absurd hj (Nat.not_lt_zero _), fun a ha => by rw [hu_n (by omega), hu_n (by omega)]⟩
  intro k
  induction k with
  | zero =>
    intro m h hm S
    obtain rfl : m = 6 := by omega
    refine ex_iload_n 0 dX0_init_20 rfl rfl ?_
    refine ex_bipush (v := nI 6) dX0_init_21 (by decide) ?_
    refine ex_icmp_ge (tgt := 45) dX0_init_23 (by decide) (fun c_23 => ?_) (fun c_23 => absurd ((nI_leI (by omega) (by omega)).mpr (by omega)) c_23)
    exact ex_vret hQ rfl ⟨rfl, rfl, S.done⟩ dX0_init_45
  | succ k ih =>
    intro m h hm S
    obtain ⟨r, hr, -⟩ := S.2.1
    refine ex_iload_n 0 dX0_init_20 rfl rfl ?_
    refine ex_bipush (v := nI 6) dX0_init_21 (by decide) ?_
    refine ex_icmp_ge (tgt := 45) dX0_init_23 (by decide) (fun c_23 => absurd c_23 (fun q9 => absurd ((nI_leI (by omega) (by omega)).mp q9) (by omega))) (fun c_23 => ?_)
    refine ex_aload_n 1 dX0_init_26 rfl rfl ?_
    refine ex_get (v := .ref (b + 1)) fl_X0_11 S.1 rfl dX0_init_27 ?_
    refine ex_iload_n 0 dX0_init_30 rfl rfl ?_
    refine ex_new nl_X0_9 (by omega) (by omega) dX0_init_31 ?_
    refine ex_dup dX0_init_34 rfl ?_
    refine ex_callI (As := []) vl_X0_21 (c_Sinit hu_s) rfl (by decide) (Nat.le_of_ble_eq_true rfl) (by omega) (by omega) rfl dX0_init_35 (fun r1 h1 z1 hp => ?_)
    obtain ⟨rfl, rfl, S1⟩ := hp
    refine ex_aast (t := 4) (ci := 3) (r := (RX3, TX3, 13)) (n := 6) (f := r) (j := m) rfl rfl (by rw [S1.2 _ (by omega), hu_n (by omega)]; exact hr) S1.ob rfl (by omega) (by decide) dX0_init_38 ?_
    refine ex_iinc (v := nI (m + 1)) (lv' := [(1, .int (nI (m + 1))), (0, .ref b)]) 0 dX0_init_39 rfl (nI_1 m) (by decide) rfl ?_
    refine ex_goto (tgt := 20) dX0_init_42 (by decide) ?_
    refine ex_widen (c2 := 1 + 11 * (m + 1)) (s2 := 6 + 75 * (m + 1)) (by omega) (by omega) ?_
    refine ex_zeq (show b + 2 + 11 * m + 11 = b + 2 + 11 * (m + 1) by omega) ?_
    exact ih (m + 1) _ (by omega) (S.next hr (by omega) S1)
end
section
/-! the whole object of the class -/
abbrev CX : Type := AS × Nat × (Nat → AS) × (Nat → Option AS) × Nat × (Nat → Nat)
def ppF (b : Nat) : List Value := [.ref (b + 1), .ref (b + 12), .ref (b + 23), .ref (b + 91), .ref (b + 92)]
/-- a slot's State, by its address -/
def slA (G : GG) (h : HP) (z b : Nat) (v : Option AS) (r : Option Nat) : Prop := match v with
  | none => r = none
  | some B => ∃ (a : Nat) (π : Nat → Nat), r = some a ∧ b + 94 ≤ a ∧ a + 11 ≤ z ∧ SP G h a π B
def PP (G : GG) (h : HP) (z b : Nat) (x : CX) : Prop :=
  h b = some (.inr (4, ppF b)) ∧ (∃ π, SP G h (b + 1) π x.1) ∧ (∃ π T, SP G h (b + 12) π T) ∧ (∃ (σ : Nat → Nat) (P : Nat → AS), HS G h h (b + 23) σ x.2.1 P ∧ ∀ j, j < x.2.1 → P (σ j) = x.2.2.1 j) ∧ (∃ r : Nat → Option Nat, h (b + 91) = some (aQ G 4 2 r) ∧ (∀ i, i < 2 → slA G h z b (x.2.2.2.1 i) (r i)) ∧ ∀ a0 a1, r 0 = some a0 → r 1 = some a1 → a0 + 11 ≤ a1 ∨ a1 + 11 ≤ a0) ∧ PD G h h (b + 92) x.2.2.2.2.1 x.2.2.2.2.2 ∧ b + 94 ≤ z
def XF (G : GG) (h0 h : HP) (z b : Nat) (x : CX) : Prop := PP G h z b x ∧ ∀ a, b + 94 ≤ a → a < b + 94 → h a = h0 a
theorem slA.kept {G : GG} {h h1 : HP} {z b : Nat} {v : Option AS} {r : Option Nat} (S : slA G h z b v r) (q : ∀ a, b + 94 ≤ a → h1 a = h a) : slA G h1 z b v r := by
  cases v with
  | none => exact S
  | some B =>
    obtain ⟨a, π, e1, e2, e3, e4⟩ := S
    exact ⟨a, π, e1, e2, e3, e4.kept (fun x g1 g2 => q x (by omega))⟩
theorem HS.kept {G : GG} {h h1 : HP} {b k : Nat} {σ : Nat → Nat} {P : Nat → AS} (S : HS G h h b σ k P) (q : ∀ a, b ≤ a → a < b + 68 → h1 a = h a) : HS G h1 h1 b σ k P := by
  obtain ⟨r, s1, s2⟩ := S
  exact ⟨r, s1.kept q, s2⟩
theorem PP.ob {G : GG} {h : HP} {z b : Nat} {x : CX} (S : PP G h z b x) : h b = some (.inr (4, ppF b)) := S.1
theorem PP.nob {G : GG} {h : HP} {z b : Nat} {x : CX} (S : PP G h z b x) : h (b + 1) = some (.inr (3, stF (b + 1) x.1)) := by
  obtain ⟨π, hN⟩ := S.2.1
  exact hN.ob
theorem PP.tob {G : GG} {h : HP} {z b : Nat} {x : CX} (S : PP G h z b x) : ∃ T : AS, h (b + 12) = some (.inr (3, stF (b + 12) T)) := by
  obtain ⟨π, T, hN⟩ := S.2.2.1
  exact ⟨T, hN.ob⟩
theorem PP.hob {G : GG} {h : HP} {z b : Nat} {x : CX} (S : PP G h z b x) : h (b + 23) = some (.inr (0, [.ref (b + 23 + 1), .int (nI x.2.1)])) := by
  obtain ⟨σ, P, ⟨r, hA, -⟩, -⟩ := S.2.2.2.1
  exact hA.1
theorem PP.pob {G : GG} {h : HP} {z b : Nat} {x : CX} (S : PP G h z b x) : h (b + 92) = some (.inr (1, [.ref (b + 92 + 1), .int (nI x.2.2.2.2.1)])) := S.2.2.2.2.2.1.1
/-- another value of 'now' -/
theorem XF.now {G : GG} {h0 h h1 : HP} {z b : Nat} {x : CX} {π : Nat → Nat} {A : AS} (S : XF G h0 h z b x) (N : SF G h h1 (b + 1) π A) : XF G h0 h1 z b (A, x.2) := by
  obtain ⟨⟨s1, s2, ⟨π3, T, s3⟩, ⟨σ, P, s4, s4'⟩, ⟨r, s5, s5', s5''⟩, s6, s7⟩, s8⟩ := S
  have q : ∀ a, (a < b + 1 ∨ b + 1 + 11 ≤ a) → h1 a = h a := N.2
  exact ⟨⟨by rw [q _ (by omega)]; exact s1, ⟨π, N.1⟩, ⟨π3, T, s3.kept (fun a g1 g2 => q a (by omega))⟩, ⟨σ, P, s4.kept (fun a g1 g2 => q a (by omega)), s4'⟩, ⟨r, by rw [q _ (by omega)]; exact s5, fun i hi => (s5' i hi).kept (fun a g => q a (by omega)), s5''⟩, s6.kept (fun a g1 g2 => q a (by omega)), s7⟩, fun a g1 g2 => by rw [q a (by omega)]; exact s8 a g1 g2⟩
theorem XF.trial {G : GG} {h0 h h1 : HP} {z b : Nat} {x : CX} {π : Nat → Nat} {A : AS} (S : XF G h0 h z b x) (N : SF G h h1 (b + 12) π A) : XF G h0 h1 z b x := by
  obtain ⟨⟨s1, ⟨π2, s2⟩, s3, ⟨σ, P, s4, s4'⟩, ⟨r, s5, s5', s5''⟩, s6, s7⟩, s8⟩ := S
  have q : ∀ a, (a < b + 12 ∨ b + 12 + 11 ≤ a) → h1 a = h a := N.2
  exact ⟨⟨by rw [q _ (by omega)]; exact s1, ⟨π2, s2.kept (fun a g1 g2 => q a (by omega))⟩, ⟨π, A, N.1⟩, ⟨σ, P, s4.kept (fun a g1 g2 => q a (by omega)), s4'⟩, ⟨r, by rw [q _ (by omega)]; exact s5, fun i hi => (s5' i hi).kept (fun a g => q a (by omega)), s5''⟩, s6.kept (fun a g1 g2 => q a (by omega)), s7⟩, fun a g1 g2 => by rw [q a (by omega)]; exact s8 a g1 g2⟩
theorem XF.hist {G : GG} {h0 h h1 : HP} {z b k : Nat} {x : CX} {σ : Nat → Nat} {P L : Nat → AS} (S : XF G h0 h z b x) (N : HS G h h1 (b + 23) σ k P) (hL : ∀ j, j < k → P (σ j) = L j) : XF G h0 h1 z b (x.1, k, L, x.2.2.2) := by
  obtain ⟨⟨s1, ⟨π2, s2⟩, ⟨π3, T, s3⟩, -, ⟨r, s5, s5', s5''⟩, s6, s7⟩, s8⟩ := S
  obtain ⟨r1, n1, n2⟩ := N
  have q : ∀ a, (a < b + 23 ∨ b + 23 + 68 ≤ a) → h1 a = h a := n1.2.2.2
  exact ⟨⟨by rw [q _ (by omega)]; exact s1, ⟨π2, s2.kept (fun a g1 g2 => q a (by omega))⟩, ⟨π3, T, s3.kept (fun a g1 g2 => q a (by omega))⟩, ⟨σ, P, ⟨r1, n1.kept (fun _ _ _ => rfl), n2⟩, hL⟩, ⟨r, by rw [q _ (by omega)]; exact s5, fun i hi => (s5' i hi).kept (fun a g => q a (by omega)), s5''⟩, s6.kept (fun a g1 g2 => q a (by omega)), s7⟩, fun a g1 g2 => by rw [q a (by omega)]; exact s8 a g1 g2⟩
theorem XF.pad {G : GG} {h0 h h1 : HP} {z b len : Nat} {x : CX} {c : Nat → Nat} (S : XF G h0 h z b x) (N : PD G h h1 (b + 92) len c) : XF G h0 h1 z b (x.1, x.2.1, x.2.2.1, x.2.2.2.1, len, c) := by
  obtain ⟨⟨s1, ⟨π2, s2⟩, ⟨π3, T, s3⟩, ⟨σ, P, s4, s4'⟩, ⟨r, s5, s5', s5''⟩, -, s7⟩, s8⟩ := S
  have q : ∀ a, (a < b + 92 ∨ b + 92 + 2 ≤ a) → h1 a = h a := N.2.2.2
  exact ⟨⟨by rw [q _ (by omega)]; exact s1, ⟨π2, s2.kept (fun a g1 g2 => q a (by omega))⟩, ⟨π3, T, s3.kept (fun a g1 g2 => q a (by omega))⟩, ⟨σ, P, s4.kept (fun a g1 g2 => q a (by omega)), s4'⟩, ⟨r, by rw [q _ (by omega)]; exact s5, fun i hi => (s5' i hi).kept (fun a g => q a (by omega)), s5''⟩, N.kept (fun _ _ _ => rfl), s7⟩, fun a g1 g2 => by rw [q a (by omega)]; exact s8 a g1 g2⟩
/-- a slot's State has another value -/
theorem XF.slot {G : GG} {h0 h h1 : HP} {z b i a : Nat} {x : CX} {π : Nat → Nat} {A B : AS} {r : Nat → Option Nat} (S : XF G h0 h z b x) (hr : h (b + 91) = some (aQ G 4 2 r)) (hi : i < 2) (ha : r i = some a) (hV : x.2.2.2.1 i = some B) (N : SF G h h1 a π A) : XF G h0 h1 z b (x.1, x.2.1, x.2.2.1, (fun j => if j = i then some A else x.2.2.2.1 j), x.2.2.2.2) := by
  obtain ⟨⟨s1, ⟨π2, s2⟩, ⟨π3, T, s3⟩, ⟨σ, P, s4, s4'⟩, ⟨r', s5, s5', s5''⟩, s6, s7⟩, s8⟩ := S
  have e : r = r' := by rw [hr] at s5; simpa using s5
  subst e
  have hs := s5' i hi
  rw [hV] at hs
  obtain ⟨a', π', e1, e2, e3, e4⟩ := hs
  obtain rfl : a' = a := by rw [ha] at e1; simpa using e1.symm
  have q : ∀ y, (y < a' ∨ a' + 11 ≤ y) → h1 y = h y := N.2
  refine ⟨⟨by rw [q _ (by omega)]; exact s1, ⟨π2, s2.kept (fun a g1 g2 => q a (by omega))⟩, ⟨π3, T, s3.kept (fun a g1 g2 => q a (by omega))⟩, ⟨σ, P, s4.kept (fun a g1 g2 => q a (by omega)), s4'⟩, ⟨r, by rw [q _ (by omega)]; exact s5, fun j hj => ?_, s5''⟩, s6.kept (fun a g1 g2 => q a (by omega)), s7⟩, fun a g1 g2 => by rw [q a (by omega)]; exact s8 a g1 g2⟩
  show slA G h1 z b (if j = i then some A else x.2.2.2.1 j) (r j)
  by_cases ej : j = i
  · subst ej
    rw [if_pos rfl]
    exact ⟨a', π, ha, e2, e3, N.1⟩
  · rw [if_neg ej]
    have hj2 := s5' j hj
    cases hv : x.2.2.2.1 j with
    | none => rw [hv] at hj2; exact hj2
    | some B2 =>
      rw [hv] at hj2
      obtain ⟨a2, π4, f1, f2, f3, f4⟩ := hj2
      have hap : a' + 11 ≤ a2 ∨ a2 + 11 ≤ a' := by
        rcases (show (i = 0 ∧ j = 1) ∨ (i = 1 ∧ j = 0) by omega) with ⟨rfl, rfl⟩ | ⟨rfl, rfl⟩
        · exact s5'' _ _ ha f1
        · exact (s5'' _ _ f1 ha).symm
      exact ⟨a2, π4, f1, f2, f3, f4.kept (fun y g1 g2 => q y (by omega))⟩
abbrev inR (x : Int32) (n : Nat) : Prop := 0 ≤ x ∧ x < nI n
abbrev ixI (x : Int32) : Nat := x.toNatClampNeg
theorem inR_of {x : Int32} {n : Nat} (h : inR x n) (hn : n < 2 ^ 31) : ∃ j, j < n ∧ x = nI j := by
  obtain ⟨h1, h2⟩ := h
  obtain ⟨j, hj, rfl⟩ := nI_of (Int32.not_lt.mpr h1)
  exact ⟨j, (nI_ltI hj hn).mp h2, rfl⟩
theorem inR_nI {j n : Nat} (h : j < n) (hn : n < 2 ^ 31) : inR (nI j) n := ⟨nI_pos' (by omega), nI_lt h hn⟩
theorem inR_not {x : Int32} {n : Nat} (h : ¬ inR x n) : x < 0 ∨ nI n ≤ x := by
  unfold inR at h
  by_cases c : 0 ≤ x
  · exact Or.inr (Int32.not_lt.mp (fun q => h ⟨c, q⟩))
  · exact Or.inl (Int32.not_le.mp c)
/-- what is recorded ahead of a change -/
def recX (x : CX) (A : AS) : CX := (A, (if x.2.1 < 6 then x.2.1 + 1 else 6), recR x.2.1 x.2.2.1 x.1, x.2.2.2)
end
section
/-! calls within the class -/
def pX (G : GG) (p : Int32 × CX) (h0 : HP) (z b : Nat) : Option Value → HP → Nat → Prop := fun r h1 z1 => r = some (.int p.1) ∧ z1 = z ∧ XF G h0 h1 z b p.2
theorem PP.xf {G : GG} {h : HP} {z b : Nat} {x : CX} (S : PP G h z b x) : XF G h h z b x := ⟨S, fun _ _ _ => rfl⟩
section EX4
variable {G : GG} {l : Launch} {X : CT} {Q : State → Prop} {d mc ms cs sl : Nat} {cc : ByteArray} {own : String} {nL : Nat} {ret : Option FieldType} {h h0 : HP} {z pc : Nat} {lv : List (Nat × Value)} {st : List Value} {b : Nat}
/-- 'now' changes -/
theorem exX_now {idx m d1 ny : Nat} {x : CX} {y : MethodName} {cy : ByteArray} {ry : Option FieldType} {As : List Value} {r0 : Option Value} {f : (Nat → Nat) → Nat → Nat} {B : AS} {st0 : List Value} (V : VV own idx y cy ny ry m) (hC : y.cls = RX3) (S : XF G h0 h z b x) (K : ∀ π, SP G h (b + 1) π x.1 → Ct G l d1 0 0 y cy ny ry (.ref (b + 1) :: As) h z (pS G r0 h z (b + 1) (f π) B)) (hn : As.length = m) (hd : d1 + 1 ≤ d) (hst : (st.map fun v => v.category).sum ≤ 8) (hc : cs ≤ mc) (hs : sl ≤ ms) (stk : st0 = As.reverse ++ .ref (b + 1) :: st) (dg : decode cc pc = .ok (.invokevirtual idx, 3)) (k1 : ∀ h : HP, XF G h0 h z b (B, x.2) → ex G l X Q d mc ms cs sl cc own nL ret h z (pc + 3) lv (r0.toList ++ st)) : ex G l X Q d mc ms cs sl cc own nL ret h z pc lv st0 := by
  obtain ⟨π, hN⟩ := S.1.2.1
  exact ex_callV V (ci := 3) (by rw [hC]; rfl) (K π hN) hN.ob hn hd hst hc hs stk dg (fun r h1 z1 hp => by obtain ⟨rfl, rfl, S1⟩ := hp; exact k1 h1 (S.now S1))
/-- the trial changes -/
theorem exX_trial {idx m d1 ny : Nat} {x : CX} {π : Nat → Nat} {A : AS} {y : MethodName} {cy : ByteArray} {ry : Option FieldType} {As : List Value} {r0 : Option Value} {π1 : Nat → Nat} {B : AS} {st0 : List Value} (V : VV own idx y cy ny ry m) (hC : y.cls = RX3) (S : XF G h0 h z b x) (T : SP G h (b + 12) π A) (K : Ct G l d1 0 0 y cy ny ry (.ref (b + 12) :: As) h z (pS G r0 h z (b + 12) π1 B)) (hn : As.length = m) (hd : d1 + 1 ≤ d) (hst : (st.map fun v => v.category).sum ≤ 8) (hc : cs ≤ mc) (hs : sl ≤ ms) (stk : st0 = As.reverse ++ .ref (b + 12) :: st) (dg : decode cc pc = .ok (.invokevirtual idx, 3)) (k1 : ∀ h : HP, XF G h0 h z b x → SP G h (b + 12) π1 B → ex G l X Q d mc ms cs sl cc own nL ret h z (pc + 3) lv (r0.toList ++ st)) : ex G l X Q d mc ms cs sl cc own nL ret h z pc lv st0 :=
  ex_callV V (ci := 3) (by rw [hC]; rfl) K T.ob hn hd hst hc hs stk dg (fun r h1 z1 hp => by obtain ⟨rfl, rfl, S1⟩ := hp; exact k1 h1 (S.trial S1) S1.1)
/-- trial.copyFrom(now) -/
theorem exX_copyT {idx : Nat} {x : CX} {st0 : List Value} (V : VV own idx yX3_copyFrom cX3_copyFrom 5 none 1) (S : XF G h0 h z b x) (n8 : x.1.1 ≤ 8) (hd : 2 ≤ d) (hst : (st.map fun v => v.category).sum ≤ 8) (hc : cs ≤ mc) (hs : sl ≤ ms) (stk : st0 = .ref (b + 1) :: .ref (b + 12) :: st) (dg : decode cc pc = .ok (.invokevirtual idx, 3)) (k1 : ∀ (h : HP) (π : Nat → Nat), XF G h0 h z b x → SP G h (b + 12) π x.1 → ex G l X Q d mc ms cs sl cc own nL ret h z (pc + 3) lv st) : ex G l X Q d mc ms cs sl cc own nL ret h z pc lv st0 := by
  obtain ⟨π1, T0, hT⟩ := S.1.2.2.1
  obtain ⟨π2, hN⟩ := S.1.2.1
  exact exX_trial (As := [.ref (b + 1)]) (r0 := none) V rfl S hT (c_copy hT hN (by omega) n8) rfl hd hst hc hs stk dg (fun h S1 T1 => k1 h π1 S1 T1)
/-- history.record(now) -/
theorem exX_rec {idx : Nat} {x : CX} {st0 : List Value} (V : VV own idx yX0_record cX0_record 2 none 1) (S : XF G h0 h z b x) (n8 : x.1.1 ≤ 8) (hd : 3 ≤ d) (hst : (st.map fun v => v.category).sum ≤ 8) (hc : cs ≤ mc) (hs : sl ≤ ms) (stk : st0 = .ref (b + 1) :: .ref (b + 23) :: st) (dg : decode cc pc = .ok (.invokevirtual idx, 3)) (k1 : ∀ h : HP, XF G h0 h z b (recX x x.1) → ex G l X Q d mc ms cs sl cc own nL ret h z (pc + 3) lv st) : ex G l X Q d mc ms cs sl cc own nL ret h z pc lv st0 := by
  obtain ⟨π2, hN⟩ := S.1.2.1
  obtain ⟨σ, P, ⟨r, hA, hr, hσ, hi, k6⟩, hL⟩ := S.1.2.2.2.1
  refine ex_callV V (As := [.ref (b + 1)]) (ci := 0) rfl (c_record hA hr hσ hi k6 hN (by omega) n8) hA.1 rfl hd hst hc hs stk dg (fun r1 h1 z1 hp => ?_)
  obtain ⟨rfl, rfl, σ1, P1, H1, H2⟩ := hp
  refine k1 h1 (S.hist H1 (fun j hj => ?_))
  rw [H2 j hj]
  unfold recR
  have k6' : x.2.1 ≤ 6 := k6
  split
  · rename_i c
    rw [if_pos c] at hj
    split
    · rfl
    · exact hL j (by omega)
  · rename_i c
    rw [if_neg c] at hj
    split
    · rfl
    · exact hL (j + 1) (by omega)
/-- history.takeBack(now) -/
theorem exX_back {idx : Nat} {x : CX} {st0 : List Value} (V : VV own idx yX0_takeBack cX0_takeBack 2 none 1) (S : XF G h0 h z b x) (k1 : 1 ≤ x.2.1) (n8 : (x.2.2.1 (x.2.1 - 1)).1 ≤ 8) (hd : 3 ≤ d) (hst : (st.map fun v => v.category).sum ≤ 8) (hc : cs ≤ mc) (hs : sl ≤ ms) (stk : st0 = .ref (b + 1) :: .ref (b + 23) :: st) (dg : decode cc pc = .ok (.invokevirtual idx, 3)) (k2 : ∀ h : HP, XF G h0 h z b (x.2.2.1 (x.2.1 - 1), x.2.1 - 1, x.2.2) → ex G l X Q d mc ms cs sl cc own nL ret h z (pc + 3) lv st) : ex G l X Q d mc ms cs sl cc own nL ret h z pc lv st0 := by
  obtain ⟨π2, hN⟩ := S.1.2.1
  obtain ⟨σ, P, ⟨r, hA, hr, hσ, hi, k6⟩, hL⟩ := S.1.2.2.2.1
  have e1 : P (σ (x.2.1 - 1)) = x.2.2.1 (x.2.1 - 1) := hL _ (by omega)
  refine ex_callV V (As := [.ref (b + 1)]) (ci := 0) rfl (c_takeBack hA hr hσ hi k6 k1 hN (by omega) (by rw [e1]; exact n8)) hA.1 rfl hd hst hc hs stk dg (fun r1 h1 z1 hp => ?_)
  obtain ⟨rfl, rfl, H1, H2, H3⟩ := hp
  rw [e1] at H1
  refine k2 h1 ?_
  obtain ⟨⟨s1, -, ⟨π3, T, s3⟩, -, ⟨r5, s5, s5', s5''⟩, s6, s7⟩, s8⟩ := S
  have q : ∀ a, (a < b + 23 ∨ b + 23 + 68 ≤ a) → (a < b + 1 ∨ b + 1 + 11 ≤ a) → h1 a = h a := H3
  exact ⟨⟨by rw [q _ (by omega) (by omega)]; exact s1, ⟨π2, H1⟩, ⟨π3, T, s3.kept (fun a g1 g2 => q a (by omega) (by omega))⟩, ⟨σ, P, H2, fun j (hj : j < x.2.1 - 1) => hL j (by omega)⟩, ⟨r5, by rw [q _ (by omega) (by omega)]; exact s5, fun i hi => (s5' i hi).kept (fun a g => q a (by omega) (by omega)), s5''⟩, s6.kept (fun a g1 g2 => q a (by omega) (by omega)), s7⟩, fun a g1 g2 => by rw [q a (by omega) (by omega)]; exact s8 a g1 g2⟩
/-- a slot is looked up -/
theorem exX_sl {i : Nat} {v : Int32} {x : CX} (S : XF G h0 h z b x) (hv : v = nI i) (hi : i < 2) (dg : decode cc pc = .ok (.aaload, 1)) (k1 : ∀ r : Option Nat, slA G h z b (x.2.2.2.1 i) r → ex G l X Q d mc ms cs sl cc own nL ret h z (pc + 1) lv (va_rf r :: st)) : ex G l X Q d mc ms cs sl cc own nL ret h z pc lv (.int v :: .ref (b + 91) :: st) := by
  obtain ⟨r, s5, s5', s5''⟩ := S.1.2.2.2.2.1
  exact ex_aald4 s5 hv hi (by decide) dg (k1 _ (s5' i hi))
/-- now.copyFrom(a slot) -/
theorem exX_fromS {idx a : Nat} {x : CX} {B : AS} {st0 : List Value} (V : VV own idx yX3_copyFrom cX3_copyFrom 5 none 1) (S : XF G h0 h z b x) (T : slA G h z b (some B) (some a)) (n8 : B.1 ≤ 8) (hd : 2 ≤ d) (hst : (st.map fun v => v.category).sum ≤ 8) (hc : cs ≤ mc) (hs : sl ≤ ms) (stk : st0 = .ref a :: .ref (b + 1) :: st) (dg : decode cc pc = .ok (.invokevirtual idx, 3)) (k1 : ∀ (h : HP), XF G h0 h z b (B, x.2) → ex G l X Q d mc ms cs sl cc own nL ret h z (pc + 3) lv st) : ex G l X Q d mc ms cs sl cc own nL ret h z pc lv st0 := by
  obtain ⟨a', π, e1, e2, e3, e4⟩ := T
  obtain rfl : a = a' := Option.some.inj e1
  exact exX_now (As := [.ref a]) (r0 := none) (f := fun π => π) V rfl S (fun π1 hN => c_copy hN e4 (by omega) n8) rfl hd hst hc hs stk dg (fun h S1 => k1 h S1)
/-- a slot.copyFrom(now) -/
theorem exX_toS {idx a i : Nat} {x : CX} {B : AS} {r : Nat → Option Nat} {st0 : List Value} (V : VV own idx yX3_copyFrom cX3_copyFrom 5 none 1) (S : XF G h0 h z b x) (hr : h (b + 91) = some (aQ G 4 2 r)) (hi : i < 2) (ha : r i = some a) (hV : x.2.2.2.1 i = some B) (n8 : x.1.1 ≤ 8) (hd : 2 ≤ d) (hst : (st.map fun v => v.category).sum ≤ 8) (hc : cs ≤ mc) (hs : sl ≤ ms) (stk : st0 = .ref (b + 1) :: .ref a :: st) (dg : decode cc pc = .ok (.invokevirtual idx, 3)) (k1 : ∀ (h : HP), XF G h0 h z b (x.1, x.2.1, x.2.2.1, (fun j => if j = i then some x.1 else x.2.2.2.1 j), x.2.2.2.2) → ex G l X Q d mc ms cs sl cc own nL ret h z (pc + 3) lv st) : ex G l X Q d mc ms cs sl cc own nL ret h z pc lv st0 := by
  obtain ⟨r', s5, s5', s5''⟩ := S.1.2.2.2.2.1
  obtain rfl : r = r' := by rw [hr] at s5; simpa using s5
  have T := s5' i hi
  rw [hV] at T
  obtain ⟨a', π, e1, e2, e3, e4⟩ := T
  obtain rfl : a = a' := by rw [ha] at e1; exact Option.some.inj e1
  obtain ⟨π2, hN⟩ := S.1.2.1
  exact ex_callV V (As := [.ref (b + 1)]) (ci := 3) rfl (c_copy e4 hN (by omega) n8) e4.ob rfl hd hst hc hs stk dg (fun r1 h1 z1 hp => by obtain ⟨rfl, rfl, S1⟩ := hp; exact k1 h1 (S.slot hr hi ha hV S1))
/-- the pad changes -/
theorem exX_pad {idx m d1 ny len2 : Nat} {x : CX} {c2 : Nat → Nat} {y : MethodName} {cy : ByteArray} {ry : Option FieldType} {As : List Value} {st0 : List Value} (V : VV own idx y cy ny ry m) (hC : y.cls = RX1) (S : XF G h0 h z b x) (K : PD G h h (b + 92) x.2.2.2.2.1 x.2.2.2.2.2 → Ct G l d1 0 0 y cy ny ry (.ref (b + 92) :: As) h z (fun r h1 z1 => r = none ∧ z1 = z ∧ PD G h h1 (b + 92) len2 c2)) (hn : As.length = m) (hd : d1 + 1 ≤ d) (hst : (st.map fun v => v.category).sum ≤ 8) (hc : cs ≤ mc) (hs : sl ≤ ms) (stk : st0 = As.reverse ++ .ref (b + 92) :: st) (dg : decode cc pc = .ok (.invokevirtual idx, 3)) (k1 : ∀ h : HP, XF G h0 h z b (x.1, x.2.1, x.2.2.1, x.2.2.2.1, len2, c2) → ex G l X Q d mc ms cs sl cc own nL ret h z (pc + 3) lv st) : ex G l X Q d mc ms cs sl cc own nL ret h z pc lv st0 :=
  ex_callV V (ci := 1) (by rw [hC]; rfl) (K S.1.2.2.2.2.2.1) S.1.pob hn hd hst hc hs stk dg (fun r h1 z1 hp => by obtain ⟨rfl, rfl, S1⟩ := hp; exact k1 h1 (S.pad S1))
/-- a setting of 'now' -/
theorem exX_ld {i : Nat} {v w : Int32} {x : CX} (S : XF G h0 h z b x) (hv : v = nI i) (hi : i < 6) (hw : x.1.2.2.2.1 i = w) (dg : decode cc pc = .ok (.iaload, 1)) (k1 : ex G l X Q d mc ms cs sl cc own nL ret h z (pc + 1) lv (.int w :: st)) : ex G l X Q d mc ms cs sl cc own nL ret h z pc lv (.int v :: .ref (b + 1 + 1) :: st) := by
  obtain ⟨π, hN⟩ := S.1.2.1
  exact exS_ld hN.sf hv hi hw dg k1
theorem exX_st {i : Nat} {v w : Int32} {n : Nat} {g : Option Nat} {t : Nat} {u : Nat → Int32} {q : Nat → Nat → Int32} {R : Nat × (Nat → AS) × (Nat → Option AS) × Nat × (Nat → Nat)} (S : XF G h0 h z b ((n, g, t, u, q), R)) (hv : v = nI i) (hi : i < 6) (dg : decode cc pc = .ok (.iastore, 1)) (k1 : ∀ h : HP, XF G h0 h z b ((n, g, t, upd u i w, q), R) → ex G l X Q d mc ms cs sl cc own nL ret h z (pc + 1) lv st) : ex G l X Q d mc ms cs sl cc own nL ret h z pc lv (.int w :: .int v :: .ref (b + 1 + 1) :: st) := by
  obtain ⟨π, hN⟩ := S.1.2.1
  exact exS_st hN.sf hv hi dg (fun h S1 => k1 h (S.now S1))
theorem exX_putU {idx k i : Nat} {v : Int32} {n : Nat} {g : Option Nat} {t : Nat} {u : Nat → Int32} {q : Nat → Nat → Int32} {R : Nat × (Nat → AS) × (Nat → Option AS) × Nat × (Nat → Nat)} (S : XF G h0 h z b ((n, g, t, u, q), R)) (fl : FL own idx 3 k .int false) (hi : 6 ≤ i) (hl : k < 13) (hk : (stF (b + 1) (n, g, t, u, q)).set k (.int v) = stF (b + 1) (n, g, t, upd u i v, q)) (dg : decode cc pc = .ok (.putfield idx, 3)) (k1 : ∀ h : HP, XF G h0 h z b ((n, g, t, upd u i v, q), R) → ex G l X Q d mc ms cs sl cc own nL ret h z (pc + 3) lv st) : ex G l X Q d mc ms cs sl cc own nL ret h z pc lv (.int v :: .ref (b + 1) :: st) := by
  obtain ⟨π, hN⟩ := S.1.2.1
  exact exS_putU hN.sf fl hi hl hk dg (fun h S1 => k1 h (S.now S1))
theorem exX_padL {idx : Nat} {x : CX} {v : Int32} {l2 : Nat} (S : XF G h0 h z b x) (fl : FL own idx 1 1 .int false) (hv : v = nI l2) (hl : l2 ≤ x.2.2.2.2.1) (dg : decode cc pc = .ok (.putfield idx, 3)) (k1 : ∀ h : HP, XF G h0 h z b (x.1, x.2.1, x.2.2.1, x.2.2.2.1, l2, x.2.2.2.2.2) → ex G l X Q d mc ms cs sl cc own nL ret h z (pc + 3) lv st) : ex G l X Q d mc ms cs sl cc own nL ret h z pc lv (.int v :: .ref (b + 92) :: st) := by
  subst hv
  exact ex_put fl S.1.pob rfl rfl (Nat.le_of_ble_eq_true rfl) dg (k1 _ (S.pad (S.1.2.2.2.2.2.1.putL rfl hl)))
end EX4
theorem tabc {x : Int32} {n : Nat} (h : ¬ inR x (n + 1)) (hn : n + 1 < 2 ^ 31) : x.toInt < ((0 : Nat) : Int) ∨ ((n : Nat) : Int) < x.toInt := by
  rcases inR_not h with c | c
  · left
    have := Int32.lt_iff_toInt_lt.mp c
    simpa using this
  · right
    have h1 := Int32.le_iff_toInt_le.mp c
    rw [nI_toInt hn] at h1
    omega
/-! what the calls answer, and what there is then -/
def setA (A : AS) (i : Nat) (v : Int32) : AS := (A.1, A.2.1, A.2.2.1, upd A.2.2.2.1 i v, A.2.2.2.2)
def X_set (x : CX) (s v : Int32) : Int32 × CX := if inR s 6 ∧ ¬ (v < stV 1 (ixI s) ∨ stV 2 (ixI s) < v) then (x.1.2.2.2.1 (ixI s), recX x (setA x.1 (ixI s) v)) else (-2, x)
def X_add (x : CX) (w s : Int32) : Int32 × CX := if w < nI 1 ∨ nI 9 < w ∨ s < 0 ∨ nI 100 < s then (-2, x) else if x.1.1 < 8 then (nI x.1.1, recX x (admA x.1 w s)) else (-4, x)
def X_move (x : CX) (p y : Int32) : Int32 × CX := if inR p x.1.1 ∧ inR y x.1.1 then ((if p = y then nI 0 else abI (p - y) + nI 1), recX x (moveA x.1 (ixI p) (ixI y))) else (-1, x)
def lvA (A : AS) (i : Nat) : AS := (A.1, none, bh A.1 i, A.2.2.2.1, A.2.2.2.2)
def X_stepDown (x : CX) : Int32 × CX := match x.1.2.1 with
  | none => (-5, x)
  | some i => (nI i, recX x (lvA x.1 i))
def X_appeal (x : CX) (p : Int32) : Int32 × CX := if inR p x.1.1 then (if mayI x.1.1 x.1.2.1 x.1.2.2.2.1 x.1.2.2.2.2 (ixI p) = 0 then (-5, x) else match x.1.2.1 with
  | none => (-5, x)
  | some i => ((if (appA x.1.1 i x.1.2.2.1 x.1.2.2.2.1 x.1.2.2.2.2 (ixI p)).2 = true then nI 1 else nI 0), recX x (appA x.1.1 i x.1.2.2.1 x.1.2.2.2.1 x.1.2.2.2.2 (ixI p)).1)) else (-1, x)
def givA (A : AS) (v : Int32) : AS := (A.1, A.2.1, A.2.2.1, upd (upd A.2.2.2.1 11 (A.2.2.2.1 11 + v)) 16 (A.2.2.2.1 16 + v), A.2.2.2.2)
def X_give (x : CX) (v : Int32) : Int32 × CX := if v < nI 1 ∨ nI 9999 < v then (-2, x) else if nI 99999 < x.1.2.2.2.1 11 + v then (-4, x) else (x.1.2.2.2.1 11 + v, recX x (givA x.1 v))
def X_pass (x : CX) (v : Int32) : Int32 × CX := if v < nI 1 ∨ nI 99 < v then (-2, x) else if nI 9999 < x.1.2.2.2.1 6 + v then (-4, x) else ((itA (ixI v) x.1).2.2.2.1 13 - x.1.2.2.2.1 13, recX x (itA (ixI v) x.1))
def perN (A : AS) (j : Nat) (w : Nat) : Int32 := match w with
  | 0 => A.2.2.2.2 j 0
  | 1 => A.2.2.2.2 j 1
  | 2 => A.2.2.2.2 j 2
  | 3 => A.2.2.2.2 j 3
  | 4 => bB A.2.2.2.1 A.2.2.2.2 j
  | 5 => scI A.2.2.2.1 A.2.2.2.2 j + nI 1000
  | 6 => A.2.2.2.2 j 4
  | 7 => A.2.2.2.2 j 5
  | _ => mayI A.1 A.2.1 A.2.2.2.1 A.2.2.2.2 j
def X_person (x : CX) (p w : Int32) : Int32 := if inR p x.1.1 then (if inR w 9 then perN x.1 (ixI p) (ixI w) else -2) else -1
def cntN (x : CX) (w : Nat) : Int32 := match w with
  | 0 => x.1.2.2.2.1 0
  | 1 => x.1.2.2.2.1 1
  | 2 => x.1.2.2.2.1 2
  | 3 => x.1.2.2.2.1 3
  | 4 => x.1.2.2.2.1 4
  | 5 => x.1.2.2.2.1 5
  | 6 => x.1.2.2.2.1 6
  | 7 => nI x.1.1
  | 8 => x.1.2.2.2.1 8
  | 9 => gv x.1.2.1
  | 10 => if x.1.2.1 = none then nI x.1.2.2.1 else (-6)
  | 11 => x.1.2.2.2.1 11
  | 12 => sumB x.1.2.2.2.1 x.1.2.2.2.2 x.1.1
  | 13 => x.1.2.2.2.1 12
  | 14 => x.1.2.2.2.1 13
  | 15 => x.1.2.2.2.1 14
  | 16 => x.1.2.2.2.1 15
  | 17 => sumP x.1.2.2.2.2 x.1.1
  | 18 => x.1.2.2.2.1 16
  | 19 => nI x.2.2.2.2.1
  | _ => nI x.2.1
def X_count (x : CX) (w : Int32) : Int32 := if inR w 21 then cntN x (ixI w) else -2
/-- the first purr, k days on from the day d -/
def nxG (A : AS) (w : Int32) (k d : Nat) : Int32 := match k with
  | 0 => -6
  | k + 1 => match dayR (itA d A) with
    | some j => if w = 0 then nI j else nI (d + 1)
    | none => nxG A w k (d + 1)
def X_next (x : CX) (w : Int32) : Int32 := if w = 0 ∨ w = nI 1 then nxG x.1 w 500 0 else -2
def ueG (A : AS) (k d : Nat) : Int32 := match k with
  | 0 => -6
  | k + 1 => if (itA d A).2.2.2.1 11 = 0 then nI d else ueG A k (d + 1)
def X_untilEmpty (x : CX) : Int32 := ueG x.1 2001 0
def ifpN (A B : AS) (w : Nat) : Int32 := match w with
  | 0 => B.2.2.2.1 13 - A.2.2.2.1 13
  | 1 => B.2.2.2.1 12 - A.2.2.2.1 12
  | 2 => B.2.2.2.1 15 - A.2.2.2.1 15
  | 3 => B.2.2.2.1 8
  | _ => gv B.2.1
def X_ifPassed (x : CX) (v w : Int32) : Int32 := if v < nI 1 ∨ nI 500 < v ∨ w < 0 ∨ nI 4 < w then -2 else ifpN x.1 (itA (ixI v) x.1) (ixI w)
def dgM (A : AS) (i p : Nat) : Int32 := (itA 100 (moveA A i p)).2.2.2.2 p 5 - (moveA A i p).2.2.2.2 p 5
def bpG (A : AS) (i k p best : Nat) (most : Int32) : Nat × Int32 := match k with
  | 0 => (best, most)
  | k + 1 => if most < dgM A i p then bpG A i k (p + 1) p (dgM A i p) else bpG A i k (p + 1) best most
def X_bestPlace (x : CX) (i w : Int32) : Int32 := if inR i x.1.1 then (if w = 0 ∨ w = nI 1 then (if w = 0 then nI (bpG x.1 (ixI i) x.1.1 0 0 (-1)).1 else (bpG x.1 (ixI i) x.1.1 0 0 (-1)).2) else -2) else -1
def X_wipe (x : CX) : Int32 × CX := (nI x.2.2.2.2.1, (x.1, x.2.1, x.2.2.1, x.2.2.2.1, 0, x.2.2.2.2.2))
def X_undo (x : CX) : Int32 × CX := if x.2.1 = 0 then (-5, x) else (nI (x.2.1 - 1), (x.2.2.1 (x.2.1 - 1), x.2.1 - 1, x.2.2))
def X_save (x : CX) (s : Int32) : Int32 × CX := if inR s 2 then (x.1.2.2.2.1 6, (x.1, x.2.1, x.2.2.1, (fun j => if j = ixI s then some x.1 else x.2.2.2.1 j), x.2.2.2.2)) else (-2, x)
def X_restore (x : CX) (s : Int32) : Int32 × CX := if inR s 2 then (match x.2.2.2.1 (ixI s) with
  | none => (-5, x)
  | some B => (B.2.2.2.1 6, recX x B)) else (-2, x)
end
section
theorem inR_or (x : Int32) (n : Nat) (hn : n < 2 ^ 31) : (∃ j, j < n ∧ x = nI j) ∨ ¬ inR x n := by
  by_cases h : inR x n
  · exact Or.inl (inR_of h hn)
  · exact Or.inr h
theorem rngI {v : Int32} {a b : Nat} (ha : a < 2 ^ 31) (hb : b < 2 ^ 31) (h1 : ¬ v < nI a) (h2 : v ≤ nI b) : ∃ j, a ≤ j ∧ j ≤ b ∧ v = nI j := by
  have h0 : ¬ v < 0 := fun q => h1 (Int32.lt_of_lt_of_le q ((nI_leI (a := 0) (by omega) ha).mpr (by omega)))
  obtain ⟨j, hj, rfl⟩ := nI_of h0
  exact ⟨j, Nat.not_lt.mp (fun q => h1 ((nI_ltI hj ha).mpr q)), (nI_leI hj hb).mp h2, rfl⟩
theorem bI_e1 {u : Nat → Int32} {q : Nat → Nat → Int32} {j : Nat} (h : ¬ bB u q j = 0) : bB u q j = nI 1 := by
  unfold bB
  rw [if_neg (bB_1 h)]
theorem mayI_1 {n : Nat} {g : Option Nat} {u : Nat → Int32} {q : Nat → Nat → Int32} {j : Nat} (h : ¬ mayI n g u q j = 0) : mayI n g u q j = nI 1 := by
  unfold mayI at h ⊢
  split at h
  · rename_i c
    rw [if_pos c]
  · exact absurd rfl h
theorem zB_1 {b : Bool} (h : ¬ (if b = true then nI 1 else nI 0) = 0) : (if b = true then nI 1 else nI 0) = nI 1 := by
  cases b
  · exact absurd rfl h
  · rfl
theorem ixn {j : Nat} (h : j < 2 ^ 31) : ixI (nI j) = j := nI_clamp h
theorem gv_n6 {g : Option Nat} {n : Nat} (gw : ∀ i, g = some i → i < n) (n8 : n ≤ 8) (h : gv g = -6) : g = none := by
  cases g with
  | none => rfl
  | some i => exact absurd h (nI_n6 (by have := gw i rfl; omega))
theorem cms_le {c : Nat → Nat} : ∀ m, cms c m ≤ m
  | 0 => Nat.le_refl _
  | k + 1 => by
    have := cms_le (c := c) k
    rw [cms]
    split <;> omega
theorem ffG_le {len : Nat} {c : Nat → Nat} : ∀ (k i due : Nat) (s : Int32) (r : Nat), ffG len c k i due s = some r → i + k ≤ len → r ≤ len
  | 0, i, due, s, r, h, hl => by
    rw [ffG] at h
    split at h
    · cases h
    · cases h
      omega
  | k + 1, i, due, s, r, h, hl => by
    rw [ffG] at h
    split at h
    · exact ffG_le k (i + 1) _ _ r h (by omega)
    · cases h
      omega
theorem XF.trans {G : GG} {h0 h h1 : HP} {z b : Nat} {x y : CX} (S : XF G h0 h z b x) (S1 : XF G h h1 z b y) : XF G h0 h1 z b y := ⟨S1.1, fun a g1 g2 => (S1.2 a g1 g2).trans (S.2 a g1 g2)⟩
theorem dayR_lt {A : AS} {j : Nat} (w : wfA A) (h : dayR A = some j) : j < A.1 := by
  obtain ⟨n, _ | i, t, u, q⟩ := A
  · have h2 : (holdA n t (upd u 6 (u 6 + nI 1)) q).2 = some j := h
    unfold holdA at h2
    split at h2
    · cases h2
    · rename_i j1 hj
      split at h2
      · cases h2
      · cases h2
        exact hand_lt w.2.2 hj
  · cases (show (none : Option Nat) = some j from h)
theorem mvP_lt {p x y n : Nat} (hp : p < n) (hx : x < n) (hy : y < n) : mvP p x y < n := by
  unfold mvP
  split
  · exact hy
  · split
    · omega
    · split <;> omega
theorem moveA_wf {A : AS} {x y : Nat} (w : wfA A) (hx : x < A.1) (hy : y < A.1) : wfA (moveA A x y) := by
  obtain ⟨n, g, t, u, q⟩ := A
  obtain ⟨w1, w2, w3⟩ := w
  refine ⟨w1, fun i hi => ?_, Or.inl ?_⟩
  · cases g with
    | none => cases hi
    | some p =>
      cases (show some (mvP p x y) = some i from hi)
      exact mvP_lt (w2 p rfl) hx hy
  · have hx' : x < n := hx
    have h3 : t < n ∨ t = 0 := w3
    exact mvP_lt (show t < n by omega) hx' hy

set_option maxRecDepth 20000 in
set_option maxHeartbeats 2000000 in
theorem c_isSettingT {G : GG} {l : Launch} {h0 : HP} {z : Nat} {j : Nat} (hj : j < 6) : Ct G l 0 0 0 yX4_isSetting cX4_isSetting 1 (some .boolean) [.int (nI j)] h0 z (p0 (.int (nI 1)) h0 z) := by
  refine Ct.intro (lv := [(0, .int (nI j))]) (by decide +kernel) (Nat.le_of_ble_eq_true rfl) rfl (fun X Q hQ hnm => ?_)
  refine ex_iload_n 0 dX4_isSetting_0 rfl rfl ?_
  refine ex_if_lt (tgt := 16) dX4_isSetting_1 (by decide) (fun c_1 => absurd c_1 (nI_pos (by omega))) (fun c_1 => ?_)
  refine ex_iload_n 0 dX4_isSetting_4 rfl rfl ?_
  refine ex_gets (k := 0) (by decide) (tw_t 178 (by decide +kernel) (by decide +kernel)) dX4_isSetting_5 ?_
  refine ex_tlen (k := 0) (by decide) dX4_isSetting_8 ?_
  refine ex_icmp_ge (tgt := 16) dX4_isSetting_9 (by decide) (fun c_9 => absurd c_9 (fun q9 => absurd ((nI_leI (by omega) (by omega)).mp q9) (by omega))) (fun c_9 => ?_)
  refine ex_iconst (v := nI 1) dX4_isSetting_12 (by decide) ?_
  refine ex_goto (tgt := 17) dX4_isSetting_13 (by decide) ?_
  exact ex_zret hQ rfl (by decide) ⟨rfl, rfl, rfl⟩ dX4_isSetting_17

set_option maxRecDepth 20000 in
set_option maxHeartbeats 2000000 in
theorem c_isSettingF {G : GG} {l : Launch} {h0 : HP} {z : Nat} {s : Int32} (hs : ¬ inR s 6) : Ct G l 0 0 0 yX4_isSetting cX4_isSetting 1 (some .boolean) [.int s] h0 z (p0 (.int (nI 0)) h0 z) := by
  refine Ct.intro (lv := [(0, .int s)]) (by decide +kernel) (Nat.le_of_ble_eq_true rfl) rfl (fun X Q hQ hnm => ?_)
  refine ex_iload_n 0 dX4_isSetting_0 rfl rfl ?_
  refine ex_if_lt (tgt := 16) dX4_isSetting_1 (by decide) (fun c_1 => ?_) (fun c_1 => ?_)
  · refine ex_iconst (v := nI 0) dX4_isSetting_16 (by decide) ?_
    exact ex_zret hQ rfl (by decide) ⟨rfl, rfl, rfl⟩ dX4_isSetting_17
  · refine ex_iload_n 0 dX4_isSetting_4 rfl rfl ?_
    refine ex_gets (k := 0) (by decide) (tw_t 178 (by decide +kernel) (by decide +kernel)) dX4_isSetting_5 ?_
    refine ex_tlen (k := 0) (by decide) dX4_isSetting_8 ?_
    refine ex_icmp_ge (tgt := 16) dX4_isSetting_9 (by decide) (fun c_9 => ?_) (fun c_9 => ?_)
    · refine ex_iconst (v := nI 0) dX4_isSetting_16 (by decide) ?_
      exact ex_zret hQ rfl (by decide) ⟨rfl, rfl, rfl⟩ dX4_isSetting_17
    · exact absurd ⟨Int32.not_lt.mp c_1, Int32.not_le.mp c_9⟩ hs

set_option maxRecDepth 20000 in
set_option maxHeartbeats 2000000 in
theorem c_isSlotT {G : GG} {l : Launch} {h0 : HP} {z : Nat} {j : Nat} (hj : j < 2) : Ct G l 0 0 0 yX4_isSlot cX4_isSlot 1 (some .boolean) [.int (nI j)] h0 z (p0 (.int (nI 1)) h0 z) := by
  refine Ct.intro (lv := [(0, .int (nI j))]) (by decide +kernel) (Nat.le_of_ble_eq_true rfl) rfl (fun X Q hQ hnm => ?_)
  refine ex_iload_n 0 dX4_isSlot_0 rfl rfl ?_
  refine ex_if_lt (tgt := 13) dX4_isSlot_1 (by decide) (fun c_1 => absurd c_1 (nI_pos (by omega))) (fun c_1 => ?_)
  refine ex_iload_n 0 dX4_isSlot_4 rfl rfl ?_
  refine ex_iconst (v := nI 2) dX4_isSlot_5 (by decide) ?_
  refine ex_icmp_ge (tgt := 13) dX4_isSlot_6 (by decide) (fun c_6 => absurd c_6 (fun q9 => absurd ((nI_leI (by omega) (by omega)).mp q9) (by omega))) (fun c_6 => ?_)
  refine ex_iconst (v := nI 1) dX4_isSlot_9 (by decide) ?_
  refine ex_goto (tgt := 14) dX4_isSlot_10 (by decide) ?_
  exact ex_zret hQ rfl (by decide) ⟨rfl, rfl, rfl⟩ dX4_isSlot_14

set_option maxRecDepth 20000 in
set_option maxHeartbeats 2000000 in
theorem c_isSlotF {G : GG} {l : Launch} {h0 : HP} {z : Nat} {s : Int32} (hs : ¬ inR s 2) : Ct G l 0 0 0 yX4_isSlot cX4_isSlot 1 (some .boolean) [.int s] h0 z (p0 (.int (nI 0)) h0 z) := by
  refine Ct.intro (lv := [(0, .int s)]) (by decide +kernel) (Nat.le_of_ble_eq_true rfl) rfl (fun X Q hQ hnm => ?_)
  refine ex_iload_n 0 dX4_isSlot_0 rfl rfl ?_
  refine ex_if_lt (tgt := 13) dX4_isSlot_1 (by decide) (fun c_1 => ?_) (fun c_1 => ?_)
  · refine ex_iconst (v := nI 0) dX4_isSlot_13 (by decide) ?_
    exact ex_zret hQ rfl (by decide) ⟨rfl, rfl, rfl⟩ dX4_isSlot_14
  · refine ex_iload_n 0 dX4_isSlot_4 rfl rfl ?_
    refine ex_iconst (v := nI 2) dX4_isSlot_5 (by decide) ?_
    refine ex_icmp_ge (tgt := 13) dX4_isSlot_6 (by decide) (fun c_6 => ?_) (fun c_6 => ?_)
    · refine ex_iconst (v := nI 0) dX4_isSlot_13 (by decide) ?_
      exact ex_zret hQ rfl (by decide) ⟨rfl, rfl, rfl⟩ dX4_isSlot_14
    · exact absurd ⟨Int32.not_lt.mp c_1, Int32.not_le.mp c_6⟩ hs

set_option maxRecDepth 20000 in
set_option maxHeartbeats 2000000 in
theorem c_set {G : GG} {l : Launch} {h0 : HP} {z b : Nat} {n : Nat} {g : Option Nat} {t : Nat} {u : Nat → Int32} {q : Nat → Nat → Int32} {k len : Nat} {L : Nat → AS} {V : Nat → Option AS} {c : Nat → Nat} (S0 : PP G h0 z b ((n, g, t, u, q), k, L, V, len, c)) (n8 : n ≤ 8) {s v : Int32} : Ct G l 3 0 0 yX4_set cX4_set 4 (some .int) [.ref b, .int s, .int v] h0 z (pX G (X_set ((n, g, t, u, q), k, L, V, len, c) s v) h0 z b) := by
  refine Ct.intro (lv := [(0, .ref b), (1, .int s), (2, .int v)]) (by decide +kernel) (Nat.le_of_ble_eq_true rfl) rfl (fun X Q hQ hnm => ?_)
  have S := S0.xf
  rcases inR_or s 6 (by omega) with ⟨j, hs, rfl⟩ | hs
  · refine ex_iload_n 1 dX4_set_0 rfl rfl ?_
    refine ex_callS0 (As := [.int (nI j)]) (v := .int (nI 1)) vl_X4_37 (c_isSettingT hs) rfl (by decide) (Nat.le_of_ble_eq_true rfl) (Nat.le_refl _) (Nat.le_refl _) rfl dX4_set_1 ?_
    refine ex_if_ne (tgt := 10) dX4_set_4 (by decide) (fun c_4 => ?_) (fun c_4 => absurd c_4 (by decide))
    refine ex_iload_n 2 dX4_set_10 rfl rfl ?_
    refine ex_gets (k := 1) (by decide) (tw_t 179 (by decide +kernel) (by decide +kernel)) dX4_set_11 ?_
    refine ex_iload_n 1 dX4_set_14 rfl rfl ?_
    refine ex_tld (k := 1) (by decide) rfl hs dX4_set_15 ?_
    refine ex_icmp_lt (tgt := 28) dX4_set_16 (by decide) (fun c_16 => ?_) (fun c_16 => ?_)
    · refine ex_bipush (v := (-2)) dX4_set_28 (by decide) ?_
      exact ex_iret hQ rfl (by unfold X_set; rw [ixn (by omega)]; first | (rw [if_neg (fun q9 => q9.2 (by first | exact Or.inl c_16 | exact Or.inr (Int32.not_le.mp c_25)))]; exact ⟨rfl, rfl, S⟩) | (rw [if_pos ⟨inR_nI hs (by decide), fun q9 => q9.elim (fun q8 => c_16 q8) (fun q8 => absurd c_25 (Int32.not_le.mpr q8))⟩]; exact ⟨rfl, rfl, S⟩)) dX4_set_30
    · refine ex_iload_n 2 dX4_set_19 rfl rfl ?_
      refine ex_gets (k := 2) (by decide) (tw_t 181 (by decide +kernel) (by decide +kernel)) dX4_set_20 ?_
      refine ex_iload_n 1 dX4_set_23 rfl rfl ?_
      refine ex_tld (k := 2) (by decide) rfl hs dX4_set_24 ?_
      refine ex_icmp_le (tgt := 31) dX4_set_25 (by decide) (fun c_25 => ?_) (fun c_25 => ?_)
      · refine ex_aload_n 0 dX4_set_31 rfl rfl ?_
        refine ex_get (v := .ref (b + 23)) fl_X4_22 S.1.ob rfl dX4_set_32 ?_
        refine ex_aload_n 0 dX4_set_35 rfl rfl ?_
        refine ex_get (v := .ref (b + 1)) fl_X4_10 S.1.ob rfl dX4_set_36 ?_
        refine exX_rec vl_X4_48 S n8 (by decide) (Nat.le_of_ble_eq_true rfl) (Nat.le_refl _) (Nat.le_refl _) rfl dX4_set_39 (fun h S => ?_)
        have S : XF G h0 h z b ((n, g, t, u, q), (if k < 6 then k + 1 else 6), (recR k L (n, g, t, u, q)), V, len, c) := S
        refine ex_aload_n 0 dX4_set_42 rfl rfl ?_
        refine ex_get (v := .ref (b + 1)) fl_X4_10 S.1.ob rfl dX4_set_43 ?_
        refine ex_get (v := .ref (b + 1 + 1)) fl_X4_52 S.1.nob rfl dX4_set_46 ?_
        refine ex_iload_n 1 dX4_set_49 rfl rfl ?_
        refine exX_ld (i := j) (w := u j) S rfl hs rfl dX4_set_50 ?_
        refine ex_istore_n (lv' := [(3, .int (u j)), (0, .ref b), (1, .int (nI j)), (2, .int v)]) dX4_set_51 rfl (by decide) rfl ?_
        refine ex_aload_n 1 dX4_set_52 rfl rfl ?_
        refine ex_get (v := .ref (b + 1)) fl_X4_10 S.1.ob rfl dX4_set_53 ?_
        refine ex_get (v := .ref (b + 1 + 1)) fl_X4_52 S.1.nob rfl dX4_set_56 ?_
        refine ex_iload_n 2 dX4_set_59 rfl rfl ?_
        refine ex_iload_n 3 dX4_set_60 rfl rfl ?_
        refine exX_st (i := j) S rfl hs dX4_set_61 (fun h S => ?_)
        refine ex_iload_n 0 dX4_set_62 rfl rfl ?_
        exact ex_iret hQ rfl (by unfold X_set; rw [ixn (by omega)]; first | (rw [if_neg (fun q9 => q9.2 (by first | exact Or.inl c_16 | exact Or.inr (Int32.not_le.mp c_25)))]; exact ⟨rfl, rfl, S⟩) | (rw [if_pos ⟨inR_nI hs (by decide), fun q9 => q9.elim (fun q8 => c_16 q8) (fun q8 => absurd c_25 (Int32.not_le.mpr q8))⟩]; exact ⟨rfl, rfl, S⟩)) dX4_set_63
      · refine ex_bipush (v := (-2)) dX4_set_28 (by decide) ?_
        exact ex_iret hQ rfl (by unfold X_set; rw [ixn (by omega)]; first | (rw [if_neg (fun q9 => q9.2 (by first | exact Or.inl c_16 | exact Or.inr (Int32.not_le.mp c_25)))]; exact ⟨rfl, rfl, S⟩) | (rw [if_pos ⟨inR_nI hs (by decide), fun q9 => q9.elim (fun q8 => c_16 q8) (fun q8 => absurd c_25 (Int32.not_le.mpr q8))⟩]; exact ⟨rfl, rfl, S⟩)) dX4_set_30
  · refine ex_iload_n 1 dX4_set_0 rfl rfl ?_
    refine ex_callS0 (As := [.int s]) (v := .int (nI 0)) vl_X4_37 (c_isSettingF hs) rfl (by decide) (Nat.le_of_ble_eq_true rfl) (Nat.le_refl _) (Nat.le_refl _) rfl dX4_set_1 ?_
    refine ex_if_ne (tgt := 10) dX4_set_4 (by decide) (fun c_4 => absurd (by decide) c_4) (fun c_4 => ?_)
    refine ex_bipush (v := (-2)) dX4_set_7 (by decide) ?_
    exact ex_iret hQ rfl (by unfold X_set; rw [if_neg (fun q9 => hs q9.1)]; exact ⟨rfl, rfl, S⟩) dX4_set_9

set_option maxRecDepth 20000 in
set_option maxHeartbeats 2000000 in
theorem c_add {G : GG} {l : Launch} {h0 : HP} {z b : Nat} {n : Nat} {g : Option Nat} {t : Nat} {u : Nat → Int32} {q : Nat → Nat → Int32} {k len : Nat} {L : Nat → AS} {V : Nat → Option AS} {c : Nat → Nat} (S0 : PP G h0 z b ((n, g, t, u, q), k, L, V, len, c)) (n8 : n ≤ 8) {v s : Int32} : Ct G l 3 0 0 yX4_add cX4_add 3 (some .int) [.ref b, .int v, .int s] h0 z (pX G (X_add ((n, g, t, u, q), k, L, V, len, c) v s) h0 z b) := by
  refine Ct.intro (lv := [(0, .ref b), (1, .int v), (2, .int s)]) (by decide +kernel) (Nat.le_of_ble_eq_true rfl) rfl (fun X Q hQ hnm => ?_)
  have S := S0.xf
  refine ex_iload_n 1 dX4_add_0 rfl rfl ?_
  refine ex_iconst (v := nI 1) dX4_add_1 (by decide) ?_
  refine ex_icmp_lt (tgt := 21) dX4_add_2 (by decide) (fun c_2 => ?_) (fun c_2 => ?_)
  · refine ex_bipush (v := (-2)) dX4_add_21 (by decide) ?_
    exact ex_iret hQ rfl (by unfold X_add; rw [if_pos (by first | exact Or.inl c_2 | exact Or.inr (Or.inl c_8) | exact Or.inr (Or.inr (Or.inl c_12)) | exact Or.inr (Or.inr (Or.inr (Int32.not_le.mp c_18))))]; exact ⟨rfl, rfl, S⟩) dX4_add_23
  · refine ex_iload_n 1 dX4_add_5 rfl rfl ?_
    refine ex_bipush (v := nI 9) dX4_add_6 (by decide) ?_
    refine ex_icmp_gt (tgt := 21) dX4_add_8 (by decide) (fun c_8 => ?_) (fun c_8 => ?_)
    · refine ex_bipush (v := (-2)) dX4_add_21 (by decide) ?_
      exact ex_iret hQ rfl (by unfold X_add; rw [if_pos (by first | exact Or.inl c_2 | exact Or.inr (Or.inl c_8) | exact Or.inr (Or.inr (Or.inl c_12)) | exact Or.inr (Or.inr (Or.inr (Int32.not_le.mp c_18))))]; exact ⟨rfl, rfl, S⟩) dX4_add_23
    · refine ex_iload_n 2 dX4_add_11 rfl rfl ?_
      refine ex_if_lt (tgt := 21) dX4_add_12 (by decide) (fun c_12 => ?_) (fun c_12 => ?_)
      · refine ex_bipush (v := (-2)) dX4_add_21 (by decide) ?_
        exact ex_iret hQ rfl (by unfold X_add; rw [if_pos (by first | exact Or.inl c_2 | exact Or.inr (Or.inl c_8) | exact Or.inr (Or.inr (Or.inl c_12)) | exact Or.inr (Or.inr (Or.inr (Int32.not_le.mp c_18))))]; exact ⟨rfl, rfl, S⟩) dX4_add_23
      · refine ex_iload_n 2 dX4_add_15 rfl rfl ?_
        refine ex_bipush (v := nI 100) dX4_add_16 (by decide) ?_
        refine ex_icmp_le (tgt := 24) dX4_add_18 (by decide) (fun c_18 => ?_) (fun c_18 => ?_)
        · have hc : ¬ (v < nI 1 ∨ nI 9 < v ∨ s < 0 ∨ nI 100 < s) := fun q9 => q9.elim c_2 (fun q9 => q9.elim c_8 (fun q9 => q9.elim c_12 (fun q9 => absurd c_18 (Int32.not_le.mpr q9))))
          refine ex_aload_n 0 dX4_add_24 rfl rfl ?_
          refine ex_get (v := .ref (b + 1)) fl_X4_10 S.1.ob rfl dX4_add_25 ?_
          refine ex_get (v := .int (nI n)) fl_X4_55 S.1.nob rfl dX4_add_28 ?_
          refine ex_bipush (v := nI 8) dX4_add_31 (by decide) ?_
          refine ex_icmp_lt (tgt := 39) dX4_add_33 (by decide) (fun c_33 => ?_) (fun c_33 => ?_)
          · have n_33 : n < 8 := (nI_ltI (by omega) (by omega)).mp c_33
            refine ex_aload_n 0 dX4_add_39 rfl rfl ?_
            refine ex_get (v := .ref (b + 23)) fl_X4_22 S.1.ob rfl dX4_add_40 ?_
            refine ex_aload_n 0 dX4_add_43 rfl rfl ?_
            refine ex_get (v := .ref (b + 1)) fl_X4_10 S.1.ob rfl dX4_add_44 ?_
            refine exX_rec vl_X4_48 S n8 (by decide) (Nat.le_of_ble_eq_true rfl) (Nat.le_refl _) (Nat.le_refl _) rfl dX4_add_47 (fun h S => ?_)
            have S : XF G h0 h z b ((n, g, t, u, q), (if k < 6 then k + 1 else 6), (recR k L (n, g, t, u, q)), V, len, c) := S
            refine ex_aload_n 0 dX4_add_50 rfl rfl ?_
            refine ex_get (v := .ref (b + 1)) fl_X4_10 S.1.ob rfl dX4_add_51 ?_
            refine ex_iload_n 1 dX4_add_54 rfl rfl ?_
            refine ex_iload_n 2 dX4_add_55 rfl rfl ?_
            refine exX_now (As := [.int v, .int s]) (r0 := none) (f := fun π => π) (B := admA (n, g, t, u, q) v s) vl_X4_59 rfl S (fun π hN => c_admit hN n_33) rfl (by decide) (Nat.le_of_ble_eq_true rfl) (Nat.le_refl _) (Nat.le_refl _) rfl dX4_add_56 (fun h S => ?_)
            have S : XF G h0 h z b (admA (n, g, t, u, q) v s, (if k < 6 then k + 1 else 6), (recR k L (n, g, t, u, q)), V, len, c) := S
            refine ex_aload_n 0 dX4_add_59 rfl rfl ?_
            refine ex_get (v := .ref (b + 1)) fl_X4_10 S.1.ob rfl dX4_add_60 ?_
            refine ex_get (v := .int (nI (n + 1))) fl_X4_55 S.1.nob rfl dX4_add_63 ?_
            refine ex_iconst (v := nI 1) dX4_add_66 (by decide) ?_
            refine ex_isubN dX4_add_67 (by omega) ?_
            exact ex_iret hQ rfl (by unfold X_add; rw [if_neg hc, if_pos n_33]; exact ⟨rfl, rfl, S⟩) dX4_add_68
          · have n_33 : ¬ (n < 8) := fun q9 => c_33 ((nI_ltI (by omega) (by omega)).mpr q9)
            refine ex_bipush (v := (-4)) dX4_add_36 (by decide) ?_
            exact ex_iret hQ rfl (by unfold X_add; rw [if_neg hc, if_neg n_33]; exact ⟨rfl, rfl, S⟩) dX4_add_38
        · refine ex_bipush (v := (-2)) dX4_add_21 (by decide) ?_
          exact ex_iret hQ rfl (by unfold X_add; rw [if_pos (by first | exact Or.inl c_2 | exact Or.inr (Or.inl c_8) | exact Or.inr (Or.inr (Or.inl c_12)) | exact Or.inr (Or.inr (Or.inr (Int32.not_le.mp c_18))))]; exact ⟨rfl, rfl, S⟩) dX4_add_23

set_option maxRecDepth 20000 in
set_option maxHeartbeats 2000000 in
theorem c_move {G : GG} {l : Launch} {h0 : HP} {z b : Nat} {n : Nat} {g : Option Nat} {t : Nat} {u : Nat → Int32} {q : Nat → Nat → Int32} {k len : Nat} {L : Nat → AS} {V : Nat → Option AS} {c : Nat → Nat} (S0 : PP G h0 z b ((n, g, t, u, q), k, L, V, len, c)) (n8 : n ≤ 8) (gw : ∀ i, g = some i → i < n) (tw : t < n ∨ t = 0) {p y : Int32} : Ct G l 3 0 0 yX4_move cX4_move 3 (some .int) [.ref b, .int p, .int y] h0 z (pX G (X_move ((n, g, t, u, q), k, L, V, len, c) p y) h0 z b) := by
  refine Ct.intro (lv := [(0, .ref b), (1, .int p), (2, .int y)]) (by decide +kernel) (Nat.le_of_ble_eq_true rfl) rfl (fun X Q hQ hnm => ?_)
  have S := S0.xf
  rcases inR_or p n (by omega) with ⟨i, hp, rfl⟩ | hp
  · rcases inR_or y n (by omega) with ⟨m, hy, rfl⟩ | hy
    · obtain ⟨π, hN⟩ := S.1.2.1
      refine ex_aload_n 0 dX4_move_0 rfl rfl ?_
      refine ex_get (v := .ref (b + 1)) fl_X4_10 S.1.ob rfl dX4_move_1 ?_
      refine ex_iload_n 1 dX4_move_4 rfl rfl ?_
      refine ex_call0 (As := [.int (nI i)]) (v := .ref (b + 1 + 3 + π i)) (ci := 3) vl_X4_76 rfl (c_at hN (by omega) hp n8) hN.ob rfl (by decide) (Nat.le_of_ble_eq_true rfl) (Nat.le_refl _) (Nat.le_refl _) rfl dX4_move_5 ?_
      refine ex_ifnull dX4_move_8 ?_
      refine ex_aload_n 0 dX4_move_11 rfl rfl ?_
      refine ex_get (v := .ref (b + 1)) fl_X4_10 S.1.ob rfl dX4_move_12 ?_
      refine ex_iload_n 2 dX4_move_15 rfl rfl ?_
      refine ex_call0 (As := [.int (nI m)]) (v := .ref (b + 1 + 3 + π m)) (ci := 3) vl_X4_76 rfl (c_at hN (by omega) hy n8) hN.ob rfl (by decide) (Nat.le_of_ble_eq_true rfl) (Nat.le_refl _) (Nat.le_refl _) rfl dX4_move_16 ?_
      refine ex_ifnonnull (tgt := 24) dX4_move_19 (by decide) ?_
      refine ex_aload_n 0 dX4_move_24 rfl rfl ?_
      refine ex_get (v := .ref (b + 23)) fl_X4_22 S.1.ob rfl dX4_move_25 ?_
      refine ex_aload_n 0 dX4_move_28 rfl rfl ?_
      refine ex_get (v := .ref (b + 1)) fl_X4_10 S.1.ob rfl dX4_move_29 ?_
      refine exX_rec vl_X4_48 S n8 (by decide) (Nat.le_of_ble_eq_true rfl) (Nat.le_refl _) (Nat.le_refl _) rfl dX4_move_32 (fun h S => ?_)
      have S : XF G h0 h z b ((n, g, t, u, q), (if k < 6 then k + 1 else 6), (recR k L (n, g, t, u, q)), V, len, c) := S
      refine ex_aload_n 0 dX4_move_35 rfl rfl ?_
      refine ex_get (v := .ref (b + 1)) fl_X4_10 S.1.ob rfl dX4_move_36 ?_
      refine ex_iload_n 1 dX4_move_39 rfl rfl ?_
      refine ex_iload_n 2 dX4_move_40 rfl rfl ?_
      refine exX_now (As := [.int (nI i), .int (nI m)]) (r0 := none) (f := fun π j => π (mvI i m j)) (B := moveA (n, g, t, u, q) i m) vl_X4_80 rfl S (fun π hN => c_relocate hN gw tw n8 hp hy) rfl (by decide) (Nat.le_of_ble_eq_true rfl) (Nat.le_refl _) (Nat.le_refl _) rfl dX4_move_41 (fun h S => ?_)
      have S : XF G h0 h z b (moveA (n, g, t, u, q) i m, (if k < 6 then k + 1 else 6), (recR k L (n, g, t, u, q)), V, len, c) := S
      refine ex_iload_n 1 dX4_move_44 rfl rfl ?_
      refine ex_iload_n 2 dX4_move_45 rfl rfl ?_
      refine ex_icmp_ne (tgt := 53) dX4_move_46 (by decide) (fun c_46 => ?_) (fun c_46 => ?_)
      · have n_46 : ¬ (i = m) := fun q9 => c_46 ((nI_eq (by omega) (by omega)).mpr q9)
        refine ex_iload_n 1 dX4_move_53 rfl rfl ?_
        refine ex_iload_n 2 dX4_move_54 rfl rfl ?_
        refine ex_isub dX4_move_55 ?_
        refine exm_abs (v := abI ((nI i) - (nI m))) mlx_abs rfl (by decide) (Nat.le_of_ble_eq_true rfl) (Nat.le_refl _) (Nat.le_refl _) dX4_move_56 ?_
        refine ex_iconst (v := nI 1) dX4_move_59 (by decide) ?_
        refine ex_iadd dX4_move_60 ?_
        exact ex_iret hQ rfl (by unfold X_move; dsimp only; rw [if_pos ⟨inR_nI hp (by omega), inR_nI hy (by omega)⟩, ixn (by omega), ixn (by omega)]; first | (rw [if_pos (congrArg nI n_46)]; exact ⟨rfl, rfl, S⟩) | (rw [if_neg (fun q9 => n_46 ((nI_eq (by omega) (by omega)).mp q9))]; exact ⟨rfl, rfl, S⟩)) dX4_move_61
      · have n_46 : i = m := (nI_eq (by omega) (by omega)).mp c_46
        refine ex_iconst (v := nI 0) dX4_move_49 (by decide) ?_
        refine ex_goto (tgt := 61) dX4_move_50 (by decide) ?_
        exact ex_iret hQ rfl (by unfold X_move; dsimp only; rw [if_pos ⟨inR_nI hp (by omega), inR_nI hy (by omega)⟩, ixn (by omega), ixn (by omega)]; first | (rw [if_pos (congrArg nI n_46)]; exact ⟨rfl, rfl, S⟩) | (rw [if_neg (fun q9 => n_46 ((nI_eq (by omega) (by omega)).mp q9))]; exact ⟨rfl, rfl, S⟩)) dX4_move_61
    · obtain ⟨π, hN⟩ := S.1.2.1
      refine ex_aload_n 0 dX4_move_0 rfl rfl ?_
      refine ex_get (v := .ref (b + 1)) fl_X4_10 S.1.ob rfl dX4_move_1 ?_
      refine ex_iload_n 1 dX4_move_4 rfl rfl ?_
      refine ex_call0 (As := [.int (nI i)]) (v := .ref (b + 1 + 3 + π i)) (ci := 3) vl_X4_76 rfl (c_at hN (by omega) hp n8) hN.ob rfl (by decide) (Nat.le_of_ble_eq_true rfl) (Nat.le_refl _) (Nat.le_refl _) rfl dX4_move_5 ?_
      refine ex_ifnull dX4_move_8 ?_
      refine ex_aload_n 0 dX4_move_11 rfl rfl ?_
      refine ex_get (v := .ref (b + 1)) fl_X4_10 S.1.ob rfl dX4_move_12 ?_
      refine ex_iload_n 2 dX4_move_15 rfl rfl ?_
      refine ex_call0 (As := [.int y]) (v := .null) (ci := 3) vl_X4_76 rfl (c_atN hN (inR_not hy) n8) hN.ob rfl (by decide) (Nat.le_of_ble_eq_true rfl) (Nat.le_refl _) (Nat.le_refl _) rfl dX4_move_16 ?_
      refine ex_ifnonnullN dX4_move_19 ?_
      refine ex_iconst (v := (-1)) dX4_move_22 (by decide) ?_
      exact ex_iret hQ rfl (by unfold X_move; dsimp only; rw [if_neg (fun q9 => hy q9.2)]; exact ⟨rfl, rfl, S⟩) dX4_move_23
  · obtain ⟨π, hN⟩ := S.1.2.1
    refine ex_aload_n 0 dX4_move_0 rfl rfl ?_
    refine ex_get (v := .ref (b + 1)) fl_X4_10 S.1.ob rfl dX4_move_1 ?_
    refine ex_iload_n 1 dX4_move_4 rfl rfl ?_
    refine ex_call0 (As := [.int p]) (v := .null) (ci := 3) vl_X4_76 rfl (c_atN hN (inR_not hp) n8) hN.ob rfl (by decide) (Nat.le_of_ble_eq_true rfl) (Nat.le_refl _) (Nat.le_refl _) rfl dX4_move_5 ?_
    refine ex_ifnullN (tgt := 22) dX4_move_8 (by decide) ?_
    refine ex_iconst (v := (-1)) dX4_move_22 (by decide) ?_
    exact ex_iret hQ rfl (by unfold X_move; dsimp only; rw [if_neg (fun q9 => hp q9.1)]; exact ⟨rfl, rfl, S⟩) dX4_move_23

set_option maxRecDepth 20000 in
set_option maxHeartbeats 2000000 in
theorem c_stepDown {G : GG} {l : Launch} {h0 : HP} {z b : Nat} {n : Nat} {g : Option Nat} {t : Nat} {u : Nat → Int32} {q : Nat → Nat → Int32} {k len : Nat} {L : Nat → AS} {V : Nat → Option AS} {c : Nat → Nat} (S0 : PP G h0 z b ((n, g, t, u, q), k, L, V, len, c)) (n8 : n ≤ 8) (gw : ∀ i, g = some i → i < n) : Ct G l 3 0 0 yX4_stepDown cX4_stepDown 2 (some .int) [.ref b] h0 z (pX G (X_stepDown ((n, g, t, u, q), k, L, V, len, c)) h0 z b) := by
  refine Ct.intro (lv := [(0, .ref b)]) (by decide +kernel) (Nat.le_of_ble_eq_true rfl) rfl (fun X Q hQ hnm => ?_)
  have S := S0.xf
  rcases g with _ | i
  · refine ex_aload_n 0 dX4_stepDown_0 rfl rfl ?_
    refine ex_get (v := .ref (b + 1)) fl_X4_10 S.1.ob rfl dX4_stepDown_1 ?_
    refine ex_get (v := .int (-6)) fl_X4_89 S.1.nob rfl dX4_stepDown_4 ?_
    refine ex_istore_n (lv' := [(1, .int (-6)), (0, .ref b)]) dX4_stepDown_7 rfl (by decide) rfl ?_
    refine ex_iload_n 0 dX4_stepDown_8 rfl rfl ?_
    refine ex_bipush (v := (-6)) dX4_stepDown_9 (by decide) ?_
    refine ex_icmp_ne (tgt := 17) dX4_stepDown_11 (by decide) (fun c_11 => absurd (rfl) c_11) (fun c_11 => ?_)
    refine ex_bipush (v := (-5)) dX4_stepDown_14 (by decide) ?_
    exact ex_iret hQ rfl (by exact ⟨rfl, rfl, S⟩) dX4_stepDown_16
  · have hi : i < n := gw i rfl
    refine ex_aload_n 0 dX4_stepDown_0 rfl rfl ?_
    refine ex_get (v := .ref (b + 1)) fl_X4_10 S.1.ob rfl dX4_stepDown_1 ?_
    refine ex_get (v := .int (nI i)) fl_X4_89 S.1.nob rfl dX4_stepDown_4 ?_
    refine ex_istore_n (lv' := [(1, .int (nI i)), (0, .ref b)]) dX4_stepDown_7 rfl (by decide) rfl ?_
    refine ex_iload_n 0 dX4_stepDown_8 rfl rfl ?_
    refine ex_bipush (v := (-6)) dX4_stepDown_9 (by decide) ?_
    refine ex_icmp_ne (tgt := 17) dX4_stepDown_11 (by decide) (fun c_11 => ?_) (fun c_11 => absurd c_11 (nI_n6 (by omega)))
    refine ex_aload_n 1 dX4_stepDown_17 rfl rfl ?_
    refine ex_get (v := .ref (b + 23)) fl_X4_22 S.1.ob rfl dX4_stepDown_18 ?_
    refine ex_aload_n 1 dX4_stepDown_21 rfl rfl ?_
    refine ex_get (v := .ref (b + 1)) fl_X4_10 S.1.ob rfl dX4_stepDown_22 ?_
    refine exX_rec vl_X4_48 S n8 (by decide) (Nat.le_of_ble_eq_true rfl) (Nat.le_refl _) (Nat.le_refl _) rfl dX4_stepDown_25 (fun h S => ?_)
    have S : XF G h0 h z b ((n, (some i), t, u, q), (if k < 6 then k + 1 else 6), (recR k L (n, (some i), t, u, q)), V, len, c) := S
    refine ex_aload_n 1 dX4_stepDown_28 rfl rfl ?_
    refine ex_get (v := .ref (b + 1)) fl_X4_10 S.1.ob rfl dX4_stepDown_29 ?_
    refine ex_aload_n 1 dX4_stepDown_32 rfl rfl ?_
    refine ex_get (v := .ref (b + 1)) fl_X4_10 S.1.ob rfl dX4_stepDown_33 ?_
    refine ex_iload_n 0 dX4_stepDown_36 rfl rfl ?_
    obtain ⟨π, hN⟩ := S.1.2.1
    refine ex_call0 (As := [.int (nI i)]) (v := .int (nI (bh n i))) (ci := 3) vl_X4_92 rfl (c_behind hN (by omega) n8) hN.ob rfl (by decide) (Nat.le_of_ble_eq_true rfl) (Nat.le_refl _) (Nat.le_refl _) rfl dX4_stepDown_37 ?_
    refine exX_now (As := [.int (nI (bh n i))]) (r0 := none) (f := fun π => π) (B := (n, none, bh n i, u, q)) vl_X4_95 rfl S (fun π hN => c_leave hN) rfl (by decide) (Nat.le_of_ble_eq_true rfl) (Nat.le_refl _) (Nat.le_refl _) rfl dX4_stepDown_40 (fun h S => ?_)
    have S : XF G h0 h z b ((n, none, bh n i, u, q), (if k < 6 then k + 1 else 6), (recR k L (n, (some i), t, u, q)), V, len, c) := S
    refine ex_iload_n 0 dX4_stepDown_43 rfl rfl ?_
    exact ex_iret hQ rfl (by exact ⟨rfl, rfl, S⟩) dX4_stepDown_44

set_option maxRecDepth 20000 in
set_option maxHeartbeats 2000000 in
theorem c_appeal {G : GG} {l : Launch} {h0 : HP} {z b : Nat} {n : Nat} {g : Option Nat} {t : Nat} {u : Nat → Int32} {q : Nat → Nat → Int32} {k len : Nat} {L : Nat → AS} {V : Nat → Option AS} {c : Nat → Nat} (S0 : PP G h0 z b ((n, g, t, u, q), k, L, V, len, c)) (n8 : n ≤ 8) (gw : ∀ i, g = some i → i < n) {p : Int32} : Ct G l 3 0 0 yX4_appeal cX4_appeal 2 (some .int) [.ref b, .int p] h0 z (pX G (X_appeal ((n, g, t, u, q), k, L, V, len, c) p) h0 z b) := by
  refine Ct.intro (lv := [(0, .ref b), (1, .int p)]) (by decide +kernel) (Nat.le_of_ble_eq_true rfl) rfl (fun X Q hQ hnm => ?_)
  have S := S0.xf
  rcases inR_or p n (by omega) with ⟨m, hp, rfl⟩ | hp
  · rcases g with _ | i
    · have hm0 : mayI n none u q m = 0 := by
        unfold mayI
        rw [if_neg (fun q9 => q9.1 rfl)]
        rfl
      obtain ⟨π, hN⟩ := S.1.2.1
      refine ex_aload_n 0 dX4_appeal_0 rfl rfl ?_
      refine ex_get (v := .ref (b + 1)) fl_X4_10 S.1.ob rfl dX4_appeal_1 ?_
      refine ex_iload_n 1 dX4_appeal_4 rfl rfl ?_
      refine ex_call0 (As := [.int (nI m)]) (v := .ref (b + 1 + 3 + π m)) (ci := 3) vl_X4_76 rfl (c_at hN (by omega) hp n8) hN.ob rfl (by decide) (Nat.le_of_ble_eq_true rfl) (Nat.le_refl _) (Nat.le_refl _) rfl dX4_appeal_5 ?_
      refine ex_ifnonnull (tgt := 13) dX4_appeal_8 (by decide) ?_
      refine ex_aload_n 0 dX4_appeal_13 rfl rfl ?_
      refine ex_get (v := .ref (b + 1)) fl_X4_10 S.1.ob rfl dX4_appeal_14 ?_
      refine ex_iload_n 1 dX4_appeal_17 rfl rfl ?_
      refine ex_call0 (As := [.int (nI m)]) (v := .int (mayI n none u q m)) (ci := 3) vl_X4_99 rfl (c_mayAppeal hN (by omega) hp gw n8) hN.ob rfl (by decide) (Nat.le_of_ble_eq_true rfl) (Nat.le_refl _) (Nat.le_refl _) rfl dX4_appeal_18 ?_
      refine ex_if_ne (tgt := 27) dX4_appeal_21 (by decide) (fun c_21 => absurd (hm0) c_21) (fun c_21 => ?_)
      refine ex_bipush (v := (-5)) dX4_appeal_24 (by decide) ?_
      exact ex_iret hQ rfl (by unfold X_appeal; dsimp only; rw [if_pos (inR_nI hp (by omega)), ixn (by omega), if_pos hm0]; exact ⟨rfl, rfl, S⟩) dX4_appeal_26
    · obtain ⟨π, hN⟩ := S.1.2.1
      refine ex_aload_n 0 dX4_appeal_0 rfl rfl ?_
      refine ex_get (v := .ref (b + 1)) fl_X4_10 S.1.ob rfl dX4_appeal_1 ?_
      refine ex_iload_n 1 dX4_appeal_4 rfl rfl ?_
      refine ex_call0 (As := [.int (nI m)]) (v := .ref (b + 1 + 3 + π m)) (ci := 3) vl_X4_76 rfl (c_at hN (by omega) hp n8) hN.ob rfl (by decide) (Nat.le_of_ble_eq_true rfl) (Nat.le_refl _) (Nat.le_refl _) rfl dX4_appeal_5 ?_
      refine ex_ifnonnull (tgt := 13) dX4_appeal_8 (by decide) ?_
      refine ex_aload_n 0 dX4_appeal_13 rfl rfl ?_
      refine ex_get (v := .ref (b + 1)) fl_X4_10 S.1.ob rfl dX4_appeal_14 ?_
      refine ex_iload_n 1 dX4_appeal_17 rfl rfl ?_
      refine ex_call0 (As := [.int (nI m)]) (v := .int (mayI n (some i) u q m)) (ci := 3) vl_X4_99 rfl (c_mayAppeal hN (by omega) hp gw n8) hN.ob rfl (by decide) (Nat.le_of_ble_eq_true rfl) (Nat.le_refl _) (Nat.le_refl _) rfl dX4_appeal_18 ?_
      refine ex_if_ne (tgt := 27) dX4_appeal_21 (by decide) (fun c_21 => ?_) (fun c_21 => ?_)
      · refine ex_aload_n 0 dX4_appeal_27 rfl rfl ?_
        refine ex_get (v := .ref (b + 23)) fl_X4_22 S.1.ob rfl dX4_appeal_28 ?_
        refine ex_aload_n 0 dX4_appeal_31 rfl rfl ?_
        refine ex_get (v := .ref (b + 1)) fl_X4_10 S.1.ob rfl dX4_appeal_32 ?_
        refine exX_rec vl_X4_48 S n8 (by decide) (Nat.le_of_ble_eq_true rfl) (Nat.le_refl _) (Nat.le_refl _) rfl dX4_appeal_35 (fun h S => ?_)
        have S : XF G h0 h z b ((n, (some i), t, u, q), (if k < 6 then k + 1 else 6), (recR k L (n, (some i), t, u, q)), V, len, c) := S
        refine ex_aload_n 0 dX4_appeal_38 rfl rfl ?_
        refine ex_get (v := .ref (b + 1)) fl_X4_10 S.1.ob rfl dX4_appeal_39 ?_
        refine ex_iload_n 1 dX4_appeal_42 rfl rfl ?_
        refine exX_now (As := [.int (nI m)]) (r0 := (some (.int (if (appA n i t u q m).2 = true then nI 1 else nI 0)))) (f := fun π => π) (B := (appA n i t u q m).1) vl_X4_102 rfl S (fun π hN => c_hearAppeal hN (by omega) hp (gw i rfl) n8) rfl (by decide) (Nat.le_of_ble_eq_true rfl) (Nat.le_refl _) (Nat.le_refl _) rfl dX4_appeal_43 (fun h S => ?_)
        have S : XF G h0 h z b ((appA n i t u q m).1, (if k < 6 then k + 1 else 6), (recR k L (n, (some i), t, u, q)), V, len, c) := S
        refine ex_if_eq (tgt := 53) dX4_appeal_46 (by decide) (fun c_46 => ?_) (fun c_46 => ?_)
        · refine ex_iconst (v := nI 0) dX4_appeal_53 (by decide) ?_
          exact ex_iret hQ rfl (by unfold X_appeal; dsimp only; rw [if_pos (inR_nI hp (by omega)), ixn (by omega), if_neg c_21]; first | exact ⟨congrArg (fun x => some (Value.int x)) c_46.symm, rfl, S⟩ | exact ⟨congrArg (fun x => some (Value.int x)) (zB_1 c_46).symm, rfl, S⟩) dX4_appeal_54
        · refine ex_iconst (v := nI 1) dX4_appeal_49 (by decide) ?_
          refine ex_goto (tgt := 54) dX4_appeal_50 (by decide) ?_
          exact ex_iret hQ rfl (by unfold X_appeal; dsimp only; rw [if_pos (inR_nI hp (by omega)), ixn (by omega), if_neg c_21]; first | exact ⟨congrArg (fun x => some (Value.int x)) c_46.symm, rfl, S⟩ | exact ⟨congrArg (fun x => some (Value.int x)) (zB_1 c_46).symm, rfl, S⟩) dX4_appeal_54
      · refine ex_bipush (v := (-5)) dX4_appeal_24 (by decide) ?_
        exact ex_iret hQ rfl (by unfold X_appeal; dsimp only; rw [if_pos (inR_nI hp (by omega)), ixn (by omega), if_pos c_21]; exact ⟨rfl, rfl, S⟩) dX4_appeal_26
  · obtain ⟨π, hN⟩ := S.1.2.1
    refine ex_aload_n 0 dX4_appeal_0 rfl rfl ?_
    refine ex_get (v := .ref (b + 1)) fl_X4_10 S.1.ob rfl dX4_appeal_1 ?_
    refine ex_iload_n 1 dX4_appeal_4 rfl rfl ?_
    refine ex_call0 (As := [.int p]) (v := .null) (ci := 3) vl_X4_76 rfl (c_atN hN (inR_not hp) n8) hN.ob rfl (by decide) (Nat.le_of_ble_eq_true rfl) (Nat.le_refl _) (Nat.le_refl _) rfl dX4_appeal_5 ?_
    refine ex_ifnonnullN dX4_appeal_8 ?_
    refine ex_iconst (v := (-1)) dX4_appeal_11 (by decide) ?_
    exact ex_iret hQ rfl (by unfold X_appeal; dsimp only; rw [if_neg hp]; exact ⟨rfl, rfl, S⟩) dX4_appeal_12

set_option maxRecDepth 20000 in
set_option maxHeartbeats 2000000 in
theorem c_give {G : GG} {l : Launch} {h0 : HP} {z b : Nat} {n : Nat} {g : Option Nat} {t : Nat} {u : Nat → Int32} {q : Nat → Nat → Int32} {k len : Nat} {L : Nat → AS} {V : Nat → Option AS} {c : Nat → Nat} (S0 : PP G h0 z b ((n, g, t, u, q), k, L, V, len, c)) (n8 : n ≤ 8) {v : Int32} : Ct G l 3 0 0 yX4_give cX4_give 2 (some .int) [.ref b, .int v] h0 z (pX G (X_give ((n, g, t, u, q), k, L, V, len, c) v) h0 z b) := by
  refine Ct.intro (lv := [(0, .ref b), (1, .int v)]) (by decide +kernel) (Nat.le_of_ble_eq_true rfl) rfl (fun X Q hQ hnm => ?_)
  have S := S0.xf
  refine ex_iload_n 1 dX4_give_0 rfl rfl ?_
  refine ex_iconst (v := nI 1) dX4_give_1 (by decide) ?_
  refine ex_icmp_lt (tgt := 12) dX4_give_2 (by decide) (fun c_2 => ?_) (fun c_2 => ?_)
  · refine ex_bipush (v := (-2)) dX4_give_12 (by decide) ?_
    exact ex_iret hQ rfl (by unfold X_give; rw [if_pos (by first | exact Or.inl c_2 | exact Or.inr (Int32.not_le.mp c_9))]; exact ⟨rfl, rfl, S⟩) dX4_give_14
  · refine ex_iload_n 1 dX4_give_5 rfl rfl ?_
    refine ex_sipush (v := nI 9999) dX4_give_6 (by decide) ?_
    refine ex_icmp_le (tgt := 15) dX4_give_9 (by decide) (fun c_9 => ?_) (fun c_9 => ?_)
    · refine ex_aload_n 0 dX4_give_15 rfl rfl ?_
      refine ex_get (v := .ref (b + 1)) fl_X4_10 S.1.ob rfl dX4_give_16 ?_
      refine ex_get (v := .int (u 11)) fl_X4_105 S.1.nob rfl dX4_give_19 ?_
      refine ex_iload_n 1 dX4_give_22 rfl rfl ?_
      refine ex_iadd dX4_give_23 ?_
      refine ex_ldc (v := nI 99999) dX4_give_24 kc_X4_108 ?_
      refine ex_icmp_le (tgt := 32) dX4_give_26 (by decide) (fun c_26 => ?_) (fun c_26 => ?_)
      · refine ex_aload_n 0 dX4_give_32 rfl rfl ?_
        refine ex_get (v := .ref (b + 23)) fl_X4_22 S.1.ob rfl dX4_give_33 ?_
        refine ex_aload_n 0 dX4_give_36 rfl rfl ?_
        refine ex_get (v := .ref (b + 1)) fl_X4_10 S.1.ob rfl dX4_give_37 ?_
        refine exX_rec vl_X4_48 S n8 (by decide) (Nat.le_of_ble_eq_true rfl) (Nat.le_refl _) (Nat.le_refl _) rfl dX4_give_40 (fun h S => ?_)
        have S : XF G h0 h z b ((n, g, t, u, q), (if k < 6 then k + 1 else 6), (recR k L (n, g, t, u, q)), V, len, c) := S
        refine ex_aload_n 0 dX4_give_43 rfl rfl ?_
        refine ex_get (v := .ref (b + 1)) fl_X4_10 S.1.ob rfl dX4_give_44 ?_
        refine ex_dup dX4_give_47 rfl ?_
        refine ex_get (v := .int (u 11)) fl_X4_105 S.1.nob rfl dX4_give_48 ?_
        refine ex_iload_n 1 dX4_give_51 rfl rfl ?_
        refine ex_iadd dX4_give_52 ?_
        refine exX_putU (i := 11) S fl_X4_105 (by decide) (by decide) rfl dX4_give_53 (fun h S => ?_)
        refine ex_aload_n 0 dX4_give_56 rfl rfl ?_
        refine ex_get (v := .ref (b + 1)) fl_X4_10 S.1.ob rfl dX4_give_57 ?_
        refine ex_dup dX4_give_60 rfl ?_
        refine ex_get (v := .int (u 16)) fl_X4_109 S.1.nob rfl dX4_give_61 ?_
        refine ex_iload_n 1 dX4_give_64 rfl rfl ?_
        refine ex_iadd dX4_give_65 ?_
        refine exX_putU (i := 16) S fl_X4_109 (by decide) (by decide) rfl dX4_give_66 (fun h S => ?_)
        refine ex_aload_n 0 dX4_give_69 rfl rfl ?_
        refine ex_get (v := .ref (b + 1)) fl_X4_10 S.1.ob rfl dX4_give_70 ?_
        refine ex_get (v := .int ((u 11) + v)) fl_X4_105 S.1.nob rfl dX4_give_73 ?_
        exact ex_iret hQ rfl (by unfold X_give; rw [if_neg (fun q9 => q9.elim c_2 (fun q9 => absurd c_9 (Int32.not_le.mpr q9))), if_neg (Int32.not_lt.mpr c_26)]; exact ⟨rfl, rfl, S⟩) dX4_give_76
      · refine ex_bipush (v := (-4)) dX4_give_29 (by decide) ?_
        exact ex_iret hQ rfl (by unfold X_give; rw [if_neg (fun q9 => q9.elim c_2 (fun q9 => absurd c_9 (Int32.not_le.mpr q9))), if_pos (Int32.not_le.mp c_26)]; exact ⟨rfl, rfl, S⟩) dX4_give_31
    · refine ex_bipush (v := (-2)) dX4_give_12 (by decide) ?_
      exact ex_iret hQ rfl (by unfold X_give; rw [if_pos (by first | exact Or.inl c_2 | exact Or.inr (Int32.not_le.mp c_9))]; exact ⟨rfl, rfl, S⟩) dX4_give_14
end
section
set_option maxRecDepth 20000 in
set_option maxHeartbeats 2000000 in
theorem c_pass {G : GG} {l : Launch} {h0 : HP} {z b : Nat} {n : Nat} {g : Option Nat} {t : Nat} {u : Nat → Int32} {q : Nat → Nat → Int32} {k len : Nat} {L : Nat → AS} {V : Nat → Option AS} {c : Nat → Nat} (S0 : PP G h0 z b ((n, g, t, u, q), k, L, V, len, c)) (wf : wfA (n, g, t, u, q)) (m3 : 0 < u 3) {v : Int32} : Ct G l 5 0 0 yX4_pass cX4_pass 3 (some .int) [.ref b, .int v] h0 z (pX G (X_pass ((n, g, t, u, q), k, L, V, len, c) v) h0 z b) := by
  refine Ct.intro (lv := [(0, .ref b), (1, .int v)]) (by decide +kernel) (Nat.le_of_ble_eq_true rfl) rfl (fun X Q hQ hnm => ?_)
  have S := S0.xf
  have n8 : n ≤ 8 := wf.1
  refine ex_iload_n 1 dX4_pass_0 rfl rfl ?_
  refine ex_iconst (v := nI 1) dX4_pass_1 (by decide) ?_
  refine ex_icmp_lt (tgt := 11) dX4_pass_2 (by decide) (fun c_2 => ?_) (fun c_2 => ?_)
  · refine ex_bipush (v := (-2)) dX4_pass_11 (by decide) ?_
    exact ex_iret hQ rfl (by unfold X_pass; rw [if_pos (by first | exact Or.inl c_2 | exact Or.inr (Int32.not_le.mp c_8))]; exact ⟨rfl, rfl, S⟩) dX4_pass_13
  · refine ex_iload_n 1 dX4_pass_5 rfl rfl ?_
    refine ex_bipush (v := nI 99) dX4_pass_6 (by decide) ?_
    refine ex_icmp_le (tgt := 14) dX4_pass_8 (by decide) (fun c_8 => ?_) (fun c_8 => ?_)
    · obtain ⟨j, j1, j2, rfl⟩ := rngI (by omega) (by omega) c_2 c_8
      refine ex_aload_n 0 dX4_pass_14 rfl rfl ?_
      refine ex_get (v := .ref (b + 1)) fl_X4_10 S.1.ob rfl dX4_pass_15 ?_
      refine ex_get (v := .int (u 6)) fl_X4_112 S.1.nob rfl dX4_pass_18 ?_
      refine ex_iload_n 1 dX4_pass_21 rfl rfl ?_
      refine ex_iadd dX4_pass_22 ?_
      refine ex_sipush (v := nI 9999) dX4_pass_23 (by decide) ?_
      refine ex_icmp_le (tgt := 32) dX4_pass_26 (by decide) (fun c_26 => ?_) (fun c_26 => ?_)
      · refine ex_aload_n 0 dX4_pass_32 rfl rfl ?_
        refine ex_get (v := .ref (b + 23)) fl_X4_22 S.1.ob rfl dX4_pass_33 ?_
        refine ex_aload_n 0 dX4_pass_36 rfl rfl ?_
        refine ex_get (v := .ref (b + 1)) fl_X4_10 S.1.ob rfl dX4_pass_37 ?_
        refine exX_rec vl_X4_48 S n8 (by decide) (Nat.le_of_ble_eq_true rfl) (Nat.le_refl _) (Nat.le_refl _) rfl dX4_pass_40 (fun h S => ?_)
        have S : XF G h0 h z b ((n, g, t, u, q), (if k < 6 then k + 1 else 6), (recR k L (n, g, t, u, q)), V, len, c) := S
        refine ex_aload_n 0 dX4_pass_43 rfl rfl ?_
        refine ex_get (v := .ref (b + 1)) fl_X4_10 S.1.ob rfl dX4_pass_44 ?_
        refine ex_get (v := .int (u 13)) fl_X4_115 S.1.nob rfl dX4_pass_47 ?_
        refine ex_istore_n (lv' := [(2, .int (u 13)), (0, .ref b), (1, .int (nI j))]) dX4_pass_50 rfl (by decide) rfl ?_
        refine ex_aload_n 1 dX4_pass_51 rfl rfl ?_
        refine ex_get (v := .ref (b + 1)) fl_X4_10 S.1.ob rfl dX4_pass_52 ?_
        refine ex_iload_n 2 dX4_pass_55 rfl rfl ?_
        refine exX_now (As := [.int (nI j)]) (r0 := none) (f := fun π => π) (B := itA j (n, g, t, u, q)) vl_X4_118 rfl S (fun π hN => c_liveDays hN wf m3 (by omega)) rfl (by decide) (Nat.le_of_ble_eq_true rfl) (Nat.le_refl _) (Nat.le_refl _) rfl dX4_pass_56 (fun h S => ?_)
        have S : XF G h0 h z b (itA j (n, g, t, u, q), (if k < 6 then k + 1 else 6), (recR k L (n, g, t, u, q)), V, len, c) := S
        refine ex_aload_n 1 dX4_pass_59 rfl rfl ?_
        refine ex_get (v := .ref (b + 1)) fl_X4_10 S.1.ob rfl dX4_pass_60 ?_
        refine ex_get (v := .int ((itA j (n, g, t, u, q)).2.2.2.1 13)) fl_X4_115 S.1.nob rfl dX4_pass_63 ?_
        refine ex_iload_n 0 dX4_pass_66 rfl rfl ?_
        refine ex_isub dX4_pass_67 ?_
        exact ex_iret hQ rfl (by have hc : ¬ (nI j < nI 1 ∨ nI 99 < nI j) := fun q9 => q9.elim c_2 (fun q9 => absurd c_8 (Int32.not_le.mpr q9)); unfold X_pass; rw [if_neg hc, if_neg (Int32.not_lt.mpr c_26), ixn (by omega)]; exact ⟨rfl, rfl, S⟩) dX4_pass_68
      · refine ex_bipush (v := (-4)) dX4_pass_29 (by decide) ?_
        exact ex_iret hQ rfl (by have hc : ¬ (nI j < nI 1 ∨ nI 99 < nI j) := fun q9 => q9.elim c_2 (fun q9 => absurd c_8 (Int32.not_le.mpr q9)); unfold X_pass; rw [if_neg hc, if_pos (Int32.not_le.mp c_26)]; exact ⟨rfl, rfl, S⟩) dX4_pass_31
    · refine ex_bipush (v := (-2)) dX4_pass_11 (by decide) ?_
      exact ex_iret hQ rfl (by unfold X_pass; rw [if_pos (by first | exact Or.inl c_2 | exact Or.inr (Int32.not_le.mp c_8))]; exact ⟨rfl, rfl, S⟩) dX4_pass_13

set_option maxRecDepth 20000 in
set_option maxHeartbeats 2000000 in
theorem c_person {G : GG} {l : Launch} {h0 : HP} {z b : Nat} {n : Nat} {g : Option Nat} {t : Nat} {u : Nat → Int32} {q : Nat → Nat → Int32} {k len : Nat} {L : Nat → AS} {V : Nat → Option AS} {c : Nat → Nat} (S0 : PP G h0 z b ((n, g, t, u, q), k, L, V, len, c)) (n8 : n ≤ 8) (gw : ∀ i, g = some i → i < n) {p x : Int32} : Ct G l 2 0 0 yX4_person cX4_person 4 (some .int) [.ref b, .int p, .int x] h0 z (pX G (X_person ((n, g, t, u, q), k, L, V, len, c) p x, ((n, g, t, u, q), k, L, V, len, c)) h0 z b) := by
  refine Ct.intro (lv := [(0, .ref b), (1, .int p), (2, .int x)]) (by decide +kernel) (Nat.le_of_ble_eq_true rfl) rfl (fun X Q hQ hnm => ?_)
  have S := S0.xf
  obtain ⟨π, hN⟩ := S.1.2.1
  rcases inR_or p n (by omega) with ⟨i, hp, rfl⟩ | hp
  · refine ex_aload_n 0 dX4_person_0 rfl rfl ?_
    refine ex_get (v := .ref (b + 1)) fl_X4_10 S.1.ob rfl dX4_person_1 ?_
    refine ex_iload_n 1 dX4_person_4 rfl rfl ?_
    refine ex_call0 (As := [.int (nI i)]) (v := .ref (b + 1 + 3 + π i)) (ci := 3) vl_X4_76 rfl (c_at hN (by omega) hp n8) hN.ob rfl (by decide) (Nat.le_of_ble_eq_true rfl) (Nat.le_refl _) (Nat.le_refl _) rfl dX4_person_5 ?_
    refine ex_astore_n (lv' := [(3, .ref (b + 1 + 3 + π i)), (0, .ref b), (1, .int (nI i)), (2, .int x)]) dX4_person_8 rfl (by decide) rfl ?_
    refine ex_aload_n 0 dX4_person_9 rfl rfl ?_
    refine ex_ifnonnull (tgt := 15) dX4_person_10 (by decide) ?_
    rcases inR_or x 9 (by omega) with ⟨m, hx, rfl⟩ | hx
    · rcases (show m = 0 ∨ m = 1 ∨ m = 2 ∨ m = 3 ∨ m = 4 ∨ m = 5 ∨ m = 6 ∨ m = 7 ∨ m = 8 by omega) with rfl | rfl | rfl | rfl | rfl | rfl | rfl | rfl | rfl
      · refine ex_iload_n 3 dX4_person_15 rfl rfl ?_
        refine ex_tableIn (off := 52) (tgt := 68) dX4_person_16 (by decide) (by decide) (by decide) (by decide) ?_
        refine ex_aload_n 0 dX4_person_68 rfl rfl ?_
        refine ex_get (v := .int (q i 0)) fl_X4_121 (hN.pe (by omega) hp) rfl dX4_person_69 ?_
        exact ex_iret hQ rfl (by unfold X_person; dsimp only; rw [if_pos (inR_nI hp (by omega)), if_pos (inR_nI hx (by decide)), ixn (by omega), ixn (by omega)]; exact ⟨rfl, rfl, S⟩) dX4_person_72
      · refine ex_iload_n 3 dX4_person_15 rfl rfl ?_
        refine ex_tableIn (off := 57) (tgt := 73) dX4_person_16 (by decide) (by decide) (by decide) (by decide) ?_
        refine ex_aload_n 0 dX4_person_73 rfl rfl ?_
        refine ex_get (v := .int (q i 1)) fl_X4_126 (hN.pe (by omega) hp) rfl dX4_person_74 ?_
        exact ex_iret hQ rfl (by unfold X_person; dsimp only; rw [if_pos (inR_nI hp (by omega)), if_pos (inR_nI hx (by decide)), ixn (by omega), ixn (by omega)]; exact ⟨rfl, rfl, S⟩) dX4_person_77
      · refine ex_iload_n 3 dX4_person_15 rfl rfl ?_
        refine ex_tableIn (off := 62) (tgt := 78) dX4_person_16 (by decide) (by decide) (by decide) (by decide) ?_
        refine ex_aload_n 0 dX4_person_78 rfl rfl ?_
        refine ex_get (v := .int (q i 2)) fl_X4_129 (hN.pe (by omega) hp) rfl dX4_person_79 ?_
        exact ex_iret hQ rfl (by unfold X_person; dsimp only; rw [if_pos (inR_nI hp (by omega)), if_pos (inR_nI hx (by decide)), ixn (by omega), ixn (by omega)]; exact ⟨rfl, rfl, S⟩) dX4_person_82
      · refine ex_iload_n 3 dX4_person_15 rfl rfl ?_
        refine ex_tableIn (off := 67) (tgt := 83) dX4_person_16 (by decide) (by decide) (by decide) (by decide) ?_
        refine ex_aload_n 0 dX4_person_83 rfl rfl ?_
        refine ex_get (v := .int (q i 3)) fl_X4_132 (hN.pe (by omega) hp) rfl dX4_person_84 ?_
        exact ex_iret hQ rfl (by unfold X_person; dsimp only; rw [if_pos (inR_nI hp (by omega)), if_pos (inR_nI hx (by decide)), ixn (by omega), ixn (by omega)]; exact ⟨rfl, rfl, S⟩) dX4_person_87
      · refine ex_iload_n 3 dX4_person_15 rfl rfl ?_
        refine ex_tableIn (off := 72) (tgt := 88) dX4_person_16 (by decide) (by decide) (by decide) (by decide) ?_
        refine ex_aload_n 1 dX4_person_88 rfl rfl ?_
        refine ex_get (v := .ref (b + 1)) fl_X4_10 S.1.ob rfl dX4_person_89 ?_
        refine ex_aload_n 0 dX4_person_92 rfl rfl ?_
        refine ex_call0 (As := [.ref (b + 1 + 3 + π i)]) (v := .int (bB u q i)) (ci := 3) vl_X4_135 rfl (c_isBarred hN (by omega) hp) hN.ob rfl (by decide) (Nat.le_of_ble_eq_true rfl) (Nat.le_refl _) (Nat.le_refl _) rfl dX4_person_93 ?_
        refine ex_if_eq (tgt := 103) dX4_person_96 (by decide) (fun c_96 => ?_) (fun c_96 => ?_)
        · refine ex_iconst (v := nI 0) dX4_person_103 (by decide) ?_
          exact ex_iret hQ rfl (by unfold X_person; dsimp only; rw [if_pos (inR_nI hp (by omega)), if_pos (inR_nI hx (by decide)), ixn (by omega), ixn (by omega)]; first | exact ⟨congrArg (fun x => some (Value.int x)) c_96.symm, rfl, S⟩ | exact ⟨congrArg (fun x => some (Value.int x)) (bI_e1 c_96).symm, rfl, S⟩) dX4_person_104
        · refine ex_iconst (v := nI 1) dX4_person_99 (by decide) ?_
          refine ex_goto (tgt := 104) dX4_person_100 (by decide) ?_
          exact ex_iret hQ rfl (by unfold X_person; dsimp only; rw [if_pos (inR_nI hp (by omega)), if_pos (inR_nI hx (by decide)), ixn (by omega), ixn (by omega)]; first | exact ⟨congrArg (fun x => some (Value.int x)) c_96.symm, rfl, S⟩ | exact ⟨congrArg (fun x => some (Value.int x)) (bI_e1 c_96).symm, rfl, S⟩) dX4_person_104
      · refine ex_iload_n 3 dX4_person_15 rfl rfl ?_
        refine ex_tableIn (off := 89) (tgt := 105) dX4_person_16 (by decide) (by decide) (by decide) (by decide) ?_
        refine ex_aload_n 1 dX4_person_105 rfl rfl ?_
        refine ex_get (v := .ref (b + 1)) fl_X4_10 S.1.ob rfl dX4_person_106 ?_
        refine ex_aload_n 0 dX4_person_109 rfl rfl ?_
        refine ex_call0 (As := [.ref (b + 1 + 3 + π i)]) (v := .int (scI u q i)) (ci := 3) vl_X4_139 rfl (c_score hN (by omega) hp) hN.ob rfl (by decide) (Nat.le_of_ble_eq_true rfl) (Nat.le_refl _) (Nat.le_refl _) rfl dX4_person_110 ?_
        refine ex_sipush (v := nI 1000) dX4_person_113 (by decide) ?_
        refine ex_iadd dX4_person_116 ?_
        exact ex_iret hQ rfl (by unfold X_person; dsimp only; rw [if_pos (inR_nI hp (by omega)), if_pos (inR_nI hx (by decide)), ixn (by omega), ixn (by omega)]; exact ⟨rfl, rfl, S⟩) dX4_person_117
      · refine ex_iload_n 3 dX4_person_15 rfl rfl ?_
        refine ex_tableIn (off := 102) (tgt := 118) dX4_person_16 (by decide) (by decide) (by decide) (by decide) ?_
        refine ex_aload_n 0 dX4_person_118 rfl rfl ?_
        refine ex_get (v := .int (q i 4)) fl_X4_143 (hN.pe (by omega) hp) rfl dX4_person_119 ?_
        exact ex_iret hQ rfl (by unfold X_person; dsimp only; rw [if_pos (inR_nI hp (by omega)), if_pos (inR_nI hx (by decide)), ixn (by omega), ixn (by omega)]; exact ⟨rfl, rfl, S⟩) dX4_person_122
      · refine ex_iload_n 3 dX4_person_15 rfl rfl ?_
        refine ex_tableIn (off := 107) (tgt := 123) dX4_person_16 (by decide) (by decide) (by decide) (by decide) ?_
        refine ex_aload_n 0 dX4_person_123 rfl rfl ?_
        refine ex_get (v := .int (q i 5)) fl_X4_144 (hN.pe (by omega) hp) rfl dX4_person_124 ?_
        exact ex_iret hQ rfl (by unfold X_person; dsimp only; rw [if_pos (inR_nI hp (by omega)), if_pos (inR_nI hx (by decide)), ixn (by omega), ixn (by omega)]; exact ⟨rfl, rfl, S⟩) dX4_person_127
      · refine ex_iload_n 3 dX4_person_15 rfl rfl ?_
        refine ex_tableIn (off := 112) (tgt := 128) dX4_person_16 (by decide) (by decide) (by decide) (by decide) ?_
        refine ex_aload_n 1 dX4_person_128 rfl rfl ?_
        refine ex_get (v := .ref (b + 1)) fl_X4_10 S.1.ob rfl dX4_person_129 ?_
        refine ex_iload_n 2 dX4_person_132 rfl rfl ?_
        refine ex_call0 (As := [.int (nI i)]) (v := .int (mayI n g u q i)) (ci := 3) vl_X4_99 rfl (c_mayAppeal hN (by omega) hp gw n8) hN.ob rfl (by decide) (Nat.le_of_ble_eq_true rfl) (Nat.le_refl _) (Nat.le_refl _) rfl dX4_person_133 ?_
        refine ex_if_eq (tgt := 143) dX4_person_136 (by decide) (fun c_136 => ?_) (fun c_136 => ?_)
        · refine ex_iconst (v := nI 0) dX4_person_143 (by decide) ?_
          exact ex_iret hQ rfl (by unfold X_person; dsimp only; rw [if_pos (inR_nI hp (by omega)), if_pos (inR_nI hx (by decide)), ixn (by omega), ixn (by omega)]; first | exact ⟨congrArg (fun x => some (Value.int x)) c_136.symm, rfl, S⟩ | exact ⟨congrArg (fun x => some (Value.int x)) (mayI_1 c_136).symm, rfl, S⟩) dX4_person_144
        · refine ex_iconst (v := nI 1) dX4_person_139 (by decide) ?_
          refine ex_goto (tgt := 144) dX4_person_140 (by decide) ?_
          exact ex_iret hQ rfl (by unfold X_person; dsimp only; rw [if_pos (inR_nI hp (by omega)), if_pos (inR_nI hx (by decide)), ixn (by omega), ixn (by omega)]; first | exact ⟨congrArg (fun x => some (Value.int x)) c_136.symm, rfl, S⟩ | exact ⟨congrArg (fun x => some (Value.int x)) (mayI_1 c_136).symm, rfl, S⟩) dX4_person_144
    · refine ex_iload_n 3 dX4_person_15 rfl rfl ?_
      refine ex_tableOut (tgt := 145) dX4_person_16 (tabc hx (by decide)) (by decide) ?_
      refine ex_bipush (v := (-2)) dX4_person_145 (by decide) ?_
      exact ex_iret hQ rfl (by unfold X_person; dsimp only; rw [if_pos (inR_nI hp (by omega)), if_neg hx]; exact ⟨rfl, rfl, S⟩) dX4_person_147
  · refine ex_aload_n 0 dX4_person_0 rfl rfl ?_
    refine ex_get (v := .ref (b + 1)) fl_X4_10 S.1.ob rfl dX4_person_1 ?_
    refine ex_iload_n 1 dX4_person_4 rfl rfl ?_
    refine ex_call0 (As := [.int p]) (v := .null) (ci := 3) vl_X4_76 rfl (c_atN hN (inR_not hp) n8) hN.ob rfl (by decide) (Nat.le_of_ble_eq_true rfl) (Nat.le_refl _) (Nat.le_refl _) rfl dX4_person_5 ?_
    refine ex_astore_nN (lv' := [(3, .null), (0, .ref b), (1, .int p), (2, .int x)]) dX4_person_8 rfl (by decide) rfl ?_
    refine ex_aload_nN 0 dX4_person_9 rfl rfl ?_
    refine ex_ifnonnullN dX4_person_10 ?_
    refine ex_iconst (v := (-1)) dX4_person_13 (by decide) ?_
    exact ex_iret hQ rfl (by unfold X_person; dsimp only; rw [if_neg hp]; exact ⟨rfl, rfl, S⟩) dX4_person_14

set_option maxRecDepth 20000 in
set_option maxHeartbeats 2000000 in
theorem c_count {G : GG} {l : Launch} {h0 : HP} {z b : Nat} {n : Nat} {g : Option Nat} {t : Nat} {u : Nat → Int32} {q : Nat → Nat → Int32} {k len : Nat} {L : Nat → AS} {V : Nat → Option AS} {c : Nat → Nat} (S0 : PP G h0 z b ((n, g, t, u, q), k, L, V, len, c)) (n8 : n ≤ 8) (gw : ∀ i, g = some i → i < n) {x : Int32} : Ct G l 2 0 0 yX4_count cX4_count 2 (some .int) [.ref b, .int x] h0 z (pX G (X_count ((n, g, t, u, q), k, L, V, len, c) x, ((n, g, t, u, q), k, L, V, len, c)) h0 z b) := by
  refine Ct.intro (lv := [(0, .ref b), (1, .int x)]) (by decide +kernel) (Nat.le_of_ble_eq_true rfl) rfl (fun X Q hQ hnm => ?_)
  have S := S0.xf
  obtain ⟨π, hN⟩ := S.1.2.1
  rcases inR_or x 21 (by omega) with ⟨m, hx, rfl⟩ | hx
  · rcases (show m = 0 ∨ m = 1 ∨ m = 2 ∨ m = 3 ∨ m = 4 ∨ m = 5 ∨ m = 6 ∨ m = 7 ∨ m = 8 ∨ m = 9 ∨ m = 10 ∨ m = 11 ∨ m = 12 ∨ m = 13 ∨ m = 14 ∨ m = 15 ∨ m = 16 ∨ m = 17 ∨ m = 18 ∨ m = 19 ∨ m = 20 by omega) with rfl | rfl | rfl | rfl | rfl | rfl | rfl | rfl | rfl | rfl | rfl | rfl | rfl | rfl | rfl | rfl | rfl | rfl | rfl | rfl | rfl
    · refine ex_iload_n 1 dX4_count_0 rfl rfl ?_
      refine ex_callS0 (As := [.int (nI 0)]) (v := .int (nI 1)) vl_X4_37 (c_isSettingT (by decide)) rfl (by decide) (Nat.le_of_ble_eq_true rfl) (Nat.le_refl _) (Nat.le_refl _) rfl dX4_count_1 ?_
      refine ex_if_eq (tgt := 17) dX4_count_4 (by decide) (fun c_4 => absurd c_4 (by decide)) (fun c_4 => ?_)
      refine ex_aload_n 0 dX4_count_7 rfl rfl ?_
      refine ex_get (v := .ref (b + 1)) fl_X4_10 S.1.ob rfl dX4_count_8 ?_
      refine ex_get (v := .ref (b + 1 + 1)) fl_X4_52 S.1.nob rfl dX4_count_11 ?_
      refine ex_iload_n 1 dX4_count_14 rfl rfl ?_
      refine exX_ld (i := 0) (w := u 0) S rfl (by decide) rfl dX4_count_15 ?_
      exact ex_iret hQ rfl (by unfold X_count; rw [if_pos (inR_nI hx (by decide)), ixn (by decide)]; exact ⟨rfl, rfl, S⟩) dX4_count_16
    · refine ex_iload_n 1 dX4_count_0 rfl rfl ?_
      refine ex_callS0 (As := [.int (nI 1)]) (v := .int (nI 1)) vl_X4_37 (c_isSettingT (by decide)) rfl (by decide) (Nat.le_of_ble_eq_true rfl) (Nat.le_refl _) (Nat.le_refl _) rfl dX4_count_1 ?_
      refine ex_if_eq (tgt := 17) dX4_count_4 (by decide) (fun c_4 => absurd c_4 (by decide)) (fun c_4 => ?_)
      refine ex_aload_n 0 dX4_count_7 rfl rfl ?_
      refine ex_get (v := .ref (b + 1)) fl_X4_10 S.1.ob rfl dX4_count_8 ?_
      refine ex_get (v := .ref (b + 1 + 1)) fl_X4_52 S.1.nob rfl dX4_count_11 ?_
      refine ex_iload_n 1 dX4_count_14 rfl rfl ?_
      refine exX_ld (i := 1) (w := u 1) S rfl (by decide) rfl dX4_count_15 ?_
      exact ex_iret hQ rfl (by unfold X_count; rw [if_pos (inR_nI hx (by decide)), ixn (by decide)]; exact ⟨rfl, rfl, S⟩) dX4_count_16
    · refine ex_iload_n 1 dX4_count_0 rfl rfl ?_
      refine ex_callS0 (As := [.int (nI 2)]) (v := .int (nI 1)) vl_X4_37 (c_isSettingT (by decide)) rfl (by decide) (Nat.le_of_ble_eq_true rfl) (Nat.le_refl _) (Nat.le_refl _) rfl dX4_count_1 ?_
      refine ex_if_eq (tgt := 17) dX4_count_4 (by decide) (fun c_4 => absurd c_4 (by decide)) (fun c_4 => ?_)
      refine ex_aload_n 0 dX4_count_7 rfl rfl ?_
      refine ex_get (v := .ref (b + 1)) fl_X4_10 S.1.ob rfl dX4_count_8 ?_
      refine ex_get (v := .ref (b + 1 + 1)) fl_X4_52 S.1.nob rfl dX4_count_11 ?_
      refine ex_iload_n 1 dX4_count_14 rfl rfl ?_
      refine exX_ld (i := 2) (w := u 2) S rfl (by decide) rfl dX4_count_15 ?_
      exact ex_iret hQ rfl (by unfold X_count; rw [if_pos (inR_nI hx (by decide)), ixn (by decide)]; exact ⟨rfl, rfl, S⟩) dX4_count_16
    · refine ex_iload_n 1 dX4_count_0 rfl rfl ?_
      refine ex_callS0 (As := [.int (nI 3)]) (v := .int (nI 1)) vl_X4_37 (c_isSettingT (by decide)) rfl (by decide) (Nat.le_of_ble_eq_true rfl) (Nat.le_refl _) (Nat.le_refl _) rfl dX4_count_1 ?_
      refine ex_if_eq (tgt := 17) dX4_count_4 (by decide) (fun c_4 => absurd c_4 (by decide)) (fun c_4 => ?_)
      refine ex_aload_n 0 dX4_count_7 rfl rfl ?_
      refine ex_get (v := .ref (b + 1)) fl_X4_10 S.1.ob rfl dX4_count_8 ?_
      refine ex_get (v := .ref (b + 1 + 1)) fl_X4_52 S.1.nob rfl dX4_count_11 ?_
      refine ex_iload_n 1 dX4_count_14 rfl rfl ?_
      refine exX_ld (i := 3) (w := u 3) S rfl (by decide) rfl dX4_count_15 ?_
      exact ex_iret hQ rfl (by unfold X_count; rw [if_pos (inR_nI hx (by decide)), ixn (by decide)]; exact ⟨rfl, rfl, S⟩) dX4_count_16
    · refine ex_iload_n 1 dX4_count_0 rfl rfl ?_
      refine ex_callS0 (As := [.int (nI 4)]) (v := .int (nI 1)) vl_X4_37 (c_isSettingT (by decide)) rfl (by decide) (Nat.le_of_ble_eq_true rfl) (Nat.le_refl _) (Nat.le_refl _) rfl dX4_count_1 ?_
      refine ex_if_eq (tgt := 17) dX4_count_4 (by decide) (fun c_4 => absurd c_4 (by decide)) (fun c_4 => ?_)
      refine ex_aload_n 0 dX4_count_7 rfl rfl ?_
      refine ex_get (v := .ref (b + 1)) fl_X4_10 S.1.ob rfl dX4_count_8 ?_
      refine ex_get (v := .ref (b + 1 + 1)) fl_X4_52 S.1.nob rfl dX4_count_11 ?_
      refine ex_iload_n 1 dX4_count_14 rfl rfl ?_
      refine exX_ld (i := 4) (w := u 4) S rfl (by decide) rfl dX4_count_15 ?_
      exact ex_iret hQ rfl (by unfold X_count; rw [if_pos (inR_nI hx (by decide)), ixn (by decide)]; exact ⟨rfl, rfl, S⟩) dX4_count_16
    · refine ex_iload_n 1 dX4_count_0 rfl rfl ?_
      refine ex_callS0 (As := [.int (nI 5)]) (v := .int (nI 1)) vl_X4_37 (c_isSettingT (by decide)) rfl (by decide) (Nat.le_of_ble_eq_true rfl) (Nat.le_refl _) (Nat.le_refl _) rfl dX4_count_1 ?_
      refine ex_if_eq (tgt := 17) dX4_count_4 (by decide) (fun c_4 => absurd c_4 (by decide)) (fun c_4 => ?_)
      refine ex_aload_n 0 dX4_count_7 rfl rfl ?_
      refine ex_get (v := .ref (b + 1)) fl_X4_10 S.1.ob rfl dX4_count_8 ?_
      refine ex_get (v := .ref (b + 1 + 1)) fl_X4_52 S.1.nob rfl dX4_count_11 ?_
      refine ex_iload_n 1 dX4_count_14 rfl rfl ?_
      refine exX_ld (i := 5) (w := u 5) S rfl (by decide) rfl dX4_count_15 ?_
      exact ex_iret hQ rfl (by unfold X_count; rw [if_pos (inR_nI hx (by decide)), ixn (by decide)]; exact ⟨rfl, rfl, S⟩) dX4_count_16
    · refine ex_iload_n 1 dX4_count_0 rfl rfl ?_
      refine ex_callS0 (As := [.int (nI 6)]) (v := .int (nI 0)) vl_X4_37 (c_isSettingF (by decide)) rfl (by decide) (Nat.le_of_ble_eq_true rfl) (Nat.le_refl _) (Nat.le_refl _) rfl dX4_count_1 ?_
      refine ex_if_eq (tgt := 17) dX4_count_4 (by decide) (fun c_4 => ?_) (fun c_4 => absurd (by decide) c_4)
      refine ex_iload_n 1 dX4_count_17 rfl rfl ?_
      refine ex_tableIn (off := 74) (tgt := 92) dX4_count_18 (by decide) (by decide) (by decide) (by decide) ?_
      refine ex_aload_n 0 dX4_count_92 rfl rfl ?_
      refine ex_get (v := .ref (b + 1)) fl_X4_10 S.1.ob rfl dX4_count_93 ?_
      refine ex_get (v := .int (u 6)) fl_X4_112 S.1.nob rfl dX4_count_96 ?_
      exact ex_iret hQ rfl (by unfold X_count; rw [if_pos (inR_nI hx (by decide)), ixn (by decide)]; exact ⟨rfl, rfl, S⟩) dX4_count_99
    · refine ex_iload_n 1 dX4_count_0 rfl rfl ?_
      refine ex_callS0 (As := [.int (nI 7)]) (v := .int (nI 0)) vl_X4_37 (c_isSettingF (by decide)) rfl (by decide) (Nat.le_of_ble_eq_true rfl) (Nat.le_refl _) (Nat.le_refl _) rfl dX4_count_1 ?_
      refine ex_if_eq (tgt := 17) dX4_count_4 (by decide) (fun c_4 => ?_) (fun c_4 => absurd (by decide) c_4)
      refine ex_iload_n 1 dX4_count_17 rfl rfl ?_
      refine ex_tableIn (off := 82) (tgt := 100) dX4_count_18 (by decide) (by decide) (by decide) (by decide) ?_
      refine ex_aload_n 0 dX4_count_100 rfl rfl ?_
      refine ex_get (v := .ref (b + 1)) fl_X4_10 S.1.ob rfl dX4_count_101 ?_
      refine ex_get (v := .int (nI n)) fl_X4_55 S.1.nob rfl dX4_count_104 ?_
      exact ex_iret hQ rfl (by unfold X_count; rw [if_pos (inR_nI hx (by decide)), ixn (by decide)]; exact ⟨rfl, rfl, S⟩) dX4_count_107
    · refine ex_iload_n 1 dX4_count_0 rfl rfl ?_
      refine ex_callS0 (As := [.int (nI 8)]) (v := .int (nI 0)) vl_X4_37 (c_isSettingF (by decide)) rfl (by decide) (Nat.le_of_ble_eq_true rfl) (Nat.le_refl _) (Nat.le_refl _) rfl dX4_count_1 ?_
      refine ex_if_eq (tgt := 17) dX4_count_4 (by decide) (fun c_4 => ?_) (fun c_4 => absurd (by decide) c_4)
      refine ex_iload_n 1 dX4_count_17 rfl rfl ?_
      refine ex_tableIn (off := 90) (tgt := 108) dX4_count_18 (by decide) (by decide) (by decide) (by decide) ?_
      refine ex_aload_n 0 dX4_count_108 rfl rfl ?_
      refine ex_get (v := .ref (b + 1)) fl_X4_10 S.1.ob rfl dX4_count_109 ?_
      refine ex_get (v := .int (u 8)) fl_X4_147 S.1.nob rfl dX4_count_112 ?_
      exact ex_iret hQ rfl (by unfold X_count; rw [if_pos (inR_nI hx (by decide)), ixn (by decide)]; exact ⟨rfl, rfl, S⟩) dX4_count_115
    · refine ex_iload_n 1 dX4_count_0 rfl rfl ?_
      refine ex_callS0 (As := [.int (nI 9)]) (v := .int (nI 0)) vl_X4_37 (c_isSettingF (by decide)) rfl (by decide) (Nat.le_of_ble_eq_true rfl) (Nat.le_refl _) (Nat.le_refl _) rfl dX4_count_1 ?_
      refine ex_if_eq (tgt := 17) dX4_count_4 (by decide) (fun c_4 => ?_) (fun c_4 => absurd (by decide) c_4)
      refine ex_iload_n 1 dX4_count_17 rfl rfl ?_
      refine ex_tableIn (off := 98) (tgt := 116) dX4_count_18 (by decide) (by decide) (by decide) (by decide) ?_
      refine ex_aload_n 0 dX4_count_116 rfl rfl ?_
      refine ex_get (v := .ref (b + 1)) fl_X4_10 S.1.ob rfl dX4_count_117 ?_
      refine ex_get (v := .int (gv g)) fl_X4_89 S.1.nob rfl dX4_count_120 ?_
      exact ex_iret hQ rfl (by unfold X_count; rw [if_pos (inR_nI hx (by decide)), ixn (by decide)]; exact ⟨rfl, rfl, S⟩) dX4_count_123
    · rcases g with _ | i
      · refine ex_iload_n 1 dX4_count_0 rfl rfl ?_
        refine ex_callS0 (As := [.int (nI 10)]) (v := .int (nI 0)) vl_X4_37 (c_isSettingF (by decide)) rfl (by decide) (Nat.le_of_ble_eq_true rfl) (Nat.le_refl _) (Nat.le_refl _) rfl dX4_count_1 ?_
        refine ex_if_eq (tgt := 17) dX4_count_4 (by decide) (fun c_4 => ?_) (fun c_4 => absurd (by decide) c_4)
        refine ex_iload_n 1 dX4_count_17 rfl rfl ?_
        refine ex_tableIn (off := 106) (tgt := 124) dX4_count_18 (by decide) (by decide) (by decide) (by decide) ?_
        refine ex_aload_n 0 dX4_count_124 rfl rfl ?_
        refine ex_get (v := .ref (b + 1)) fl_X4_10 S.1.ob rfl dX4_count_125 ?_
        refine ex_get (v := .int (-6)) fl_X4_89 S.1.nob rfl dX4_count_128 ?_
        refine ex_bipush (v := (-6)) dX4_count_131 (by decide) ?_
        refine ex_icmp_ne (tgt := 146) dX4_count_133 (by decide) (fun c_133 => absurd (rfl) c_133) (fun c_133 => ?_)
        refine ex_aload_n 0 dX4_count_136 rfl rfl ?_
        refine ex_get (v := .ref (b + 1)) fl_X4_10 S.1.ob rfl dX4_count_137 ?_
        refine ex_get (v := .int (nI t)) fl_X4_150 S.1.nob rfl dX4_count_140 ?_
        refine ex_goto (tgt := 148) dX4_count_143 (by decide) ?_
        exact ex_iret hQ rfl (by unfold X_count; rw [if_pos (inR_nI hx (by decide)), ixn (by decide)]; exact ⟨rfl, rfl, S⟩) dX4_count_148
      · have hi : i < n := gw i rfl
        refine ex_iload_n 1 dX4_count_0 rfl rfl ?_
        refine ex_callS0 (As := [.int (nI 10)]) (v := .int (nI 0)) vl_X4_37 (c_isSettingF (by decide)) rfl (by decide) (Nat.le_of_ble_eq_true rfl) (Nat.le_refl _) (Nat.le_refl _) rfl dX4_count_1 ?_
        refine ex_if_eq (tgt := 17) dX4_count_4 (by decide) (fun c_4 => ?_) (fun c_4 => absurd (by decide) c_4)
        refine ex_iload_n 1 dX4_count_17 rfl rfl ?_
        refine ex_tableIn (off := 106) (tgt := 124) dX4_count_18 (by decide) (by decide) (by decide) (by decide) ?_
        refine ex_aload_n 0 dX4_count_124 rfl rfl ?_
        refine ex_get (v := .ref (b + 1)) fl_X4_10 S.1.ob rfl dX4_count_125 ?_
        refine ex_get (v := .int (nI i)) fl_X4_89 S.1.nob rfl dX4_count_128 ?_
        refine ex_bipush (v := (-6)) dX4_count_131 (by decide) ?_
        refine ex_icmp_ne (tgt := 146) dX4_count_133 (by decide) (fun c_133 => ?_) (fun c_133 => absurd c_133 (nI_n6 (by omega)))
        refine ex_bipush (v := (-6)) dX4_count_146 (by decide) ?_
        exact ex_iret hQ rfl (by unfold X_count; rw [if_pos (inR_nI hx (by decide)), ixn (by decide)]; exact ⟨rfl, rfl, S⟩) dX4_count_148
    · refine ex_iload_n 1 dX4_count_0 rfl rfl ?_
      refine ex_callS0 (As := [.int (nI 11)]) (v := .int (nI 0)) vl_X4_37 (c_isSettingF (by decide)) rfl (by decide) (Nat.le_of_ble_eq_true rfl) (Nat.le_refl _) (Nat.le_refl _) rfl dX4_count_1 ?_
      refine ex_if_eq (tgt := 17) dX4_count_4 (by decide) (fun c_4 => ?_) (fun c_4 => absurd (by decide) c_4)
      refine ex_iload_n 1 dX4_count_17 rfl rfl ?_
      refine ex_tableIn (off := 131) (tgt := 149) dX4_count_18 (by decide) (by decide) (by decide) (by decide) ?_
      refine ex_aload_n 0 dX4_count_149 rfl rfl ?_
      refine ex_get (v := .ref (b + 1)) fl_X4_10 S.1.ob rfl dX4_count_150 ?_
      refine ex_get (v := .int (u 11)) fl_X4_105 S.1.nob rfl dX4_count_153 ?_
      exact ex_iret hQ rfl (by unfold X_count; rw [if_pos (inR_nI hx (by decide)), ixn (by decide)]; exact ⟨rfl, rfl, S⟩) dX4_count_156
    · refine ex_iload_n 1 dX4_count_0 rfl rfl ?_
      refine ex_callS0 (As := [.int (nI 12)]) (v := .int (nI 0)) vl_X4_37 (c_isSettingF (by decide)) rfl (by decide) (Nat.le_of_ble_eq_true rfl) (Nat.le_refl _) (Nat.le_refl _) rfl dX4_count_1 ?_
      refine ex_if_eq (tgt := 17) dX4_count_4 (by decide) (fun c_4 => ?_) (fun c_4 => absurd (by decide) c_4)
      refine ex_iload_n 1 dX4_count_17 rfl rfl ?_
      refine ex_tableIn (off := 139) (tgt := 157) dX4_count_18 (by decide) (by decide) (by decide) (by decide) ?_
      refine ex_aload_n 0 dX4_count_157 rfl rfl ?_
      refine ex_get (v := .ref (b + 1)) fl_X4_10 S.1.ob rfl dX4_count_158 ?_
      refine ex_call0 (As := []) (v := .int (sumB u q n)) (ci := 3) vl_X4_153 rfl (c_barredPeople hN n8) hN.ob rfl (by decide) (Nat.le_of_ble_eq_true rfl) (Nat.le_refl _) (Nat.le_refl _) rfl dX4_count_161 ?_
      exact ex_iret hQ rfl (by unfold X_count; rw [if_pos (inR_nI hx (by decide)), ixn (by decide)]; exact ⟨rfl, rfl, S⟩) dX4_count_164
    · refine ex_iload_n 1 dX4_count_0 rfl rfl ?_
      refine ex_callS0 (As := [.int (nI 13)]) (v := .int (nI 0)) vl_X4_37 (c_isSettingF (by decide)) rfl (by decide) (Nat.le_of_ble_eq_true rfl) (Nat.le_refl _) (Nat.le_refl _) rfl dX4_count_1 ?_
      refine ex_if_eq (tgt := 17) dX4_count_4 (by decide) (fun c_4 => ?_) (fun c_4 => absurd (by decide) c_4)
      refine ex_iload_n 1 dX4_count_17 rfl rfl ?_
      refine ex_tableIn (off := 147) (tgt := 165) dX4_count_18 (by decide) (by decide) (by decide) (by decide) ?_
      refine ex_aload_n 0 dX4_count_165 rfl rfl ?_
      refine ex_get (v := .ref (b + 1)) fl_X4_10 S.1.ob rfl dX4_count_166 ?_
      refine ex_get (v := .int (u 12)) fl_X4_156 S.1.nob rfl dX4_count_169 ?_
      exact ex_iret hQ rfl (by unfold X_count; rw [if_pos (inR_nI hx (by decide)), ixn (by decide)]; exact ⟨rfl, rfl, S⟩) dX4_count_172
    · refine ex_iload_n 1 dX4_count_0 rfl rfl ?_
      refine ex_callS0 (As := [.int (nI 14)]) (v := .int (nI 0)) vl_X4_37 (c_isSettingF (by decide)) rfl (by decide) (Nat.le_of_ble_eq_true rfl) (Nat.le_refl _) (Nat.le_refl _) rfl dX4_count_1 ?_
      refine ex_if_eq (tgt := 17) dX4_count_4 (by decide) (fun c_4 => ?_) (fun c_4 => absurd (by decide) c_4)
      refine ex_iload_n 1 dX4_count_17 rfl rfl ?_
      refine ex_tableIn (off := 155) (tgt := 173) dX4_count_18 (by decide) (by decide) (by decide) (by decide) ?_
      refine ex_aload_n 0 dX4_count_173 rfl rfl ?_
      refine ex_get (v := .ref (b + 1)) fl_X4_10 S.1.ob rfl dX4_count_174 ?_
      refine ex_get (v := .int (u 13)) fl_X4_115 S.1.nob rfl dX4_count_177 ?_
      exact ex_iret hQ rfl (by unfold X_count; rw [if_pos (inR_nI hx (by decide)), ixn (by decide)]; exact ⟨rfl, rfl, S⟩) dX4_count_180
    · refine ex_iload_n 1 dX4_count_0 rfl rfl ?_
      refine ex_callS0 (As := [.int (nI 15)]) (v := .int (nI 0)) vl_X4_37 (c_isSettingF (by decide)) rfl (by decide) (Nat.le_of_ble_eq_true rfl) (Nat.le_refl _) (Nat.le_refl _) rfl dX4_count_1 ?_
      refine ex_if_eq (tgt := 17) dX4_count_4 (by decide) (fun c_4 => ?_) (fun c_4 => absurd (by decide) c_4)
      refine ex_iload_n 1 dX4_count_17 rfl rfl ?_
      refine ex_tableIn (off := 163) (tgt := 181) dX4_count_18 (by decide) (by decide) (by decide) (by decide) ?_
      refine ex_aload_n 0 dX4_count_181 rfl rfl ?_
      refine ex_get (v := .ref (b + 1)) fl_X4_10 S.1.ob rfl dX4_count_182 ?_
      refine ex_get (v := .int (u 14)) fl_X4_157 S.1.nob rfl dX4_count_185 ?_
      exact ex_iret hQ rfl (by unfold X_count; rw [if_pos (inR_nI hx (by decide)), ixn (by decide)]; exact ⟨rfl, rfl, S⟩) dX4_count_188
    · refine ex_iload_n 1 dX4_count_0 rfl rfl ?_
      refine ex_callS0 (As := [.int (nI 16)]) (v := .int (nI 0)) vl_X4_37 (c_isSettingF (by decide)) rfl (by decide) (Nat.le_of_ble_eq_true rfl) (Nat.le_refl _) (Nat.le_refl _) rfl dX4_count_1 ?_
      refine ex_if_eq (tgt := 17) dX4_count_4 (by decide) (fun c_4 => ?_) (fun c_4 => absurd (by decide) c_4)
      refine ex_iload_n 1 dX4_count_17 rfl rfl ?_
      refine ex_tableIn (off := 171) (tgt := 189) dX4_count_18 (by decide) (by decide) (by decide) (by decide) ?_
      refine ex_aload_n 0 dX4_count_189 rfl rfl ?_
      refine ex_get (v := .ref (b + 1)) fl_X4_10 S.1.ob rfl dX4_count_190 ?_
      refine ex_get (v := .int (u 15)) fl_X4_160 S.1.nob rfl dX4_count_193 ?_
      exact ex_iret hQ rfl (by unfold X_count; rw [if_pos (inR_nI hx (by decide)), ixn (by decide)]; exact ⟨rfl, rfl, S⟩) dX4_count_196
    · refine ex_iload_n 1 dX4_count_0 rfl rfl ?_
      refine ex_callS0 (As := [.int (nI 17)]) (v := .int (nI 0)) vl_X4_37 (c_isSettingF (by decide)) rfl (by decide) (Nat.le_of_ble_eq_true rfl) (Nat.le_refl _) (Nat.le_refl _) rfl dX4_count_1 ?_
      refine ex_if_eq (tgt := 17) dX4_count_4 (by decide) (fun c_4 => ?_) (fun c_4 => absurd (by decide) c_4)
      refine ex_iload_n 1 dX4_count_17 rfl rfl ?_
      refine ex_tableIn (off := 179) (tgt := 197) dX4_count_18 (by decide) (by decide) (by decide) (by decide) ?_
      refine ex_aload_n 0 dX4_count_197 rfl rfl ?_
      refine ex_get (v := .ref (b + 1)) fl_X4_10 S.1.ob rfl dX4_count_198 ?_
      refine ex_call0 (As := []) (v := .int (sumP q n)) (ci := 3) vl_X4_163 rfl (c_allPurses hN n8) hN.ob rfl (by decide) (Nat.le_of_ble_eq_true rfl) (Nat.le_refl _) (Nat.le_refl _) rfl dX4_count_201 ?_
      exact ex_iret hQ rfl (by unfold X_count; rw [if_pos (inR_nI hx (by decide)), ixn (by decide)]; exact ⟨rfl, rfl, S⟩) dX4_count_204
    · refine ex_iload_n 1 dX4_count_0 rfl rfl ?_
      refine ex_callS0 (As := [.int (nI 18)]) (v := .int (nI 0)) vl_X4_37 (c_isSettingF (by decide)) rfl (by decide) (Nat.le_of_ble_eq_true rfl) (Nat.le_refl _) (Nat.le_refl _) rfl dX4_count_1 ?_
      refine ex_if_eq (tgt := 17) dX4_count_4 (by decide) (fun c_4 => ?_) (fun c_4 => absurd (by decide) c_4)
      refine ex_iload_n 1 dX4_count_17 rfl rfl ?_
      refine ex_tableIn (off := 187) (tgt := 205) dX4_count_18 (by decide) (by decide) (by decide) (by decide) ?_
      refine ex_aload_n 0 dX4_count_205 rfl rfl ?_
      refine ex_get (v := .ref (b + 1)) fl_X4_10 S.1.ob rfl dX4_count_206 ?_
      refine ex_get (v := .int (u 16)) fl_X4_109 S.1.nob rfl dX4_count_209 ?_
      exact ex_iret hQ rfl (by unfold X_count; rw [if_pos (inR_nI hx (by decide)), ixn (by decide)]; exact ⟨rfl, rfl, S⟩) dX4_count_212
    · refine ex_iload_n 1 dX4_count_0 rfl rfl ?_
      refine ex_callS0 (As := [.int (nI 19)]) (v := .int (nI 0)) vl_X4_37 (c_isSettingF (by decide)) rfl (by decide) (Nat.le_of_ble_eq_true rfl) (Nat.le_refl _) (Nat.le_refl _) rfl dX4_count_1 ?_
      refine ex_if_eq (tgt := 17) dX4_count_4 (by decide) (fun c_4 => ?_) (fun c_4 => absurd (by decide) c_4)
      refine ex_iload_n 1 dX4_count_17 rfl rfl ?_
      refine ex_tableIn (off := 195) (tgt := 213) dX4_count_18 (by decide) (by decide) (by decide) (by decide) ?_
      refine ex_aload_n 0 dX4_count_213 rfl rfl ?_
      refine ex_get (v := .ref (b + 92)) fl_X4_33 S.1.ob rfl dX4_count_214 ?_
      refine ex_get (v := .int (nI len)) fl_X4_73 S.1.pob rfl dX4_count_217 ?_
      exact ex_iret hQ rfl (by unfold X_count; rw [if_pos (inR_nI hx (by decide)), ixn (by decide)]; exact ⟨rfl, rfl, S⟩) dX4_count_220
    · refine ex_iload_n 1 dX4_count_0 rfl rfl ?_
      refine ex_callS0 (As := [.int (nI 20)]) (v := .int (nI 0)) vl_X4_37 (c_isSettingF (by decide)) rfl (by decide) (Nat.le_of_ble_eq_true rfl) (Nat.le_refl _) (Nat.le_refl _) rfl dX4_count_1 ?_
      refine ex_if_eq (tgt := 17) dX4_count_4 (by decide) (fun c_4 => ?_) (fun c_4 => absurd (by decide) c_4)
      refine ex_iload_n 1 dX4_count_17 rfl rfl ?_
      refine ex_tableIn (off := 203) (tgt := 221) dX4_count_18 (by decide) (by decide) (by decide) (by decide) ?_
      refine ex_aload_n 0 dX4_count_221 rfl rfl ?_
      refine ex_get (v := .ref (b + 23)) fl_X4_22 S.1.ob rfl dX4_count_222 ?_
      refine ex_get (v := .int (nI k)) fl_X4_166 S.1.hob rfl dX4_count_225 ?_
      exact ex_iret hQ rfl (by unfold X_count; rw [if_pos (inR_nI hx (by decide)), ixn (by decide)]; exact ⟨rfl, rfl, S⟩) dX4_count_228
  · have h6 : ¬ inR x 6 := fun q9 => hx ⟨q9.1, Int32.lt_of_lt_of_le q9.2 (by decide)⟩
    refine ex_iload_n 1 dX4_count_0 rfl rfl ?_
    refine ex_callS0 (As := [.int x]) (v := .int (nI 0)) vl_X4_37 (c_isSettingF h6) rfl (by decide) (Nat.le_of_ble_eq_true rfl) (Nat.le_refl _) (Nat.le_refl _) rfl dX4_count_1 ?_
    refine ex_if_eq (tgt := 17) dX4_count_4 (by decide) (fun c_4 => ?_) (fun c_4 => absurd (by decide) c_4)
    refine ex_iload_n 1 dX4_count_17 rfl rfl ?_
    refine ex_tableOut (tgt := 229) dX4_count_18 ((tabc hx (by decide)).imp (fun q9 => by have : ((0 : Nat) : Int) = 0 := rfl; omega) (fun q9 => q9)) (by decide) ?_
    refine ex_bipush (v := (-2)) dX4_count_229 (by decide) ?_
    exact ex_iret hQ rfl (by unfold X_count; rw [if_neg hx]; exact ⟨rfl, rfl, S⟩) dX4_count_231

set_option maxRecDepth 20000 in
set_option maxHeartbeats 2000000 in
theorem c_next {G : GG} {l : Launch} {h0 : HP} {z b : Nat} {n : Nat} {g : Option Nat} {t : Nat} {u : Nat → Int32} {q : Nat → Nat → Int32} {k len : Nat} {L : Nat → AS} {V : Nat → Option AS} {c : Nat → Nat} (S0 : PP G h0 z b ((n, g, t, u, q), k, L, V, len, c)) (wf : wfA (n, g, t, u, q)) (m3 : 0 < u 3) {x : Int32} : Ct G l 4 0 0 yX4_next cX4_next 4 (some .int) [.ref b, .int x] h0 z (pX G (X_next ((n, g, t, u, q), k, L, V, len, c) x, ((n, g, t, u, q), k, L, V, len, c)) h0 z b) := by
  refine Ct.intro (lv := [(0, .ref b), (1, .int x)]) (by decide +kernel) (Nat.le_of_ble_eq_true rfl) rfl (fun X Q hQ hnm => ?_)
  have S := S0.xf
  have n8 : n ≤ 8 := wf.1
  by_cases hx : x = 0 ∨ x = nI 1
  · have TL : ex G l X Q 4 0 0 0 0 cX4_next yX4_next.cls 4 (some .int) h0 z 12 [(0, .ref b), (1, .int x)] [] := by
      refine ex_aload_n 0 dX4_next_12 rfl rfl ?_
      refine ex_get (v := .ref (b + 12)) fl_X4_16 S.1.ob rfl dX4_next_13 ?_
      refine ex_aload_n 0 dX4_next_16 rfl rfl ?_
      refine ex_get (v := .ref (b + 1)) fl_X4_10 S.1.ob rfl dX4_next_17 ?_
      refine exX_copyT vl_X4_167 S n8 (by decide) (Nat.le_of_ble_eq_true rfl) (Nat.le_refl _) (Nat.le_refl _) rfl dX4_next_20 (fun h π S T => ?_)
      refine ex_iconst (v := nI 1) dX4_next_23 (by decide) ?_
      refine ex_istore_n (lv' := [(2, .int (nI 1)), (0, .ref b), (1, .int x)]) dX4_next_24 rfl (by decide) rfl ?_
      suffices H : ∀ (k2 d : Nat) (h : HP), d + k2 = 500 → XF G h0 h z b ((n, g, t, u, q), k, L, V, len, c) → SP G h (b + 12) π (itA d (n, g, t, u, q)) → nxG (n, g, t, u, q) x k2 d = nxG (n, g, t, u, q) x 500 0 → ex G l X Q 4 0 0 0 0 cX4_next yX4_next.cls 4 (some .int) h z 25 [(2, .int (nI (d + 1))), (1, .int x), (0, .ref b)] [] from by
        have e2 := H 500 0 h (by omega) S T rfl
        refine ex_lv (lv2 := [(2, .int (nI 1)), (1, .int x), (0, .ref b)]) [0, 2, 1] rfl ?_
        exact e2
      intro k2
      induction k2 with
      | zero =>
        intro d h hd S T hh
        refine ex_iload_n 0 dX4_next_25 rfl rfl ?_
        refine ex_sipush (v := nI 500) dX4_next_26 (by decide) ?_
        refine ex_icmp_gt (tgt := 62) dX4_next_29 (by decide) (fun c_29 => ?_) (fun c_29 => absurd ((nI_ltI (by omega) (by omega)).mpr (by omega)) c_29)
        refine ex_bipush (v := (-6)) dX4_next_62 (by decide) ?_
        exact ex_iret hQ rfl (by unfold X_next; rw [if_pos hx]; exact ⟨congrArg (fun x => some (Value.int x)) hh, rfl, S⟩) dX4_next_64
      | succ k2 ih =>
        intro d h hd S T hh
        rw [nxG] at hh
        refine ex_iload_n 0 dX4_next_25 rfl rfl ?_
        refine ex_sipush (v := nI 500) dX4_next_26 (by decide) ?_
        refine ex_icmp_gt (tgt := 62) dX4_next_29 (by decide) (fun c_29 => absurd c_29 (fun q9 => absurd ((nI_ltI (by omega) (by omega)).mp q9) (by omega))) (fun c_29 => ?_)
        refine ex_aload_n 2 dX4_next_32 rfl rfl ?_
        refine ex_get (v := .ref (b + 12)) fl_X4_16 S.1.ob rfl dX4_next_33 ?_
        refine exX_trial (As := []) (r0 := (some (.int (gv (dayR (itA d (n, g, t, u, q))))))) (π1 := π) (B := itA (d + 1) (n, g, t, u, q)) vl_X4_170 rfl S T (c_liveDay T (itA_wf wf d) (by rw [itA_u (by decide)]; exact m3)) rfl (by decide) (Nat.le_of_ble_eq_true rfl) (Nat.le_refl _) (Nat.le_refl _) rfl dX4_next_36 (fun h S T => ?_)
        rcases hr : dayR (itA d (n, g, t, u, q)) with _ | j
        · rw [hr] at hh
          refine ex_istore_n (lv' := [(3, .int (-6)), (2, .int (nI (d + 1))), (1, .int x), (0, .ref b)]) dX4_next_39 rfl (by decide) rfl ?_
          refine ex_iload_n 0 dX4_next_40 rfl rfl ?_
          refine ex_bipush (v := (-6)) dX4_next_41 (by decide) ?_
          refine ex_icmp_eq (tgt := 56) dX4_next_43 (by decide) (fun c_43 => ?_) (fun c_43 => absurd (rfl) c_43)
          refine ex_iinc (v := nI (d + 1 + 1)) (lv' := [(2, .int (nI (d + 1 + 1))), (3, .int (-6)), (1, .int x), (0, .ref b)]) 1 dX4_next_56 rfl (nI_1 (d + 1)) (by decide) rfl ?_
          refine ex_goto (tgt := 25) dX4_next_59 (by decide) ?_
          have e2 := ih (d + 1) h (by omega) S T hh
          refine ex_lv (lv2 := [(2, .int (nI (d + 1 + 1))), (1, .int x), (0, .ref b)]) [0, 2, 3] rfl ?_
          exact e2
        · rw [hr] at hh
          have hj : j < n := by have := dayR_lt (itA_wf wf d) hr; rw [itA_1] at this; exact this
          refine ex_istore_n (lv' := [(3, .int (nI j)), (2, .int (nI (d + 1))), (1, .int x), (0, .ref b)]) dX4_next_39 rfl (by decide) rfl ?_
          refine ex_iload_n 0 dX4_next_40 rfl rfl ?_
          refine ex_bipush (v := (-6)) dX4_next_41 (by decide) ?_
          refine ex_icmp_eq (tgt := 56) dX4_next_43 (by decide) (fun c_43 => absurd c_43 (nI_n6 (by omega))) (fun c_43 => ?_)
          refine ex_iload_n 2 dX4_next_46 rfl rfl ?_
          refine ex_if_ne (tgt := 54) dX4_next_47 (by decide) (fun c_47 => ?_) (fun c_47 => ?_)
          · refine ex_iload_n 1 dX4_next_54 rfl rfl ?_
            exact ex_iret hQ rfl (by unfold X_next; rw [if_pos hx, ← hh]; dsimp only; first | (rw [if_pos c_47]; exact ⟨rfl, rfl, S⟩) | (rw [if_neg c_47]; exact ⟨rfl, rfl, S⟩)) dX4_next_55
          · refine ex_iload_n 0 dX4_next_50 rfl rfl ?_
            refine ex_goto (tgt := 55) dX4_next_51 (by decide) ?_
            exact ex_iret hQ rfl (by unfold X_next; rw [if_pos hx, ← hh]; dsimp only; first | (rw [if_pos c_47]; exact ⟨rfl, rfl, S⟩) | (rw [if_neg c_47]; exact ⟨rfl, rfl, S⟩)) dX4_next_55
    refine ex_iload_n 1 dX4_next_0 rfl rfl ?_
    refine ex_if_eq (tgt := 12) dX4_next_1 (by decide) (fun c_1 => ?_) (fun c_1 => ?_)
    · exact TL
    · refine ex_iload_n 1 dX4_next_4 rfl rfl ?_
      refine ex_iconst (v := nI 1) dX4_next_5 (by decide) ?_
      refine ex_icmp_eq (tgt := 12) dX4_next_6 (by decide) (fun c_6 => ?_) (fun c_6 => ?_)
      · exact TL
      · exact absurd hx (fun q9 => q9.elim c_1 c_6)
  · refine ex_iload_n 1 dX4_next_0 rfl rfl ?_
    refine ex_if_eq (tgt := 12) dX4_next_1 (by decide) (fun c_1 => ?_) (fun c_1 => ?_)
    · exact absurd (by first | exact Or.inl c_1 | exact Or.inr c_6) hx
    · refine ex_iload_n 1 dX4_next_4 rfl rfl ?_
      refine ex_iconst (v := nI 1) dX4_next_5 (by decide) ?_
      refine ex_icmp_eq (tgt := 12) dX4_next_6 (by decide) (fun c_6 => ?_) (fun c_6 => ?_)
      · exact absurd (by first | exact Or.inl c_1 | exact Or.inr c_6) hx
      · refine ex_bipush (v := (-2)) dX4_next_9 (by decide) ?_
        exact ex_iret hQ rfl (by unfold X_next; rw [if_neg hx]; exact ⟨rfl, rfl, S⟩) dX4_next_11

set_option maxRecDepth 20000 in
set_option maxHeartbeats 2000000 in
theorem c_untilEmpty {G : GG} {l : Launch} {h0 : HP} {z b : Nat} {n : Nat} {g : Option Nat} {t : Nat} {u : Nat → Int32} {q : Nat → Nat → Int32} {k len : Nat} {L : Nat → AS} {V : Nat → Option AS} {c : Nat → Nat} (S0 : PP G h0 z b ((n, g, t, u, q), k, L, V, len, c)) (wf : wfA (n, g, t, u, q)) (m3 : 0 < u 3) : Ct G l 4 0 0 yX4_untilEmpty cX4_untilEmpty 2 (some .int) [.ref b] h0 z (pX G (X_untilEmpty ((n, g, t, u, q), k, L, V, len, c), ((n, g, t, u, q), k, L, V, len, c)) h0 z b) := by
  refine Ct.intro (lv := [(0, .ref b)]) (by decide +kernel) (Nat.le_of_ble_eq_true rfl) rfl (fun X Q hQ hnm => ?_)
  have S := S0.xf
  have n8 : n ≤ 8 := wf.1
  refine ex_aload_n 0 dX4_untilEmpty_0 rfl rfl ?_
  refine ex_get (v := .ref (b + 12)) fl_X4_16 S.1.ob rfl dX4_untilEmpty_1 ?_
  refine ex_aload_n 0 dX4_untilEmpty_4 rfl rfl ?_
  refine ex_get (v := .ref (b + 1)) fl_X4_10 S.1.ob rfl dX4_untilEmpty_5 ?_
  refine exX_copyT vl_X4_167 S n8 (by decide) (Nat.le_of_ble_eq_true rfl) (Nat.le_refl _) (Nat.le_refl _) rfl dX4_untilEmpty_8 (fun h π S T => ?_)
  refine ex_iconst (v := nI 0) dX4_untilEmpty_11 (by decide) ?_
  refine ex_istore_n (lv' := [(1, .int (nI 0)), (0, .ref b)]) dX4_untilEmpty_12 rfl (by decide) rfl ?_
  suffices H : ∀ (k2 d : Nat) (h : HP), d + k2 = 2001 → XF G h0 h z b ((n, g, t, u, q), k, L, V, len, c) → SP G h (b + 12) π (itA d (n, g, t, u, q)) → ueG (n, g, t, u, q) k2 d = ueG (n, g, t, u, q) 2001 0 → ex G l X Q 4 0 0 0 0 cX4_untilEmpty yX4_untilEmpty.cls 2 (some .int) h z 13 [(1, .int (nI d)), (0, .ref b)] [] from by
    have e2 := H 2001 0 h (by omega) S T rfl
    refine ex_lv (lv2 := [(1, .int (nI 0)), (0, .ref b)]) [0, 1] rfl ?_
    exact e2
  intro k2
  induction k2 with
  | zero =>
    intro d h hd S T hh
    refine ex_iload_n 0 dX4_untilEmpty_13 rfl rfl ?_
    refine ex_sipush (v := nI 2000) dX4_untilEmpty_14 (by decide) ?_
    refine ex_icmp_gt (tgt := 46) dX4_untilEmpty_17 (by decide) (fun c_17 => ?_) (fun c_17 => absurd ((nI_ltI (by omega) (by omega)).mpr (by omega)) c_17)
    refine ex_bipush (v := (-6)) dX4_untilEmpty_46 (by decide) ?_
    exact ex_iret hQ rfl (by exact ⟨congrArg (fun x => some (Value.int x)) hh, rfl, S⟩) dX4_untilEmpty_48
  | succ k2 ih =>
    intro d h hd S T hh
    rw [ueG] at hh
    refine ex_iload_n 0 dX4_untilEmpty_13 rfl rfl ?_
    refine ex_sipush (v := nI 2000) dX4_untilEmpty_14 (by decide) ?_
    refine ex_icmp_gt (tgt := 46) dX4_untilEmpty_17 (by decide) (fun c_17 => absurd c_17 (fun q9 => absurd ((nI_ltI (by omega) (by omega)).mp q9) (by omega))) (fun c_17 => ?_)
    refine ex_aload_n 1 dX4_untilEmpty_20 rfl rfl ?_
    refine ex_get (v := .ref (b + 12)) fl_X4_16 S.1.ob rfl dX4_untilEmpty_21 ?_
    refine ex_get (v := .int ((itA d (n, g, t, u, q)).2.2.2.1 11)) fl_X4_105 T.ob rfl dX4_untilEmpty_24 ?_
    refine ex_if_ne (tgt := 32) dX4_untilEmpty_27 (by decide) (fun c_27 => ?_) (fun c_27 => ?_)
    · refine ex_aload_n 1 dX4_untilEmpty_32 rfl rfl ?_
      refine ex_get (v := .ref (b + 12)) fl_X4_16 S.1.ob rfl dX4_untilEmpty_33 ?_
      refine exX_trial (As := []) (r0 := (some (.int (gv (dayR (itA d (n, g, t, u, q))))))) (π1 := π) (B := itA (d + 1) (n, g, t, u, q)) vl_X4_170 rfl S T (c_liveDay T (itA_wf wf d) (by rw [itA_u (by decide)]; exact m3)) rfl (by decide) (Nat.le_of_ble_eq_true rfl) (Nat.le_refl _) (Nat.le_refl _) rfl dX4_untilEmpty_36 (fun h S T => ?_)
      refine ex_pop dX4_untilEmpty_39 rfl ?_
      refine ex_iinc (v := nI (d + 1)) (lv' := [(1, .int (nI (d + 1))), (0, .ref b)]) 0 dX4_untilEmpty_40 rfl (nI_1 d) (by decide) rfl ?_
      refine ex_goto (tgt := 13) dX4_untilEmpty_43 (by decide) ?_
      have e2 := ih (d + 1) h (by omega) S T (by rw [← hh, if_neg c_27])
      refine ex_lv (lv2 := [(1, .int (nI (d + 1))), (0, .ref b)]) [0, 1] rfl ?_
      exact e2
    · refine ex_iload_n 0 dX4_untilEmpty_30 rfl rfl ?_
      exact ex_iret hQ rfl (by rw [if_pos c_27] at hh; exact ⟨congrArg (fun x => some (Value.int x)) hh, rfl, S⟩) dX4_untilEmpty_31

set_option maxRecDepth 20000 in
set_option maxHeartbeats 2000000 in
theorem c_ifPassed {G : GG} {l : Launch} {h0 : HP} {z b : Nat} {n : Nat} {g : Option Nat} {t : Nat} {u : Nat → Int32} {q : Nat → Nat → Int32} {k len : Nat} {L : Nat → AS} {V : Nat → Option AS} {c : Nat → Nat} (S0 : PP G h0 z b ((n, g, t, u, q), k, L, V, len, c)) (wf : wfA (n, g, t, u, q)) (m3 : 0 < u 3) {v x : Int32} : Ct G l 5 0 0 yX4_ifPassed cX4_ifPassed 3 (some .int) [.ref b, .int v, .int x] h0 z (pX G (X_ifPassed ((n, g, t, u, q), k, L, V, len, c) v x, ((n, g, t, u, q), k, L, V, len, c)) h0 z b) := by
  refine Ct.intro (lv := [(0, .ref b), (1, .int v), (2, .int x)]) (by decide +kernel) (Nat.le_of_ble_eq_true rfl) rfl (fun X Q hQ hnm => ?_)
  have S := S0.xf
  have n8 : n ≤ 8 := wf.1
  refine ex_iload_n 1 dX4_ifPassed_0 rfl rfl ?_
  refine ex_iconst (v := nI 1) dX4_ifPassed_1 (by decide) ?_
  refine ex_icmp_lt (tgt := 21) dX4_ifPassed_2 (by decide) (fun c_2 => ?_) (fun c_2 => ?_)
  · refine ex_bipush (v := (-2)) dX4_ifPassed_21 (by decide) ?_
    exact ex_iret hQ rfl (by unfold X_ifPassed; rw [if_pos (by first | exact Or.inl c_2 | exact Or.inr (Or.inl c_9) | exact Or.inr (Or.inr (Or.inl c_13)) | exact Or.inr (Or.inr (Or.inr (Int32.not_le.mp c_18))))]; exact ⟨rfl, rfl, S⟩) dX4_ifPassed_23
  · refine ex_iload_n 1 dX4_ifPassed_5 rfl rfl ?_
    refine ex_sipush (v := nI 500) dX4_ifPassed_6 (by decide) ?_
    refine ex_icmp_gt (tgt := 21) dX4_ifPassed_9 (by decide) (fun c_9 => ?_) (fun c_9 => ?_)
    · refine ex_bipush (v := (-2)) dX4_ifPassed_21 (by decide) ?_
      exact ex_iret hQ rfl (by unfold X_ifPassed; rw [if_pos (by first | exact Or.inl c_2 | exact Or.inr (Or.inl c_9) | exact Or.inr (Or.inr (Or.inl c_13)) | exact Or.inr (Or.inr (Or.inr (Int32.not_le.mp c_18))))]; exact ⟨rfl, rfl, S⟩) dX4_ifPassed_23
    · refine ex_iload_n 2 dX4_ifPassed_12 rfl rfl ?_
      refine ex_if_lt (tgt := 21) dX4_ifPassed_13 (by decide) (fun c_13 => ?_) (fun c_13 => ?_)
      · refine ex_bipush (v := (-2)) dX4_ifPassed_21 (by decide) ?_
        exact ex_iret hQ rfl (by unfold X_ifPassed; rw [if_pos (by first | exact Or.inl c_2 | exact Or.inr (Or.inl c_9) | exact Or.inr (Or.inr (Or.inl c_13)) | exact Or.inr (Or.inr (Or.inr (Int32.not_le.mp c_18))))]; exact ⟨rfl, rfl, S⟩) dX4_ifPassed_23
      · refine ex_iload_n 2 dX4_ifPassed_16 rfl rfl ?_
        refine ex_iconst (v := nI 4) dX4_ifPassed_17 (by decide) ?_
        refine ex_icmp_le (tgt := 24) dX4_ifPassed_18 (by decide) (fun c_18 => ?_) (fun c_18 => ?_)
        · have hc : ¬ (v < nI 1 ∨ nI 500 < v ∨ x < 0 ∨ nI 4 < x) := fun q9 => q9.elim c_2 (fun q9 => q9.elim c_9 (fun q9 => q9.elim c_13 (fun q9 => absurd c_18 (Int32.not_le.mpr q9))))
          obtain ⟨j, j1, j2, rfl⟩ := rngI (by omega) (by omega) c_2 (Int32.not_lt.mp c_9)
          obtain ⟨m, m1, m2, rfl⟩ := rngI (a := 0) (by omega) (by omega) c_13 c_18
          rcases (show m = 0 ∨ m = 1 ∨ m = 2 ∨ m = 3 ∨ m = 4 by omega) with rfl | rfl | rfl | rfl | rfl
          · refine ex_aload_n 0 dX4_ifPassed_24 rfl rfl ?_
            refine ex_get (v := .ref (b + 12)) fl_X4_16 S.1.ob rfl dX4_ifPassed_25 ?_
            refine ex_aload_n 0 dX4_ifPassed_28 rfl rfl ?_
            refine ex_get (v := .ref (b + 1)) fl_X4_10 S.1.ob rfl dX4_ifPassed_29 ?_
            refine exX_copyT vl_X4_167 S n8 (by decide) (Nat.le_of_ble_eq_true rfl) (Nat.le_refl _) (Nat.le_refl _) rfl dX4_ifPassed_32 (fun h π S T => ?_)
            refine ex_aload_n 0 dX4_ifPassed_35 rfl rfl ?_
            refine ex_get (v := .ref (b + 12)) fl_X4_16 S.1.ob rfl dX4_ifPassed_36 ?_
            refine ex_iload_n 1 dX4_ifPassed_39 rfl rfl ?_
            refine exX_trial (As := [.int (nI j)]) (r0 := none) (π1 := π) (B := itA j (n, g, t, u, q)) vl_X4_118 rfl S T (c_liveDays T wf m3 (by omega)) rfl (by decide) (Nat.le_of_ble_eq_true rfl) (Nat.le_refl _) (Nat.le_refl _) rfl dX4_ifPassed_40 (fun h S T => ?_)
            refine ex_iload_n 2 dX4_ifPassed_43 rfl rfl ?_
            refine ex_tableIn (off := 32) (tgt := 76) dX4_ifPassed_44 (by decide) (by decide) (by decide) (by decide) ?_
            refine ex_aload_n 0 dX4_ifPassed_76 rfl rfl ?_
            refine ex_get (v := .ref (b + 12)) fl_X4_16 S.1.ob rfl dX4_ifPassed_77 ?_
            refine ex_get (v := .int ((itA j (n, g, t, u, q)).2.2.2.1 13)) fl_X4_115 T.ob rfl dX4_ifPassed_80 ?_
            refine ex_aload_n 0 dX4_ifPassed_83 rfl rfl ?_
            refine ex_get (v := .ref (b + 1)) fl_X4_10 S.1.ob rfl dX4_ifPassed_84 ?_
            refine ex_get (v := .int (u 13)) fl_X4_115 S.1.nob rfl dX4_ifPassed_87 ?_
            refine ex_isub dX4_ifPassed_90 ?_
            exact ex_iret hQ rfl (by unfold X_ifPassed; rw [if_neg hc, ixn (by omega), ixn (by decide)]; exact ⟨rfl, rfl, S⟩) dX4_ifPassed_91
          · refine ex_aload_n 0 dX4_ifPassed_24 rfl rfl ?_
            refine ex_get (v := .ref (b + 12)) fl_X4_16 S.1.ob rfl dX4_ifPassed_25 ?_
            refine ex_aload_n 0 dX4_ifPassed_28 rfl rfl ?_
            refine ex_get (v := .ref (b + 1)) fl_X4_10 S.1.ob rfl dX4_ifPassed_29 ?_
            refine exX_copyT vl_X4_167 S n8 (by decide) (Nat.le_of_ble_eq_true rfl) (Nat.le_refl _) (Nat.le_refl _) rfl dX4_ifPassed_32 (fun h π S T => ?_)
            refine ex_aload_n 0 dX4_ifPassed_35 rfl rfl ?_
            refine ex_get (v := .ref (b + 12)) fl_X4_16 S.1.ob rfl dX4_ifPassed_36 ?_
            refine ex_iload_n 1 dX4_ifPassed_39 rfl rfl ?_
            refine exX_trial (As := [.int (nI j)]) (r0 := none) (π1 := π) (B := itA j (n, g, t, u, q)) vl_X4_118 rfl S T (c_liveDays T wf m3 (by omega)) rfl (by decide) (Nat.le_of_ble_eq_true rfl) (Nat.le_refl _) (Nat.le_refl _) rfl dX4_ifPassed_40 (fun h S T => ?_)
            refine ex_iload_n 2 dX4_ifPassed_43 rfl rfl ?_
            refine ex_tableIn (off := 48) (tgt := 92) dX4_ifPassed_44 (by decide) (by decide) (by decide) (by decide) ?_
            refine ex_aload_n 0 dX4_ifPassed_92 rfl rfl ?_
            refine ex_get (v := .ref (b + 12)) fl_X4_16 S.1.ob rfl dX4_ifPassed_93 ?_
            refine ex_get (v := .int ((itA j (n, g, t, u, q)).2.2.2.1 12)) fl_X4_156 T.ob rfl dX4_ifPassed_96 ?_
            refine ex_aload_n 0 dX4_ifPassed_99 rfl rfl ?_
            refine ex_get (v := .ref (b + 1)) fl_X4_10 S.1.ob rfl dX4_ifPassed_100 ?_
            refine ex_get (v := .int (u 12)) fl_X4_156 S.1.nob rfl dX4_ifPassed_103 ?_
            refine ex_isub dX4_ifPassed_106 ?_
            exact ex_iret hQ rfl (by unfold X_ifPassed; rw [if_neg hc, ixn (by omega), ixn (by decide)]; exact ⟨rfl, rfl, S⟩) dX4_ifPassed_107
          · refine ex_aload_n 0 dX4_ifPassed_24 rfl rfl ?_
            refine ex_get (v := .ref (b + 12)) fl_X4_16 S.1.ob rfl dX4_ifPassed_25 ?_
            refine ex_aload_n 0 dX4_ifPassed_28 rfl rfl ?_
            refine ex_get (v := .ref (b + 1)) fl_X4_10 S.1.ob rfl dX4_ifPassed_29 ?_
            refine exX_copyT vl_X4_167 S n8 (by decide) (Nat.le_of_ble_eq_true rfl) (Nat.le_refl _) (Nat.le_refl _) rfl dX4_ifPassed_32 (fun h π S T => ?_)
            refine ex_aload_n 0 dX4_ifPassed_35 rfl rfl ?_
            refine ex_get (v := .ref (b + 12)) fl_X4_16 S.1.ob rfl dX4_ifPassed_36 ?_
            refine ex_iload_n 1 dX4_ifPassed_39 rfl rfl ?_
            refine exX_trial (As := [.int (nI j)]) (r0 := none) (π1 := π) (B := itA j (n, g, t, u, q)) vl_X4_118 rfl S T (c_liveDays T wf m3 (by omega)) rfl (by decide) (Nat.le_of_ble_eq_true rfl) (Nat.le_refl _) (Nat.le_refl _) rfl dX4_ifPassed_40 (fun h S T => ?_)
            refine ex_iload_n 2 dX4_ifPassed_43 rfl rfl ?_
            refine ex_tableIn (off := 64) (tgt := 108) dX4_ifPassed_44 (by decide) (by decide) (by decide) (by decide) ?_
            refine ex_aload_n 0 dX4_ifPassed_108 rfl rfl ?_
            refine ex_get (v := .ref (b + 12)) fl_X4_16 S.1.ob rfl dX4_ifPassed_109 ?_
            refine ex_get (v := .int ((itA j (n, g, t, u, q)).2.2.2.1 15)) fl_X4_160 T.ob rfl dX4_ifPassed_112 ?_
            refine ex_aload_n 0 dX4_ifPassed_115 rfl rfl ?_
            refine ex_get (v := .ref (b + 1)) fl_X4_10 S.1.ob rfl dX4_ifPassed_116 ?_
            refine ex_get (v := .int (u 15)) fl_X4_160 S.1.nob rfl dX4_ifPassed_119 ?_
            refine ex_isub dX4_ifPassed_122 ?_
            exact ex_iret hQ rfl (by unfold X_ifPassed; rw [if_neg hc, ixn (by omega), ixn (by decide)]; exact ⟨rfl, rfl, S⟩) dX4_ifPassed_123
          · refine ex_aload_n 0 dX4_ifPassed_24 rfl rfl ?_
            refine ex_get (v := .ref (b + 12)) fl_X4_16 S.1.ob rfl dX4_ifPassed_25 ?_
            refine ex_aload_n 0 dX4_ifPassed_28 rfl rfl ?_
            refine ex_get (v := .ref (b + 1)) fl_X4_10 S.1.ob rfl dX4_ifPassed_29 ?_
            refine exX_copyT vl_X4_167 S n8 (by decide) (Nat.le_of_ble_eq_true rfl) (Nat.le_refl _) (Nat.le_refl _) rfl dX4_ifPassed_32 (fun h π S T => ?_)
            refine ex_aload_n 0 dX4_ifPassed_35 rfl rfl ?_
            refine ex_get (v := .ref (b + 12)) fl_X4_16 S.1.ob rfl dX4_ifPassed_36 ?_
            refine ex_iload_n 1 dX4_ifPassed_39 rfl rfl ?_
            refine exX_trial (As := [.int (nI j)]) (r0 := none) (π1 := π) (B := itA j (n, g, t, u, q)) vl_X4_118 rfl S T (c_liveDays T wf m3 (by omega)) rfl (by decide) (Nat.le_of_ble_eq_true rfl) (Nat.le_refl _) (Nat.le_refl _) rfl dX4_ifPassed_40 (fun h S T => ?_)
            refine ex_iload_n 2 dX4_ifPassed_43 rfl rfl ?_
            refine ex_tableIn (off := 80) (tgt := 124) dX4_ifPassed_44 (by decide) (by decide) (by decide) (by decide) ?_
            refine ex_aload_n 0 dX4_ifPassed_124 rfl rfl ?_
            refine ex_get (v := .ref (b + 12)) fl_X4_16 S.1.ob rfl dX4_ifPassed_125 ?_
            refine ex_get (v := .int ((itA j (n, g, t, u, q)).2.2.2.1 8)) fl_X4_147 T.ob rfl dX4_ifPassed_128 ?_
            exact ex_iret hQ rfl (by unfold X_ifPassed; rw [if_neg hc, ixn (by omega), ixn (by decide)]; exact ⟨rfl, rfl, S⟩) dX4_ifPassed_131
          · refine ex_aload_n 0 dX4_ifPassed_24 rfl rfl ?_
            refine ex_get (v := .ref (b + 12)) fl_X4_16 S.1.ob rfl dX4_ifPassed_25 ?_
            refine ex_aload_n 0 dX4_ifPassed_28 rfl rfl ?_
            refine ex_get (v := .ref (b + 1)) fl_X4_10 S.1.ob rfl dX4_ifPassed_29 ?_
            refine exX_copyT vl_X4_167 S n8 (by decide) (Nat.le_of_ble_eq_true rfl) (Nat.le_refl _) (Nat.le_refl _) rfl dX4_ifPassed_32 (fun h π S T => ?_)
            refine ex_aload_n 0 dX4_ifPassed_35 rfl rfl ?_
            refine ex_get (v := .ref (b + 12)) fl_X4_16 S.1.ob rfl dX4_ifPassed_36 ?_
            refine ex_iload_n 1 dX4_ifPassed_39 rfl rfl ?_
            refine exX_trial (As := [.int (nI j)]) (r0 := none) (π1 := π) (B := itA j (n, g, t, u, q)) vl_X4_118 rfl S T (c_liveDays T wf m3 (by omega)) rfl (by decide) (Nat.le_of_ble_eq_true rfl) (Nat.le_refl _) (Nat.le_refl _) rfl dX4_ifPassed_40 (fun h S T => ?_)
            refine ex_iload_n 2 dX4_ifPassed_43 rfl rfl ?_
            refine ex_tableOut (tgt := 132) dX4_ifPassed_44 (by decide) (by decide) ?_
            refine ex_aload_n 0 dX4_ifPassed_132 rfl rfl ?_
            refine ex_get (v := .ref (b + 12)) fl_X4_16 S.1.ob rfl dX4_ifPassed_133 ?_
            refine ex_get (v := .int (gv (itA j (n, g, t, u, q)).2.1)) fl_X4_89 T.ob rfl dX4_ifPassed_136 ?_
            exact ex_iret hQ rfl (by unfold X_ifPassed; rw [if_neg hc, ixn (by omega), ixn (by decide)]; exact ⟨rfl, rfl, S⟩) dX4_ifPassed_139
        · refine ex_bipush (v := (-2)) dX4_ifPassed_21 (by decide) ?_
          exact ex_iret hQ rfl (by unfold X_ifPassed; rw [if_pos (by first | exact Or.inl c_2 | exact Or.inr (Or.inl c_9) | exact Or.inr (Or.inr (Or.inl c_13)) | exact Or.inr (Or.inr (Or.inr (Int32.not_le.mp c_18))))]; exact ⟨rfl, rfl, S⟩) dX4_ifPassed_23

set_option maxRecDepth 20000 in
set_option maxHeartbeats 2000000 in
theorem c_dgM {G : GG} {l : Launch} {h0 : HP} {z b : Nat} {n : Nat} {g : Option Nat} {t : Nat} {u : Nat → Int32} {q : Nat → Nat → Int32} {k len : Nat} {L : Nat → AS} {V : Nat → Option AS} {c : Nat → Nat} (S0 : PP G h0 z b ((n, g, t, u, q), k, L, V, len, c)) (wf : wfA (n, g, t, u, q)) (m3 : 0 < u 3) {i p : Nat} (hi : i < n) (hp : p < n) : Ct G l 5 0 0 yX4_daysAsGuardianIfMoved cX4_daysAsGuardianIfMoved 5 (some .int) [.ref b, .int (nI i), .int (nI p)] h0 z (pX G (dgM (n, g, t, u, q) i p, ((n, g, t, u, q), k, L, V, len, c)) h0 z b) := by
  refine Ct.intro (lv := [(0, .ref b), (1, .int (nI i)), (2, .int (nI p))]) (by decide +kernel) (Nat.le_of_ble_eq_true rfl) rfl (fun X Q hQ hnm => ?_)
  have S := S0.xf
  have n8 : n ≤ 8 := wf.1
  have gw : ∀ i, g = some i → i < n := wf.2.1
  refine ex_aload_n 0 dX4_daysAsGuardianIfMoved_0 rfl rfl ?_
  refine ex_get (v := .ref (b + 12)) fl_X4_16 S.1.ob rfl dX4_daysAsGuardianIfMoved_1 ?_
  refine ex_aload_n 0 dX4_daysAsGuardianIfMoved_4 rfl rfl ?_
  refine ex_get (v := .ref (b + 1)) fl_X4_10 S.1.ob rfl dX4_daysAsGuardianIfMoved_5 ?_
  refine exX_copyT vl_X4_167 S n8 (by decide) (Nat.le_of_ble_eq_true rfl) (Nat.le_refl _) (Nat.le_refl _) rfl dX4_daysAsGuardianIfMoved_8 (fun h π S T => ?_)
  refine ex_aload_n 0 dX4_daysAsGuardianIfMoved_11 rfl rfl ?_
  refine ex_get (v := .ref (b + 12)) fl_X4_16 S.1.ob rfl dX4_daysAsGuardianIfMoved_12 ?_
  refine ex_iload_n 1 dX4_daysAsGuardianIfMoved_15 rfl rfl ?_
  refine ex_iload_n 2 dX4_daysAsGuardianIfMoved_16 rfl rfl ?_
  refine exX_trial (As := [.int (nI i), .int (nI p)]) (r0 := none) (π1 := fun j => π (mvI i p j)) (B := moveA (n, g, t, u, q) i p) vl_X4_80 rfl S T (c_relocate T gw wf.2.2 n8 hi hp) rfl (by decide) (Nat.le_of_ble_eq_true rfl) (Nat.le_refl _) (Nat.le_refl _) rfl dX4_daysAsGuardianIfMoved_17 (fun h S T => ?_)
  refine ex_aload_n 0 dX4_daysAsGuardianIfMoved_20 rfl rfl ?_
  refine ex_get (v := .ref (b + 12)) fl_X4_16 S.1.ob rfl dX4_daysAsGuardianIfMoved_21 ?_
  refine ex_iload_n 2 dX4_daysAsGuardianIfMoved_24 rfl rfl ?_
  refine ex_call0 (As := [.int (nI p)]) (v := .ref (b + 12 + 3 + (fun j => π (mvI i p j)) p)) (ci := 3) vl_X4_76 rfl (c_at T (by omega) hp n8) T.ob rfl (by decide) (Nat.le_of_ble_eq_true rfl) (Nat.le_refl _) (Nat.le_refl _) rfl dX4_daysAsGuardianIfMoved_25 ?_
  refine ex_astore_n (lv' := [(3, .ref (b + 12 + 3 + (fun j => π (mvI i p j)) p)), (0, .ref b), (1, .int (nI i)), (2, .int (nI p))]) dX4_daysAsGuardianIfMoved_28 rfl (by decide) rfl ?_
  refine ex_aload_n 0 dX4_daysAsGuardianIfMoved_29 rfl rfl ?_
  refine ex_ifnonnull (tgt := 35) dX4_daysAsGuardianIfMoved_30 (by decide) ?_
  refine ex_aload_n 0 dX4_daysAsGuardianIfMoved_35 rfl rfl ?_
  refine ex_get (v := .int ((moveA (n, g, t, u, q) i p).2.2.2.2 p 5)) fl_X4_144 (T.pe (by omega) hp) rfl dX4_daysAsGuardianIfMoved_36 ?_
  refine ex_istore (lv' := [(4, .int ((moveA (n, g, t, u, q) i p).2.2.2.2 p 5)), (3, .ref (b + 12 + 3 + (fun j => π (mvI i p j)) p)), (0, .ref b), (1, .int (nI i)), (2, .int (nI p))]) dX4_daysAsGuardianIfMoved_39 (by decide) rfl ?_
  refine ex_aload_n 2 dX4_daysAsGuardianIfMoved_41 rfl rfl ?_
  refine ex_get (v := .ref (b + 12)) fl_X4_16 S.1.ob rfl dX4_daysAsGuardianIfMoved_42 ?_
  refine ex_bipush (v := nI 100) dX4_daysAsGuardianIfMoved_45 (by decide) ?_
  refine exX_trial (As := [.int (nI 100)]) (r0 := none) (π1 := fun j => π (mvI i p j)) (B := itA 100 (moveA (n, g, t, u, q) i p)) vl_X4_118 rfl S T (c_liveDays T (moveA_wf wf hi hp) m3 (by omega)) rfl (by decide) (Nat.le_of_ble_eq_true rfl) (Nat.le_refl _) (Nat.le_refl _) rfl dX4_daysAsGuardianIfMoved_47 (fun h S T => ?_)
  refine ex_aload_n 1 dX4_daysAsGuardianIfMoved_50 rfl rfl ?_
  refine ex_get (v := .int ((itA 100 (moveA (n, g, t, u, q) i p)).2.2.2.2 p 5)) fl_X4_144 (T.pe (by omega) (by rw [itA_1]; exact hp)) rfl dX4_daysAsGuardianIfMoved_51 ?_
  refine ex_iload 0 dX4_daysAsGuardianIfMoved_54 rfl ?_
  refine ex_isub dX4_daysAsGuardianIfMoved_56 ?_
  exact ex_iret hQ rfl (by exact ⟨rfl, rfl, S⟩) dX4_daysAsGuardianIfMoved_57

set_option maxRecDepth 20000 in
set_option maxHeartbeats 2000000 in
theorem c_bestPlace {G : GG} {l : Launch} {h0 : HP} {z b : Nat} {n : Nat} {g : Option Nat} {t : Nat} {u : Nat → Int32} {q : Nat → Nat → Int32} {k len : Nat} {L : Nat → AS} {V : Nat → Option AS} {c : Nat → Nat} (S0 : PP G h0 z b ((n, g, t, u, q), k, L, V, len, c)) (wf : wfA (n, g, t, u, q)) (m3 : 0 < u 3) {y x : Int32} : Ct G l 6 0 0 yX4_bestPlace cX4_bestPlace 7 (some .int) [.ref b, .int y, .int x] h0 z (pX G (X_bestPlace ((n, g, t, u, q), k, L, V, len, c) y x, ((n, g, t, u, q), k, L, V, len, c)) h0 z b) := by
  refine Ct.intro (lv := [(0, .ref b), (1, .int y), (2, .int x)]) (by decide +kernel) (Nat.le_of_ble_eq_true rfl) rfl (fun X Q hQ hnm => ?_)
  have S := S0.xf
  have n8 : n ≤ 8 := wf.1
  obtain ⟨π, hN⟩ := S.1.2.1
  rcases inR_or y n (by omega) with ⟨i, hp, rfl⟩ | hp
  · refine ex_aload_n 0 dX4_bestPlace_0 rfl rfl ?_
    refine ex_get (v := .ref (b + 1)) fl_X4_10 S.1.ob rfl dX4_bestPlace_1 ?_
    refine ex_iload_n 1 dX4_bestPlace_4 rfl rfl ?_
    refine ex_call0 (As := [.int (nI i)]) (v := .ref (b + 1 + 3 + π i)) (ci := 3) vl_X4_76 rfl (c_at hN (by omega) hp n8) hN.ob rfl (by decide) (Nat.le_of_ble_eq_true rfl) (Nat.le_refl _) (Nat.le_refl _) rfl dX4_bestPlace_5 ?_
    refine ex_ifnonnull (tgt := 13) dX4_bestPlace_8 (by decide) ?_
    by_cases hx : x = 0 ∨ x = nI 1
    · have TL : ex G l X Q 6 0 0 0 0 cX4_bestPlace yX4_bestPlace.cls 7 (some .int) h0 z 25 [(0, .ref b), (1, .int (nI i)), (2, .int x)] [] := by
        refine ex_iconst (v := nI 0) dX4_bestPlace_25 (by decide) ?_
        refine ex_istore_n (lv' := [(3, .int (nI 0)), (0, .ref b), (1, .int (nI i)), (2, .int x)]) dX4_bestPlace_26 rfl (by decide) rfl ?_
        refine ex_iconst (v := (-1)) dX4_bestPlace_27 (by decide) ?_
        refine ex_istore (lv' := [(4, .int (-1)), (3, .int (nI 0)), (0, .ref b), (1, .int (nI i)), (2, .int x)]) dX4_bestPlace_28 (by decide) rfl ?_
        refine ex_iconst (v := nI 0) dX4_bestPlace_30 (by decide) ?_
        refine ex_istore (lv' := [(5, .int (nI 0)), (4, .int (-1)), (3, .int (nI 0)), (0, .ref b), (1, .int (nI i)), (2, .int x)]) dX4_bestPlace_31 (by decide) rfl ?_
        suffices H : ∀ (k2 p best : Nat) (most : Int32) (h : HP), p + k2 = n → XF G h0 h z b ((n, g, t, u, q), k, L, V, len, c) → bpG (n, g, t, u, q) i k2 p best most = bpG (n, g, t, u, q) i n 0 0 (-1) → ex G l X Q 6 0 0 0 0 cX4_bestPlace yX4_bestPlace.cls 7 (some .int) h z 33 [(5, .int (nI p)), (4, .int most), (3, .int (nI best)), (2, .int x), (1, .int (nI i)), (0, .ref b)] [] from by
          have e2 := H n 0 0 (-1) h0 (by omega) S rfl
          refine ex_lv (lv2 := [(5, .int (nI 0)), (4, .int (-1)), (3, .int (nI 0)), (2, .int x), (1, .int (nI i)), (0, .ref b)]) [0, 1, 2, 5, 4, 3] rfl ?_
          exact e2
        intro k2
        induction k2 with
        | zero =>
          intro p best most h hd S hh
          refine ex_iload 0 dX4_bestPlace_33 rfl ?_
          refine ex_aload_n 5 dX4_bestPlace_35 rfl rfl ?_
          refine ex_get (v := .ref (b + 1)) fl_X4_10 S.1.ob rfl dX4_bestPlace_36 ?_
          refine ex_get (v := .int (nI n)) fl_X4_55 S.1.nob rfl dX4_bestPlace_39 ?_
          refine ex_icmp_ge (tgt := 74) dX4_bestPlace_42 (by decide) (fun c_42 => ?_) (fun c_42 => absurd ((nI_leI (by omega) (by omega)).mpr (by omega)) c_42)
          refine ex_iload_n 3 dX4_bestPlace_74 rfl rfl ?_
          refine ex_if_ne (tgt := 82) dX4_bestPlace_75 (by decide) (fun c_75 => ?_) (fun c_75 => ?_)
          · refine ex_iload 1 dX4_bestPlace_82 rfl ?_
            exact ex_iret hQ rfl (by unfold X_bestPlace; dsimp only; rw [if_pos (inR_nI hp (by omega)), if_pos hx, ixn (by omega), ← hh]; first | (rw [if_pos c_75]; exact ⟨rfl, rfl, S⟩) | (rw [if_neg c_75]; exact ⟨rfl, rfl, S⟩)) dX4_bestPlace_84
          · refine ex_iload_n 2 dX4_bestPlace_78 rfl rfl ?_
            refine ex_goto (tgt := 84) dX4_bestPlace_79 (by decide) ?_
            exact ex_iret hQ rfl (by unfold X_bestPlace; dsimp only; rw [if_pos (inR_nI hp (by omega)), if_pos hx, ixn (by omega), ← hh]; first | (rw [if_pos c_75]; exact ⟨rfl, rfl, S⟩) | (rw [if_neg c_75]; exact ⟨rfl, rfl, S⟩)) dX4_bestPlace_84
        | succ k2 ih =>
          intro p best most h hd S hh
          rw [bpG] at hh
          refine ex_iload 0 dX4_bestPlace_33 rfl ?_
          refine ex_aload_n 5 dX4_bestPlace_35 rfl rfl ?_
          refine ex_get (v := .ref (b + 1)) fl_X4_10 S.1.ob rfl dX4_bestPlace_36 ?_
          refine ex_get (v := .int (nI n)) fl_X4_55 S.1.nob rfl dX4_bestPlace_39 ?_
          refine ex_icmp_ge (tgt := 74) dX4_bestPlace_42 (by decide) (fun c_42 => absurd c_42 (fun q9 => absurd ((nI_leI (by omega) (by omega)).mp q9) (by omega))) (fun c_42 => ?_)
          refine ex_aload_n 5 dX4_bestPlace_45 rfl rfl ?_
          refine ex_iload_n 4 dX4_bestPlace_46 rfl rfl ?_
          refine ex_iload 0 dX4_bestPlace_47 rfl ?_
          refine ex_callV (As := [.int (nI i), .int (nI p)]) (ci := 4) vl_X4_173 rfl (c_dgM S.1 wf m3 hp (by omega)) S.1.ob rfl (by decide) (Nat.le_of_ble_eq_true rfl) (Nat.le_refl _) (Nat.le_refl _) rfl dX4_bestPlace_49 (fun r1 h1 z1 hp1 => ?_)
          obtain ⟨rfl, rfl, S9⟩ := hp1
          have S := S.trans S9
          refine ex_istore (lv' := [(6, .int (dgM (n, g, t, u, q) i p)), (5, .int (nI p)), (4, .int most), (3, .int (nI best)), (2, .int x), (1, .int (nI i)), (0, .ref b)]) dX4_bestPlace_52 (by decide) rfl ?_
          refine ex_iload 0 dX4_bestPlace_54 rfl ?_
          refine ex_iload 2 dX4_bestPlace_56 rfl ?_
          refine ex_icmp_le (tgt := 68) dX4_bestPlace_58 (by decide) (fun c_58 => ?_) (fun c_58 => ?_)
          · refine ex_iinc (v := nI (p + 1)) (lv' := [(5, .int (nI (p + 1))), (6, .int (dgM (n, g, t, u, q) i p)), (4, .int most), (3, .int (nI best)), (2, .int x), (1, .int (nI i)), (0, .ref b)]) 1 dX4_bestPlace_68 rfl (nI_1 p) (by decide) rfl ?_
            refine ex_goto (tgt := 33) dX4_bestPlace_71 (by decide) ?_
            have e2 := ih (p + 1) best most h1 (by omega) S (by rw [← hh, if_neg (Int32.not_lt.mpr c_58)])
            refine ex_lv (lv2 := [(5, .int (nI (p + 1))), (4, .int most), (3, .int (nI best)), (2, .int x), (1, .int (nI i)), (0, .ref b)]) [0, 2, 3, 4, 5, 6] rfl ?_
            exact e2
          · refine ex_iload 1 dX4_bestPlace_61 rfl ?_
            refine ex_istore_n (lv' := [(3, .int (nI p)), (6, .int (dgM (n, g, t, u, q) i p)), (5, .int (nI p)), (4, .int most), (2, .int x), (1, .int (nI i)), (0, .ref b)]) dX4_bestPlace_63 rfl (by decide) rfl ?_
            refine ex_iload 1 dX4_bestPlace_64 rfl ?_
            refine ex_istore (lv' := [(4, .int (dgM (n, g, t, u, q) i p)), (3, .int (nI p)), (6, .int (dgM (n, g, t, u, q) i p)), (5, .int (nI p)), (2, .int x), (1, .int (nI i)), (0, .ref b)]) dX4_bestPlace_66 (by decide) rfl ?_
            refine ex_iinc (v := nI (p + 1)) (lv' := [(5, .int (nI (p + 1))), (4, .int (dgM (n, g, t, u, q) i p)), (3, .int (nI p)), (6, .int (dgM (n, g, t, u, q) i p)), (2, .int x), (1, .int (nI i)), (0, .ref b)]) 3 dX4_bestPlace_68 rfl (nI_1 p) (by decide) rfl ?_
            refine ex_goto (tgt := 33) dX4_bestPlace_71 (by decide) ?_
            have e2 := ih (p + 1) p (dgM (n, g, t, u, q) i p) h1 (by omega) S (by rw [← hh, if_pos (Int32.not_le.mp c_58)])
            refine ex_lv (lv2 := [(5, .int (nI (p + 1))), (4, .int (dgM (n, g, t, u, q) i p)), (3, .int (nI p)), (2, .int x), (1, .int (nI i)), (0, .ref b)]) [0, 1, 2, 4, 5, 6] rfl ?_
            exact e2
      refine ex_iload_n 2 dX4_bestPlace_13 rfl rfl ?_
      refine ex_if_eq (tgt := 25) dX4_bestPlace_14 (by decide) (fun c_14 => ?_) (fun c_14 => ?_)
      · exact TL
      · refine ex_iload_n 2 dX4_bestPlace_17 rfl rfl ?_
        refine ex_iconst (v := nI 1) dX4_bestPlace_18 (by decide) ?_
        refine ex_icmp_eq (tgt := 25) dX4_bestPlace_19 (by decide) (fun c_19 => ?_) (fun c_19 => ?_)
        · exact TL
        · exact absurd hx (fun q9 => q9.elim c_14 c_19)
    · refine ex_iload_n 2 dX4_bestPlace_13 rfl rfl ?_
      refine ex_if_eq (tgt := 25) dX4_bestPlace_14 (by decide) (fun c_14 => ?_) (fun c_14 => ?_)
      · exact absurd (by first | exact Or.inl c_14 | exact Or.inr c_19) hx
      · refine ex_iload_n 2 dX4_bestPlace_17 rfl rfl ?_
        refine ex_iconst (v := nI 1) dX4_bestPlace_18 (by decide) ?_
        refine ex_icmp_eq (tgt := 25) dX4_bestPlace_19 (by decide) (fun c_19 => ?_) (fun c_19 => ?_)
        · exact absurd (by first | exact Or.inl c_14 | exact Or.inr c_19) hx
        · refine ex_bipush (v := (-2)) dX4_bestPlace_22 (by decide) ?_
          exact ex_iret hQ rfl (by unfold X_bestPlace; dsimp only; rw [if_pos (inR_nI hp (by omega)), if_neg hx]; exact ⟨rfl, rfl, S⟩) dX4_bestPlace_24
  · refine ex_aload_n 0 dX4_bestPlace_0 rfl rfl ?_
    refine ex_get (v := .ref (b + 1)) fl_X4_10 S.1.ob rfl dX4_bestPlace_1 ?_
    refine ex_iload_n 1 dX4_bestPlace_4 rfl rfl ?_
    refine ex_call0 (As := [.int y]) (v := .null) (ci := 3) vl_X4_76 rfl (c_atN hN (inR_not hp) n8) hN.ob rfl (by decide) (Nat.le_of_ble_eq_true rfl) (Nat.le_refl _) (Nat.le_refl _) rfl dX4_bestPlace_5 ?_
    refine ex_ifnonnullN dX4_bestPlace_8 ?_
    refine ex_iconst (v := (-1)) dX4_bestPlace_11 (by decide) ?_
    exact ex_iret hQ rfl (by unfold X_bestPlace; dsimp only; rw [if_neg hp]; exact ⟨rfl, rfl, S⟩) dX4_bestPlace_12

set_option maxRecDepth 20000 in
set_option maxHeartbeats 2000000 in
theorem c_undo {G : GG} {l : Launch} {h0 : HP} {z b : Nat} {n : Nat} {g : Option Nat} {t : Nat} {u : Nat → Int32} {q : Nat → Nat → Int32} {k len : Nat} {L : Nat → AS} {V : Nat → Option AS} {c : Nat → Nat} (S0 : PP G h0 z b ((n, g, t, u, q), k, L, V, len, c)) (nL : ∀ j, j < k → (L j).1 ≤ 8) (k6 : k ≤ 6) : Ct G l 3 0 0 yX4_undo cX4_undo 1 (some .int) [.ref b] h0 z (pX G (X_undo ((n, g, t, u, q), k, L, V, len, c)) h0 z b) := by
  refine Ct.intro (lv := [(0, .ref b)]) (by decide +kernel) (Nat.le_of_ble_eq_true rfl) rfl (fun X Q hQ hnm => ?_)
  have S := S0.xf
  refine ex_aload_n 0 dX4_undo_0 rfl rfl ?_
  refine ex_get (v := .ref (b + 23)) fl_X4_22 S.1.ob rfl dX4_undo_1 ?_
  refine ex_get (v := .int (nI k)) fl_X4_166 S.1.hob rfl dX4_undo_4 ?_
  refine ex_if_ne (tgt := 13) dX4_undo_7 (by decide) (fun c_7 => ?_) (fun c_7 => ?_)
  · have n_7 : ¬ (k = 0) := fun q9 => c_7 ((nI_eq (b := 0) (by omega) (by omega)).mpr q9)
    refine ex_aload_n 0 dX4_undo_13 rfl rfl ?_
    refine ex_get (v := .ref (b + 23)) fl_X4_22 S.1.ob rfl dX4_undo_14 ?_
    refine ex_aload_n 0 dX4_undo_17 rfl rfl ?_
    refine ex_get (v := .ref (b + 1)) fl_X4_10 S.1.ob rfl dX4_undo_18 ?_
    refine exX_back vl_X4_187 S (show 1 ≤ k by omega) (nL (k - 1) (by omega)) (by decide) (Nat.le_of_ble_eq_true rfl) (Nat.le_refl _) (Nat.le_refl _) rfl dX4_undo_21 (fun h S => ?_)
    have S : XF G h0 h z b (L (k - 1), k - 1, L, V, len, c) := S
    refine ex_aload_n 0 dX4_undo_24 rfl rfl ?_
    refine ex_get (v := .ref (b + 23)) fl_X4_22 S.1.ob rfl dX4_undo_25 ?_
    refine ex_get (v := .int (nI (k - 1))) fl_X4_166 S.1.hob rfl dX4_undo_28 ?_
    exact ex_iret hQ rfl (by unfold X_undo; dsimp only; rw [if_neg n_7]; exact ⟨rfl, rfl, S⟩) dX4_undo_31
  · have n_7 : k = 0 := (nI_eq (b := 0) (by omega) (by omega)).mp c_7
    refine ex_bipush (v := (-5)) dX4_undo_10 (by decide) ?_
    exact ex_iret hQ rfl (by unfold X_undo; dsimp only; rw [if_pos n_7]; exact ⟨rfl, rfl, S⟩) dX4_undo_12
end
section
/-! the characters in a long -/
theorem PD.congr {G : GG} {h0 h : HP} {b len : Nat} {c c2 : Nat → Nat} (S : PD G h0 h b len c) (e : ∀ i, i < len → c2 i = c i) : PD G h0 h b len c2 := by
  obtain ⟨s1, ⟨f, s2, s3⟩, s4, s5⟩ := S
  exact ⟨s1, ⟨f, s2, fun i hi => by rw [s3 i hi, e i hi]⟩, s4, s5⟩
section EX5
variable {G : GG} {l : Launch} {X : CT} {Q : State → Prop} {d mc ms cs sl : Nat} {cc : ByteArray} {own : String} {nL : Nat} {ret : Option FieldType} {h h0 : HP} {z pc : Nat} {lv : List (Nat × Value)} {st : List Value} {b : Nat}
/-- history.record(now), and what it leaves alone -/
theorem exX_rec2 {idx : Nat} {x : CX} {st0 : List Value} (V : VV own idx yX0_record cX0_record 2 none 1) (S : XF G h0 h z b x) (n8 : x.1.1 ≤ 8) (hd : 3 ≤ d) (hst : (st.map fun v => v.category).sum ≤ 8) (hc : cs ≤ mc) (hs : sl ≤ ms) (stk : st0 = .ref (b + 1) :: .ref (b + 23) :: st) (dg : decode cc pc = .ok (.invokevirtual idx, 3)) (k1 : ∀ h1 : HP, XF G h0 h1 z b (recX x x.1) → (∀ a, b + 91 ≤ a → h1 a = h a) → ex G l X Q d mc ms cs sl cc own nL ret h1 z (pc + 3) lv st) : ex G l X Q d mc ms cs sl cc own nL ret h z pc lv st0 := by
  obtain ⟨π2, hN⟩ := S.1.2.1
  obtain ⟨σ, P, ⟨r, hA, hr, hσ, hi, k6⟩, hL⟩ := S.1.2.2.2.1
  refine ex_callV V (As := [.ref (b + 1)]) (ci := 0) rfl (c_record hA hr hσ hi k6 hN (by omega) n8) hA.1 rfl hd hst hc hs stk dg (fun r1 h1 z1 hp => ?_)
  obtain ⟨rfl, rfl, σ1, P1, H1, H2⟩ := hp
  have fr : ∀ a, b + 91 ≤ a → h1 a = h a := by
    obtain ⟨r9, g1, -⟩ := H1
    exact fun a ha => g1.2.2.2 a (by omega)
  refine k1 h1 (S.hist H1 (fun j hj => ?_)) fr
  rw [H2 j hj]
  unfold recR
  have k6' : x.2.1 ≤ 6 := k6
  split
  · rename_i c
    rw [if_pos c] at hj
    split
    · rfl
    · exact hL j (by omega)
  · rename_i c
    rw [if_neg c] at hj
    split
    · rfl
    · exact hL (j + 1) (by omega)
end EX5
/-- a new State comes into an empty slot -/
theorem XF.newS {G : GG} {h0 h h1 : HP} {z b i : Nat} {x : CX} {e : va_E} {r : Nat → Option Nat} (S : XF G h0 h z b x) (hr : h (b + 91) = some (aQ G 4 2 r)) (hi : i < 2) (hV : x.2.2.2.1 i = none) (N : SF G (hu h z e) h1 z (fun j => j) A0) : XF G h0 (hu h1 (b + 91) (aQ G 4 2 (va_up r i (some z)))) (z + 11) b (x.1, x.2.1, x.2.2.1, (fun j => if j = i then some A0 else x.2.2.2.1 j), x.2.2.2.2) := by
  obtain ⟨⟨s1, ⟨π2, s2⟩, ⟨π3, T, s3⟩, ⟨σ, P, s4, s4'⟩, ⟨r', s5, s5', s5''⟩, s6, s7⟩, s8⟩ := S
  obtain rfl : r = r' := by rw [hr] at s5; simpa using s5
  have q : ∀ a, a < z → a ≠ b + 91 → (hu h1 (b + 91) (aQ G 4 2 (va_up r i (some z)))) a = h a := fun a g1 g2 => by rw [hu_n g2, N.2 a (by omega), hu_n (by omega)]
  refine ⟨⟨by rw [q _ (by omega) (by omega)]; exact s1, ⟨π2, s2.kept (fun a g1 g2 => q a (by omega) (by omega))⟩, ⟨π3, T, s3.kept (fun a g1 g2 => q a (by omega) (by omega))⟩, ⟨σ, P, s4.kept (fun a g1 g2 => q a (by omega) (by omega)), s4'⟩, ⟨_, hu_s, fun j hj => ?_, fun a0 a1 f0 f1 => ?_⟩, s6.kept (fun a g1 g2 => q a (by omega) (by omega)), by omega⟩, fun a g1 g2 => by rw [q a (by omega) (by omega)]; exact s8 a g1 g2⟩
  · show slA G _ (z + 11) b (if j = i then some A0 else x.2.2.2.1 j) (if j = i then some z else r j)
    by_cases ej : j = i
    · rw [if_pos ej, if_pos ej]
      exact ⟨z, fun j => j, rfl, by omega, by omega, N.1.kept (fun a g1 g2 => by rw [hu_n (by omega)])⟩
    · rw [if_neg ej, if_neg ej]
      have hj2 := s5' j hj
      cases hv : x.2.2.2.1 j with
      | none => rw [hv] at hj2; exact hj2
      | some B2 =>
        rw [hv] at hj2
        obtain ⟨a2, π4, f1, f2, f3, f4⟩ := hj2
        exact ⟨a2, π4, f1, f2, by omega, f4.kept (fun y g1 g2 => q y (by omega) (by omega))⟩
  · have key : ∀ j a, j < 2 → j ≠ i → r j = some a → a + 11 ≤ z := fun j a hj hne ha => by
      have hj2 := s5' j hj
      cases hv : x.2.2.2.1 j with
      | none =>
        rw [hv] at hj2
        have hj3 : r j = none := hj2
        rw [ha] at hj3
        cases hj3
      | some B2 =>
        rw [hv] at hj2
        obtain ⟨a2, π4, f1, f2, f3, f4⟩ := hj2
        rw [ha] at f1
        cases f1
        exact f3
    have f0' : (if 0 = i then some z else r 0) = some a0 := f0
    have f1' : (if 1 = i then some z else r 1) = some a1 := f1
    rcases (show i = 0 ∨ i = 1 by omega) with rfl | rfl
    · rw [if_pos rfl] at f0'
      rw [if_neg (by decide)] at f1'
      cases f0'
      exact Or.inr (key 1 a1 (by decide) (by decide) f1')
    · rw [if_neg (by decide)] at f0'
      rw [if_pos rfl] at f1'
      cases f1'
      exact Or.inl (key 0 a0 (by decide) (by decide) f0')
end
section
set_option maxRecDepth 20000 in
set_option maxHeartbeats 2000000 in
theorem c_restore {G : GG} {l : Launch} {h0 : HP} {z b : Nat} {n : Nat} {g : Option Nat} {t : Nat} {u : Nat → Int32} {q : Nat → Nat → Int32} {k len : Nat} {L : Nat → AS} {V : Nat → Option AS} {c : Nat → Nat} (S0 : PP G h0 z b ((n, g, t, u, q), k, L, V, len, c)) (n8 : n ≤ 8) {s : Int32} (nV : ∀ i B, V i = some B → B.1 ≤ 8) : Ct G l 3 0 0 yX4_restore cX4_restore 3 (some .int) [.ref b, .int s] h0 z (pX G (X_restore ((n, g, t, u, q), k, L, V, len, c) s) h0 z b) := by
  refine Ct.intro (lv := [(0, .ref b), (1, .int s)]) (by decide +kernel) (Nat.le_of_ble_eq_true rfl) rfl (fun X Q hQ hnm => ?_)
  have S := S0.xf
  rcases inR_or s 2 (by omega) with ⟨i, hs, rfl⟩ | hs
  · refine ex_iload_n 1 dX4_restore_0 rfl rfl ?_
    refine ex_callS0 (As := [.int (nI i)]) (v := .int (nI 1)) vl_X4_190 (c_isSlotT hs) rfl (by decide) (Nat.le_of_ble_eq_true rfl) (Nat.le_refl _) (Nat.le_refl _) rfl dX4_restore_1 ?_
    refine ex_if_ne (tgt := 10) dX4_restore_4 (by decide) (fun c_4 => ?_) (fun c_4 => absurd c_4 (by decide))
    refine ex_aload_n 0 dX4_restore_10 rfl rfl ?_
    refine ex_get (v := .ref (b + 91)) fl_X4_26 S.1.ob rfl dX4_restore_11 ?_
    refine ex_iload_n 1 dX4_restore_14 rfl rfl ?_
    refine exX_sl (i := i) S rfl hs dX4_restore_15 (fun r hr => ?_)
    change slA G h0 z b (V i) r at hr
    rcases hV : V i with _ | B
    · rw [hV] at hr
      obtain rfl : r = none := hr
      refine ex_astore_nN (lv' := [(2, .null), (0, .ref b), (1, .int (nI i))]) dX4_restore_16 rfl (by decide) rfl ?_
      refine ex_aload_nN 0 dX4_restore_17 rfl rfl ?_
      refine ex_ifnonnullN dX4_restore_18 ?_
      refine ex_bipush (v := (-5)) dX4_restore_21 (by decide) ?_
      exact ex_iret hQ rfl (by unfold X_restore; dsimp only; rw [if_pos (inR_nI hs (by decide)), ixn (by omega), hV]; exact ⟨rfl, rfl, S⟩) dX4_restore_23
    · rw [hV] at hr
      obtain ⟨a, π1, rfl, ha, ha2, hB⟩ := hr
      refine ex_astore_n (lv' := [(2, .ref a), (0, .ref b), (1, .int (nI i))]) dX4_restore_16 rfl (by decide) rfl ?_
      refine ex_aload_n 0 dX4_restore_17 rfl rfl ?_
      refine ex_ifnonnull (tgt := 24) dX4_restore_18 (by decide) ?_
      refine ex_aload_n 1 dX4_restore_24 rfl rfl ?_
      refine ex_get (v := .ref (b + 23)) fl_X4_22 S.1.ob rfl dX4_restore_25 ?_
      refine ex_aload_n 1 dX4_restore_28 rfl rfl ?_
      refine ex_get (v := .ref (b + 1)) fl_X4_10 S.1.ob rfl dX4_restore_29 ?_
      refine exX_rec2 vl_X4_48 S n8 (by decide) (Nat.le_of_ble_eq_true rfl) (Nat.le_refl _) (Nat.le_refl _) rfl dX4_restore_32 (fun h S fr => ?_)
      have S : XF G h0 h z b ((n, g, t, u, q), (if k < 6 then k + 1 else 6), (recR k L (n, g, t, u, q)), V, len, c) := S
      have hB := hB.kept (h1 := h) (fun y g1 g2 => fr y (by omega))
      refine ex_aload_n 1 dX4_restore_35 rfl rfl ?_
      refine ex_get (v := .ref (b + 1)) fl_X4_10 S.1.ob rfl dX4_restore_36 ?_
      refine ex_aload_n 0 dX4_restore_39 rfl rfl ?_
      refine exX_fromS vl_X4_167 S ⟨a, π1, rfl, ha, ha2, hB⟩ (nV i B hV) (by decide) (Nat.le_of_ble_eq_true rfl) (Nat.le_refl _) (Nat.le_refl _) rfl dX4_restore_40 (fun h S => ?_)
      have S : XF G h0 h z b (B, (if k < 6 then k + 1 else 6), (recR k L (n, g, t, u, q)), V, len, c) := S
      refine ex_aload_n 1 dX4_restore_43 rfl rfl ?_
      refine ex_get (v := .ref (b + 1)) fl_X4_10 S.1.ob rfl dX4_restore_44 ?_
      refine ex_get (v := .int ((B).2.2.2.1 6)) fl_X4_112 S.1.nob rfl dX4_restore_47 ?_
      exact ex_iret hQ rfl (by unfold X_restore; dsimp only; rw [if_pos (inR_nI hs (by decide)), ixn (by omega), hV]; exact ⟨rfl, rfl, S⟩) dX4_restore_50
  · refine ex_iload_n 1 dX4_restore_0 rfl rfl ?_
    refine ex_callS0 (As := [.int s]) (v := .int (nI 0)) vl_X4_190 (c_isSlotF hs) rfl (by decide) (Nat.le_of_ble_eq_true rfl) (Nat.le_refl _) (Nat.le_refl _) rfl dX4_restore_1 ?_
    refine ex_if_ne (tgt := 10) dX4_restore_4 (by decide) (fun c_4 => absurd (by decide) c_4) (fun c_4 => ?_)
    refine ex_bipush (v := (-2)) dX4_restore_7 (by decide) ?_
    exact ex_iret hQ rfl (by unfold X_restore; rw [if_neg hs]; exact ⟨rfl, rfl, S⟩) dX4_restore_9

set_option maxRecDepth 20000 in
set_option maxHeartbeats 2000000 in
theorem c_save {G : GG} {l : Launch} {h0 : HP} {z b : Nat} {n : Nat} {g : Option Nat} {t : Nat} {u : Nat → Int32} {q : Nat → Nat → Int32} {k len : Nat} {L : Nat → AS} {V : Nat → Option AS} {c : Nat → Nat} (S0 : PP G h0 z b ((n, g, t, u, q), k, L, V, len, c)) (n8 : n ≤ 8) {s : Int32} : Ct G l 3 11 75 yX4_save cX4_save 2 (some .int) [.ref b, .int s] h0 z (fun r h1 z1 => r = some (.int (X_save ((n, g, t, u, q), k, L, V, len, c) s).1) ∧ z ≤ z1 ∧ z1 ≤ z + 11 ∧ XF G h0 h1 z1 b (X_save ((n, g, t, u, q), k, L, V, len, c) s).2) := by
  refine Ct.intro (lv := [(0, .ref b), (1, .int s)]) (by decide +kernel) (Nat.le_of_ble_eq_true rfl) rfl (fun X Q hQ hnm => ?_)
  have S := S0.xf
  rcases inR_or s 2 (by omega) with ⟨i, hs, rfl⟩ | hs
  · refine ex_iload_n 1 dX4_save_0 rfl rfl ?_
    refine ex_callS0 (As := [.int (nI i)]) (v := .int (nI 1)) vl_X4_190 (c_isSlotT hs) rfl (by decide) (Nat.le_of_ble_eq_true rfl) (Nat.zero_le _) (Nat.zero_le _) rfl dX4_save_1 ?_
    refine ex_if_ne (tgt := 10) dX4_save_4 (by decide) (fun c_4 => ?_) (fun c_4 => absurd c_4 (by decide))
    refine ex_aload_n 0 dX4_save_10 rfl rfl ?_
    refine ex_get (v := .ref (b + 91)) fl_X4_26 S.1.ob rfl dX4_save_11 ?_
    refine ex_iload_n 1 dX4_save_14 rfl rfl ?_
    obtain ⟨r, s5, s5a, s5b⟩ := S.1.2.2.2.2.1
    have hr := s5a i hs
    change slA G h0 z b (V i) (r i) at hr
    refine ex_aald4 s5 rfl hs (by decide) dX4_save_15 ?_
    rcases hV : V i with _ | B
    · rw [hV] at hr
      have ea : r i = none := hr
      rw [ea]
      refine ex_ifnonnullN dX4_save_16 ?_
      refine ex_aload_n 0 dX4_save_19 rfl rfl ?_
      refine ex_get (v := .ref (b + 91)) fl_X4_26 S.1.ob rfl dX4_save_20 ?_
      refine ex_iload_n 1 dX4_save_23 rfl rfl ?_
      refine ex_new nl_X4_7 (by decide) (by decide) dX4_save_24 ?_
      refine ex_dup dX4_save_27 rfl ?_
      refine ex_callI (As := []) vl_X4_9 (c_Sinit hu_s) rfl (by decide) (Nat.le_of_ble_eq_true rfl) (by decide) (by decide) rfl dX4_save_28 (fun r1 h1 z1 hp => ?_)
      obtain ⟨rfl, rfl, S1⟩ := hp
      have zb : b + 94 ≤ z := S0.2.2.2.2.2.2
      refine ex_aast (t := 4) (ci := 3) (r := (RX3, TX3, 13)) (n := 2) (f := r) (j := i) rfl rfl (by rw [S1.2 _ (by omega), hu_n (by omega)]; exact s5) S1.ob rfl hs (by decide) dX4_save_31 ?_
      have S := S.newS s5 hs hV S1
      refine ex_aload_n 0 dX4_save_32 rfl rfl ?_
      refine ex_get (v := .ref (b + 91)) fl_X4_26 S.1.ob rfl dX4_save_33 ?_
      refine ex_iload_n 1 dX4_save_36 rfl rfl ?_
      refine ex_aald4 hu_s rfl hs (by decide) dX4_save_37 ?_
      rw [show va_up r i (some z) i = some z from if_pos rfl]
      refine ex_aload_n 0 dX4_save_38 rfl rfl ?_
      refine ex_get (v := .ref (b + 1)) fl_X4_10 S.1.ob rfl dX4_save_39 ?_
      refine exX_toS vl_X4_167 S hu_s hs (if_pos rfl) (if_pos rfl) n8 (by decide) (Nat.le_of_ble_eq_true rfl) (Nat.le_of_ble_eq_true rfl) (Nat.le_of_ble_eq_true rfl) rfl dX4_save_42 (fun h S => ?_)
      refine ex_aload_n 0 dX4_save_45 rfl rfl ?_
      refine ex_get (v := .ref (b + 1)) fl_X4_10 S.1.ob rfl dX4_save_46 ?_
      refine ex_get (v := .int (u 6)) fl_X4_112 S.1.nob rfl dX4_save_49 ?_
      exact ex_iret hQ rfl (by unfold X_save; rw [if_pos (inR_nI hs (by decide)), ixn (by omega)]; refine ⟨rfl, Nat.le_add_right _ _, Nat.le_refl _, ?_⟩; have eV : (fun j => if j = i then some (n, g, t, u, q) else (if j = i then some A0 else V j)) = (fun j => if j = i then some (n, g, t, u, q) else V j) := funext (fun j => by split <;> rfl); rw [← eV]; exact S) dX4_save_52
    · rw [hV] at hr
      obtain ⟨a, π1, ea, ha, ha2, hB⟩ := hr
      rw [ea]
      refine ex_ifnonnull (tgt := 32) dX4_save_16 (by decide) ?_
      refine ex_aload_n 0 dX4_save_32 rfl rfl ?_
      refine ex_get (v := .ref (b + 91)) fl_X4_26 S.1.ob rfl dX4_save_33 ?_
      refine ex_iload_n 1 dX4_save_36 rfl rfl ?_
      refine ex_aald4 s5 rfl hs (by decide) dX4_save_37 ?_
      rw [ea]
      refine ex_aload_n 0 dX4_save_38 rfl rfl ?_
      refine ex_get (v := .ref (b + 1)) fl_X4_10 S.1.ob rfl dX4_save_39 ?_
      refine exX_toS vl_X4_167 S s5 hs ea hV n8 (by decide) (Nat.le_of_ble_eq_true rfl) (Nat.zero_le _) (Nat.zero_le _) rfl dX4_save_42 (fun h S => ?_)
      refine ex_aload_n 0 dX4_save_45 rfl rfl ?_
      refine ex_get (v := .ref (b + 1)) fl_X4_10 S.1.ob rfl dX4_save_46 ?_
      refine ex_get (v := .int (u 6)) fl_X4_112 S.1.nob rfl dX4_save_49 ?_
      refine ex_widen (c2 := 11) (s2 := 75) (by decide) (by decide) ?_
      exact ex_iret hQ rfl (by unfold X_save; rw [if_pos (inR_nI hs (by decide)), ixn (by omega)]; exact ⟨rfl, Nat.le_refl _, Nat.le_add_right _ _, S⟩) dX4_save_52
  · refine ex_iload_n 1 dX4_save_0 rfl rfl ?_
    refine ex_callS0 (As := [.int s]) (v := .int (nI 0)) vl_X4_190 (c_isSlotF hs) rfl (by decide) (Nat.le_of_ble_eq_true rfl) (Nat.zero_le _) (Nat.zero_le _) rfl dX4_save_1 ?_
    refine ex_if_ne (tgt := 10) dX4_save_4 (by decide) (fun c_4 => absurd (by decide) c_4) (fun c_4 => ?_)
    refine ex_bipush (v := (-2)) dX4_save_7 (by decide) ?_
    refine ex_widen (c2 := 11) (s2 := 75) (by decide) (by decide) ?_
    exact ex_iret hQ rfl (by unfold X_save; rw [if_neg hs]; exact ⟨rfl, Nat.le_refl _, Nat.le_add_right _ _, S⟩) dX4_save_9
end
section
/-- the object as it is made -/
def CI (G : GG) (h0 h : HP) (b : Nat) : Prop := h b = some (.inr (4, ppF b)) ∧ SP G h (b + 1) (fun j => j) A0 ∧ SP G h (b + 12) (fun j => j) A0 ∧ HS G h h (b + 23) (fun j => j) 0 (fun _ => A0) ∧ h (b + 91) = some (aQ G 4 2 (fun _ => none)) ∧ PD G h h (b + 92) 0 (fun _ => 0) ∧ ∀ a, (a < b ∨ b + 94 ≤ a) → h a = h0 a
/-- what the object is at first -/
def x0 : CX := (A0, 0, (fun _ => A0), (fun _ => none), 0, fun _ => 0)
theorem CI.pp {G : GG} {h0 h h1 : HP} {b : Nat} (S : CI G h0 h b) (q : ∀ a, b ≤ a → a < b + 94 → h1 a = h a) : PP G h1 (b + 94) b x0 := by
  obtain ⟨s1, s2, s3, s4, s5, s6, -⟩ := S
  exact ⟨by rw [q _ (by omega) (by omega)]; exact s1, ⟨_, s2.kept (fun a g1 g2 => q a (by omega) (by omega))⟩, ⟨_, A0, s3.kept (fun a g1 g2 => q a (by omega) (by omega))⟩, ⟨fun j => j, fun _ => A0, s4.kept (fun a g1 g2 => q a (by omega) (by omega)), fun j hj => rfl⟩, ⟨fun _ => none, by rw [q _ (by omega) (by omega)]; exact s5, fun i hi => rfl, fun a0 a1 f0 => by cases f0⟩, s6.kept (fun a g1 g2 => q a (by omega) (by omega)), Nat.le_refl _⟩

set_option maxRecDepth 20000 in
set_option maxHeartbeats 2000000 in
theorem c_Xinit {G : GG} {l : Launch} {h0 : HP} {b : Nat} (H0 : h0 b = some (.inr (4, [.null, .null, .null, .null, .null]))) : Ct G l 4 93 672 yX4_init cX4_init 1 none [.ref b] h0 (b + 1) (fun r h1 z1 => r = none ∧ z1 = b + 94 ∧ CI G h0 h1 b) := by
  refine Ct.intro (lv := [(0, .ref b)]) (by decide +kernel) (Nat.le_of_ble_eq_true rfl) rfl (fun X Q hQ hnm => ?_)
  refine ex_aload_n 0 dX4_init_0 rfl rfl ?_
  refine ex_objInit oi_X4_1 oi_2 oi_3 (by decide) (Nat.le_of_ble_eq_true rfl) dX4_init_1 ?_
  refine ex_aload_n 0 dX4_init_4 rfl rfl ?_
  refine ex_new nl_X4_7 (by decide) (by decide) dX4_init_5 ?_
  refine ex_dup dX4_init_8 rfl ?_
  refine ex_callI (As := []) vl_X4_9 (c_Sinit hu_s) rfl (by decide) (Nat.le_of_ble_eq_true rfl) (by decide) (by decide) rfl dX4_init_9 (fun r1 h1 z1 hp => ?_)
  obtain ⟨rfl, rfl, S1⟩ := hp
  refine ex_putF hnm rfl fl_X4_10 (by rw [S1.2 _ (by omega), hu_n (by omega)]; exact H0) rfl rfl (Nat.le_of_ble_eq_true rfl) dX4_init_12 ?_
  refine ex_aload_n 0 dX4_init_15 rfl rfl ?_
  refine ex_new nl_X4_7 (by decide) (by decide) dX4_init_16 ?_
  refine ex_dup dX4_init_19 rfl ?_
  refine ex_callI (As := []) vl_X4_9 (c_Sinit hu_s) rfl (by decide) (Nat.le_of_ble_eq_true rfl) (by decide) (by decide) rfl dX4_init_20 (fun r2 h2 z2 hp => ?_)
  obtain ⟨rfl, rfl, S2⟩ := hp
  refine ex_putF hnm rfl fl_X4_16 (by rw [S2.2 _ (by omega), hu_n (by omega)]; exact hu_s) rfl rfl (Nat.le_of_ble_eq_true rfl) dX4_init_23 ?_
  refine ex_aload_n 0 dX4_init_26 rfl rfl ?_
  refine ex_new nl_X4_19 (by decide) (by decide) dX4_init_27 ?_
  refine ex_dup dX4_init_30 rfl ?_
  refine ex_callI (As := []) vl_X4_21 (c_Hinit hu_s) rfl (by decide) (Nat.le_of_ble_eq_true rfl) (by decide) (by decide) rfl dX4_init_31 (fun r3 h3 z3 hp => ?_)
  obtain ⟨rfl, rfl, HH⟩ := hp
  obtain ⟨r3, S3a, S3b⟩ := HH
  have S3 := And.intro S3a.1 S3a.2.2.2
  refine ex_putF hnm rfl fl_X4_22 (by rw [S3.2 _ (by omega), hu_n (by omega)]; exact hu_s) rfl rfl (Nat.le_of_ble_eq_true rfl) dX4_init_34 ?_
  refine ex_aload_n 0 dX4_init_37 rfl rfl ?_
  refine ex_iconst (v := nI 2) dX4_init_38 (by decide) ?_
  refine ex_anew (t := 4) rfl cl_X4_7 (Or.inr rfl) (by decide) (by decide) (by decide) dX4_init_39 ?_
  refine ex_putF hnm rfl fl_X4_26 (by rw [hu_n (by omega)]; exact hu_s) rfl rfl (Nat.le_of_ble_eq_true rfl) dX4_init_42 ?_
  refine ex_aload_n 0 dX4_init_45 rfl rfl ?_
  refine ex_new nl_X4_30 (by decide) (by decide) dX4_init_46 ?_
  refine ex_dup dX4_init_49 rfl ?_
  refine ex_callIN (As := []) (fun K => K.2.2.2.2.2.1) vn_X4_32 (c_Dinit hu_s) rfl (by decide) (Nat.le_of_ble_eq_true rfl) (by decide) (by decide) rfl dX4_init_50 (fun r5 h5 z5 hp => ?_)
  obtain ⟨rfl, rfl, S5⟩ := hp
  refine ex_putF hnm rfl fl_X4_33 (by rw [S5.2.2.2 _ (by omega), hu_n (by omega)]; exact hu_s) rfl rfl (Nat.le_of_ble_eq_true rfl) dX4_init_53 ?_
  have q5 : ∀ a, a ≠ b → a < b + 92 ∨ b + 94 ≤ a → hu h5 b (.inr (4, ppF b)) a = h5 a := fun a g1 _ => hu_n g1
  have q5b : ∀ a, a < b + 92 ∨ b + 94 ≤ a → a ≠ b → a ≠ b + 91 → h5 a = h3 a := fun a g1 g2 g3 => by rw [S5.2.2.2 _ (by omega), hu_n (by omega), hu_n g2, hu_n g3, hu_n g2]
  have q3 : ∀ a, a < b + 23 ∨ b + 91 ≤ a → a ≠ b → h3 a = h2 a := fun a g1 g2 => by rw [S3.2 _ (by omega), hu_n (by omega), hu_n g2]
  have q2 : ∀ a, a < b + 12 ∨ b + 23 ≤ a → a ≠ b → h2 a = h1 a := fun a g1 g2 => by rw [S2.2 _ (by omega), hu_n (by omega), hu_n g2]
  have q1 : ∀ a, a < b + 1 ∨ b + 12 ≤ a → h1 a = h0 a := fun a g1 => by rw [S1.2 _ (by omega), hu_n (by omega)]
  exact ex_vret hQ rfl ⟨rfl, rfl, hu_s,
      S1.1.kept (fun a g1 g2 => by rw [hu_n (by omega), q5b a (by omega) (by omega) (by omega), q3 a (by omega) (by omega), q2 a (by omega) (by omega)]),
      S2.1.kept (fun a g1 g2 => by rw [hu_n (by omega), q5b a (by omega) (by omega) (by omega), q3 a (by omega) (by omega)]),
      HS.kept ⟨r3, S3a.kept (fun _ _ _ => rfl), S3b⟩ (fun a g1 g2 => by rw [hu_n (by omega), q5b a (by omega) (by omega) (by omega)]),
      by rw [hu_n (by omega), S5.2.2.2 _ (by omega), hu_n (by omega), hu_n (by omega)]; exact hu_s,
      S5.kept (fun a g1 g2 => by rw [hu_n (by omega)]),
      fun a ha => by rw [hu_n (by omega), q5b a (by omega) (by omega) (by omega), q3 a (by omega) (by omega), q2 a (by omega) (by omega), q1 a (by omega)]⟩ dX4_init_56
end
section
theorem mnI_comm {a b : Int32} : mnI a b = mnI b a := by
  unfold mnI
  by_cases c1 : b < a
  · rw [if_pos c1, if_neg (Int32.not_lt.mpr (Int32.le_of_lt c1))]
  · by_cases c2 : a < b
    · rw [if_neg c1, if_pos c2]
    · rw [if_neg c1, if_neg c2]
      exact Int32.le_antisymm (Int32.not_lt.mp c1) (Int32.not_lt.mp c2)
theorem nI_mod {a n : Nat} (hn : 0 < n) (ha : a < 1000) (hn2 : n < 1000) : nI a - nI a / nI n * nI n = nI (a % n) := by
  have e1 : nI a / nI n = nI (a / n) := by
    apply Int32.toInt_inj.mp
    rw [Int32.toInt_div, nI_toInt (by omega), nI_toInt (by omega), nI_toInt (by have := Nat.div_le_self a n; omega)]
    rw [← Int.ofNat_tdiv]
    have hw := Nat.div_le_self a n
    generalize a / n = w at hw
    apply Int.bmod_eq_of_le
    · omega
    · omega
  rw [e1]
  have e2 : nI a = nI (a / n * n) + nI (a % n) := by
    rw [show nI (a / n * n) + nI (a % n) = nI (a / n * n + a % n) from (Int32.ofNat_add _ _).symm, Nat.div_add_mod']
  rw [show nI (a / n) * nI n = nI (a / n * n) from (Int32.ofNat_mul _ _).symm]
  conv => lhs; lhs; rw [e2]
  rw [Int32.add_comm, Int32.add_sub_cancel]
def hB (r : Option Nat) : Int32 := match r with
  | none => nI 0
  | some _ => nI 1

theorem bh_mod {n t k : Nat} (hn : 0 < n) : bh n ((t + k) % n) = (t + (k + 1)) % n := by
  have h1 := Nat.mod_lt (t + k) hn
  have e : (t + (k + 1)) % n = ((t + k) % n + 1) % n := by rw [← Nat.add_assoc, Nat.add_mod, Nat.add_mod ((t + k) % n) 1 n, Nat.mod_mod]
  rw [e]
  unfold bh
  by_cases c : (t + k) % n + 1 < n
  · rw [if_pos c, Nat.mod_eq_of_lt c]
  · rw [if_neg c, show (t + k) % n + 1 = n by omega, Nat.mod_self]

theorem mx3a {x : Int32} (hm : 0 ≤ x) (h : x < nI 3) : mxI (nI 0) (x - nI 3) = nI 0 := by
  unfold mxI
  obtain ⟨j, hj, rfl⟩ := nI_of (Int32.not_lt.mpr hm)
  have := (nI_ltI hj (by decide)).mp h
  rcases (show j = 0 ∨ j = 1 ∨ j = 2 by omega) with rfl | rfl | rfl <;> decide
theorem nI_sub {a b : Nat} (h : b ≤ a) : nI a - nI b = nI (a - b) := by
  have e : nI a = nI (a - b) + nI b := by rw [nI_add, Nat.sub_add_cancel h]
  rw [e, Int32.add_sub_cancel]
theorem mx3b {x : Int32} (hm : 0 ≤ x) (h : ¬ x < nI 3) : mxI (nI 0) (x - nI 3) = x - nI 3 := by
  unfold mxI
  obtain ⟨j, hj, rfl⟩ := nI_of (Int32.not_lt.mpr hm)
  have h3 : 3 ≤ j := Nat.not_lt.mp (fun q => h ((nI_ltI hj (by decide)).mpr q))
  rw [nI_sub h3]
  by_cases c : nI 0 < nI (j - 3)
  · rw [if_pos c]
  · rw [if_neg c]
    have h9 : ¬ 0 < j - 3 := fun q => c ((nI_ltI (by decide) (by omega)).mpr q)
    congr 1
    omega

theorem cp50 {x : Int32} : (x < nI 50 → cpI (nI 50) x = nI 1) ∧ (¬ x < nI 50 → nI 50 < x → cpI (nI 50) x = (-1)) ∧ (¬ x < nI 50 → ¬ nI 50 < x → cpI (nI 50) x = nI 0) := by
  unfold cpI
  refine ⟨fun h => ?_, fun h h2 => by rw [if_pos h2], fun h h2 => ?_⟩
  · have h1 : ¬ nI 50 < x := Int32.not_lt.mpr (Int32.le_of_lt h)
    have h2 : ¬ nI 50 = x := fun q => Int32.lt_irrefl (q ▸ h : x < x)
    rw [if_neg h1, if_neg h2]
  · rw [if_neg h2, if_pos (Int32.le_antisymm (Int32.not_lt.mp h) (Int32.not_lt.mp h2))]
theorem nI_m1 {k : Nat} (h : 1 ≤ k) : nI k + (-1) = nI (k - 1) := by
  rw [← nI_sub h, Int32.sub_eq_add_neg]
  rfl

theorem hB_n {r : Option Nat} : narrow .boolean (.int (hB r)) = .int (hB r) := by
  cases r
  · decide
  · exact (by decide : narrow .boolean (.int (nI 1)) = .int (nI 1))

theorem hB_0 {r : Option Nat} (h : hB r = 0) : r = none := by
  cases r
  · rfl
  · exact absurd (show nI 1 = 0 from h) (by decide)
theorem hB_1 {r : Option Nat} (h : ¬ hB r = 0) : ¬ r = none := fun q => h (by rw [q]; rfl)

theorem mvI_self {x a : Nat} : mvI x x a = a := by
  unfold mvI
  by_cases h : a = x
  · rw [if_pos h, h]
  · rw [if_neg h, if_neg (by omega), if_neg (by omega)]
theorem absn : ∀ a, a < 8 → ∀ b, b < 8 → abI (nI a - nI b) = nI (if a < b then b - a else a - b) := by decide

theorem handF_6 {n : Nat} {u : Nat → Int32} {q : Nat → Nat → Int32} {v : Int32} : ∀ (k t : Nat), handF n (upd u 6 v) q t k = handF n u q t k
  | 0, _ => rfl
  | k + 1, t => by
    rw [handF, handF, handF_6 k, upd_n (by decide)]
end
section
/-! the numbers keep within bounds -/
theorem nI_div {a b : Nat} (hb : 0 < b) (ha : a < 2 ^ 31) (hb2 : b < 2 ^ 31) : nI a / nI b = nI (a / b) := by
  have hw := Nat.div_le_self a b
  apply Int32.toInt_inj.mp
  rw [Int32.toInt_div, nI_toInt ha, nI_toInt hb2, nI_toInt (by omega), ← Int.ofNat_tdiv]
  generalize a / b = w at hw
  apply Int.bmod_eq_of_le
  · omega
  · omega
theorem nI_mul {a b : Nat} : nI a * nI b = nI (a * b) := (Int32.ofNat_mul _ _).symm
theorem nI_min {a b : Nat} (ha : a < 2 ^ 31) (hb : b < 2 ^ 31) : mnI (nI a) (nI b) = nI (min a b) := by
  unfold mnI
  by_cases c : b < a
  · rw [if_pos ((nI_ltI hb ha).mpr c), Nat.min_eq_right (by omega)]
  · rw [if_neg (fun q => c ((nI_ltI hb ha).mp q)), Nat.min_eq_left (by omega)]
def bdI (x : Int32) (K : Nat) : Prop := ∃ a : Nat, x = nI a ∧ a ≤ K
theorem bdI.up {x : Int32} {K K2 : Nat} (h : bdI x K) (hk : K ≤ K2) : bdI x K2 := by
  obtain ⟨a, e, h⟩ := h
  exact ⟨a, e, by omega⟩
def okA (K : Nat) (A : AS) : Prop := wfA A ∧ (∃ a : Nat, A.2.2.2.1 3 = nI a ∧ 1 ≤ a ∧ a ≤ 40) ∧ bdI (A.2.2.2.1 8) 99 ∧ bdI (A.2.2.2.1 11) K ∧ bdI (A.2.2.2.1 1) 200 ∧ bdI (A.2.2.2.1 13) K ∧ bdI (A.2.2.2.1 2) 99 ∧ ∀ j, j < A.1 → bdI (A.2.2.2.2 j 1) 100
theorem okA.up {K K2 : Nat} {A : AS} (h : okA K A) (hk : K ≤ K2) : okA K2 A := ⟨h.1, h.2.1, h.2.2.1, h.2.2.2.1.up hk, h.2.2.2.2.1, h.2.2.2.2.2.1.up hk, h.2.2.2.2.2.2⟩
theorem okA.wf {K : Nat} {A : AS} (h : okA K A) : wfA A := h.1
theorem okA.m3 {K : Nat} {A : AS} (h : okA K A) : 0 < A.2.2.2.1 3 := by
  obtain ⟨-, ⟨a, e, h1, h2⟩, -⟩ := h
  rw [e]
  exact (nI_ltI (a := 0) (by omega) (by omega)).mpr (by omega)
theorem bdI.pos {x : Int32} {K : Nat} (h : bdI x K) (hK : K < 2 ^ 31) : 0 ≤ x := by
  obtain ⟨a, e, h⟩ := h
  rw [e]
  exact nI_pos' (by omega)
theorem okA.m8 {K : Nat} {A : AS} (h : okA K A) : 0 ≤ A.2.2.2.1 8 := h.2.2.1.pos (by decide)
theorem nA_ok {K : Nat} {A : AS} (h : okA K A) : okA K (nA A) := by
  obtain ⟨n, g, t, u, q⟩ := A
  exact h
theorem mx3_bd {x : Int32} (h : bdI x 99) : bdI (mxI (nI 0) (x - nI 3)) 99 := by
  obtain ⟨a, rfl, ha⟩ := h
  by_cases c : a < 3
  · exact ⟨0, mx3a (nI_pos' (by omega)) ((nI_ltI (by omega) (by omega)).mpr c), by omega⟩
  · exact ⟨a - 3, by rw [mx3b (nI_pos' (by omega)) (fun q => c ((nI_ltI (by omega) (by omega)).mp q)), nI_sub (by omega)], by omega⟩
theorem hA_ok {K : Nat} {A : AS} (h : okA K A) : okA (K + 1) (hA A).1 := by
  have hw := hA_wf h.1
  obtain ⟨n, _ | i, t, u, q⟩ := A
  · obtain ⟨w, m3, m8, m11, m1, m13, m2, sh⟩ := h
    change wfA (holdA n t u q).1 at hw
    show okA (K + 1) (holdA n t u q).1
    unfold holdA at hw ⊢
    split
    · exact ⟨w, m3, m8, m11.up (by omega), m1, m13.up (by omega), m2, sh⟩
    · rename_i j hj
      split
      · rename_i c
        rw [hj] at hw
        dsimp only at hw
        rw [if_pos c] at hw
        refine ⟨hw, m3, mx3_bd m8, m11.up (by omega), m1, m13.up (by omega), m2, fun a ha => ?_⟩
        show bdI (uq q j 2 (q j 2 + nI 1) a 1) 100
        rw [uq_k (by decide)]
        exact sh a ha
      · rename_i c
        rw [hj] at hw
        dsimp only at hw
        rw [if_neg c] at hw
        refine ⟨hw, m3, m8, m11.up (by omega), m1, ?_, m2, fun a ha => ?_⟩
        · obtain ⟨a, e, ha⟩ := m13
          exact ⟨a + 1, by show u 13 + nI 1 = _; rw [show u 13 = nI a from e, nI_add], by omega⟩
        · show bdI (uq q j 4 (q j 4 + nI 1) a 1) 100
          rw [uq_k (by decide)]
          exact sh a ha
  · exact h.up (by omega)
theorem monthA_ok {K : Nat} {A : AS} (h : okA K A) (hK : K < 2 ^ 30) : okA K (monthA A) := by
  have hw := monthA_wf h.1
  obtain ⟨n, _ | i, t, u, q⟩ := A
  · obtain ⟨w, m3, m8, ⟨a11, e11, h11⟩, ⟨a1, e1, h1⟩, m13, m2, sh⟩ := h
    have e11 : u 11 = nI a11 := e11
    have e1 : u 1 = nI a1 := e1
    refine ⟨hw, m3, m8, ⟨a11 - min (a1 / 2) a11, ?_, by omega⟩, ⟨a1, e1, h1⟩, m13, m2, sh⟩
    show u 11 - mnI (u 1 / nI 2) (u 11) = _
    rw [e11, e1, nI_div (by decide) (by omega) (by decide), nI_min (by omega) (by omega), nI_sub (by omega)]
  · obtain ⟨w, m3, ⟨a8, e8, h8⟩, ⟨a11, e11, h11⟩, ⟨a1, e1, h1⟩, m13, m2, sh⟩ := h
    have e11 : u 11 = nI a11 := e11
    have e1 : u 1 = nI a1 := e1
    have e8 : u 8 = nI a8 := e8
    obtain ⟨s, es, hs⟩ := sh i (w.2.1 i rfl)
    have es : q i 1 = nI s := es
    have hmul : min a1 a11 * s ≤ 200 * 100 := Nat.mul_le_mul (by omega) hs
    have ep : mnI (u 1) (u 11) = nI (min a1 a11) := by rw [e1, e11, nI_min (by omega) (by omega)]
    have ef : mnI (u 1) (u 11) * q i 1 / nI 100 = nI (min a1 a11 * s / 100) := by rw [ep, es, nI_mul, nI_div (by decide) (by omega) (by decide)]
    have eh : mnI (u 1) (u 11) * q i 1 / nI 100 / nI 2 = nI (min a1 a11 * s / 100 / 2) := by rw [ef, nI_div (by decide) (by omega) (by decide)]
    have em : mnI (nI 99) (u 8 + mnI (u 1) (u 11) * q i 1 / nI 100 / nI 2) = nI (min 99 (a8 + min a1 a11 * s / 100 / 2)) := by rw [eh, e8, nI_add, nI_min (by omega) (by omega)]
    have e5 : u 11 - mnI (u 1) (u 11) = nI (a11 - min a1 a11) := by rw [ep, e11, nI_sub (by omega)]
    unfold monthA at hw ⊢
    dsimp only at hw ⊢
    have q1 : ∀ a, a < n → bdI (uq q i 3 (q i 3 + (mnI (u 1) (u 11) - mnI (u 1) (u 11) * q i 1 / nI 100)) a 1) 100 := fun a ha => by
      rw [uq_k (by decide)]
      exact sh a ha
    split
    · rename_i c
      rw [if_pos c] at hw
      exact ⟨hw, m3, ⟨_, em, by omega⟩, ⟨_, e5, by omega⟩, ⟨a1, e1, h1⟩, m13, m2, q1⟩
    · rename_i c
      rw [if_neg c] at hw
      exact ⟨hw, m3, ⟨_, em, by omega⟩, ⟨_, e5, by omega⟩, ⟨a1, e1, h1⟩, m13, m2, q1⟩
theorem mA_ok {K : Nat} {A : AS} (h : okA K A) (hK : K < 2 ^ 30) : okA K (mA A) := by
  unfold mA
  split
  · exact monthA_ok h hK
  · exact h
theorem cp50_bd {x : Int32} (h : bdI x 99) : bdI (x + cpI (nI 50) x) 99 := by
  obtain ⟨a, rfl, ha⟩ := h
  by_cases c : nI a < nI 50
  · have := (nI_ltI (by omega) (by omega)).mp c
    rw [cp50.1 c]
    exact ⟨a + 1, nI_add a 1, by omega⟩
  · by_cases c2 : nI 50 < nI a
    · have := (nI_ltI (by omega) (by omega)).mp c2
      rw [cp50.2.1 c c2, nI_m1 (by omega)]
      exact ⟨a - 1, rfl, by omega⟩
    · rw [cp50.2.2 c c2]
      exact ⟨a + 0, nI_add a 0, by omega⟩
theorem eA_ok {K : Nat} {A : AS} (h : okA K A) : okA K (eA A) := by
  have hw := eA_wf h.1
  obtain ⟨n, _ | i, t, u, q⟩ := A
  · obtain ⟨w, m3, m8, rest⟩ := h
    exact ⟨hw, m3, cp50_bd m8, rest⟩
  · obtain ⟨w, m3, m8, m11, m1, m13, m2, sh⟩ := h
    refine ⟨hw, m3, cp50_bd m8, m11, m1, m13, m2, fun a ha => ?_⟩
    show bdI (uq q i 5 (q i 5 + nI 1) a 1) 100
    rw [uq_k (by decide)]
    exact sh a ha
theorem dayA_ok {K : Nat} {A : AS} (h : okA K A) (hK : K + 1 < 2 ^ 30) : okA (K + 1) (dayA A) := eA_ok (mA_ok (hA_ok (nA_ok h)) hK)
theorem itA_ok {K : Nat} {A : AS} (h : okA K A) : ∀ k, K + k < 2 ^ 30 → okA (K + k) (itA k A)
  | 0, _ => h
  | k + 1, hk => dayA_ok (itA_ok h k (by omega)) (by omega)
/-- how often the cat purrs in k days -/
def pcN (A : AS) (k : Nat) : Nat := match k with
  | 0 => 0
  | k + 1 => if dayR (itA k A) = none then pcN A k else pcN A k + 1
theorem monthA_13 {A : AS} : (monthA A).2.2.2.1 13 = A.2.2.2.1 13 := by
  obtain ⟨n, _ | j, t, u, q⟩ := A
  · rfl
  · unfold monthA
    dsimp only
    split <;> rfl
theorem dayA_13 {A : AS} : (dayA A).2.2.2.1 13 = A.2.2.2.1 13 + hB (dayR A) := by
  have e1 : (dayA A).2.2.2.1 13 = (mA (hA (nA A)).1).2.2.2.1 13 := by
    unfold dayA
    generalize mA (hA (nA A)).1 = B
    obtain ⟨n, _ | i, t, u, q⟩ := B <;> rfl
  have e2 : (mA (hA (nA A)).1).2.2.2.1 13 = (hA (nA A)).1.2.2.2.1 13 := by
    unfold mA
    split
    · exact monthA_13
    · rfl
  rw [e1, e2]
  unfold dayR
  obtain ⟨n, _ | i, t, u, q⟩ := A
  · show (holdA n t _ q).1.2.2.2.1 13 = u 13 + hB (holdA n t _ q).2
    unfold holdA
    split
    · exact (Int32.add_zero _).symm
    · split
      · exact (Int32.add_zero _).symm
      · rfl
  · exact (Int32.add_zero _).symm
theorem pcN_13 {A : AS} : ∀ k, (itA k A).2.2.2.1 13 = A.2.2.2.1 13 + nI (pcN A k)
  | 0 => (Int32.add_zero _).symm
  | k + 1 => by
    rw [itA, dayA_13, pcN_13 k, pcN]
    cases dayR (itA k A) with
    | none => rw [if_pos rfl]; exact Int32.add_zero _
    | some j => rw [if_neg (by simp), Int32.add_assoc]; exact congrArg _ (nI_add _ 1)
theorem pcN_sub {A : AS} {k : Nat} : (itA k A).2.2.2.1 13 - A.2.2.2.1 13 = nI (pcN A k) := by
  rw [pcN_13, Int32.add_comm, Int32.add_sub_cancel]
theorem moveA_ok {K : Nat} {A : AS} {x y : Nat} (h : okA K A) (hx : x < A.1) (hy : y < A.1) : okA K (moveA A x y) := by
  have hw := moveA_wf h.1 hx hy
  obtain ⟨n, g, t, u, q⟩ := A
  obtain ⟨w, m3, m8, m11, m1, m13, m2, sh⟩ := h
  exact ⟨hw, m3, m8, m11, m1, m13, m2, fun a ha => sh _ (mvI_lt hx hy ha)⟩
end
section
/-- on the day of a purr there is no guardian, and who gets it holds out the hand -/
theorem dayR_s {A : AS} {j : Nat} (h : dayR A = some j) : A.2.1 = none ∧ hand A.1 A.2.2.1 A.2.2.2.1 A.2.2.2.2 = some j := by
  obtain ⟨n, _ | i, t, u, q⟩ := A
  · refine ⟨rfl, ?_⟩
    have h2 : (holdA n t (upd u 6 (u 6 + nI 1)) q).2 = some j := h
    have e : hand n t (upd u 6 (u 6 + nI 1)) q = hand n t u q := handF_6 n t
    unfold holdA at h2
    rw [e] at h2
    show hand n t u q = some j
    split at h2
    · cases h2
    · rename_i j1 hj
      split at h2
      · cases h2
      · cases h2
        exact hj
  · cases (show (none : Option Nat) = some j from h)
theorem had_lt {K : Nat} {A : AS} {j : Nat} (h : okA K A) (hK : K < 2 ^ 30) (hr : dayR A = some j) : A.2.2.2.1 13 < (dayA A).2.2.2.1 13 := by
  obtain ⟨a, e, ha⟩ := h.2.2.2.2.2.1
  rw [dayA_13, hr, e]
  show nI a < nI a + nI 1
  rw [nI_add]
  exact (nI_ltI (by omega) (by omega)).mpr (by omega)
end
section
theorem setA_ok {K i : Nat} {A : AS} {v : Int32} (h : okA K A) (hi : i < 6) (hv : ¬ (v < stV 1 i ∨ stV 2 i < v)) : okA K (setA A i v) := by
  obtain ⟨w, m3, m8, m11, m1, m13, m2, sh⟩ := h
  have lo : ¬ v < stV 1 i := fun q => hv (Or.inl q)
  have hi2 : v ≤ stV 2 i := Int32.not_lt.mp (fun q => hv (Or.inr q))
  have key : ∀ j, j ≠ i → upd A.2.2.2.1 i v j = A.2.2.2.1 j := fun j hj => upd_n hj
  refine ⟨w, ?_, ?_, ?_, ?_, ?_, ?_, sh⟩
  · show ∃ a : Nat, upd A.2.2.2.1 i v 3 = nI a ∧ 1 ≤ a ∧ a ≤ 40
    by_cases c : i = 3
    · subst c
      rw [upd_s]
      obtain ⟨j, j1, j2, e⟩ := rngI (a := 5) (b := 40) (by decide) (by decide) lo hi2
      exact ⟨j, e, by omega, j2⟩
    · rw [key 3 (Ne.symm c)]; exact m3
  · show bdI (upd A.2.2.2.1 i v 8) 99
    rw [key 8 (by omega)]; exact m8
  · show bdI (upd A.2.2.2.1 i v 11) K
    rw [key 11 (by omega)]; exact m11
  · show bdI (upd A.2.2.2.1 i v 1) 200
    by_cases c : i = 1
    · subst c
      rw [upd_s]
      obtain ⟨j, j1, j2, e⟩ := rngI (a := 0) (b := 200) (by decide) (by decide) lo hi2
      exact ⟨j, e, j2⟩
    · rw [key 1 (Ne.symm c)]; exact m1
  · show bdI (upd A.2.2.2.1 i v 13) K
    rw [key 13 (by omega)]; exact m13
  · show bdI (upd A.2.2.2.1 i v 2) 99
    by_cases c : i = 2
    · subst c
      rw [upd_s]
      obtain ⟨j, j1, j2, e⟩ := rngI (a := 0) (b := 99) (by decide) (by decide) lo hi2
      exact ⟨j, e, j2⟩
    · rw [key 2 (Ne.symm c)]; exact m2
theorem admA_ok {K : Nat} {A : AS} {w s : Int32} (h : okA K A) (hn : A.1 < 8) (hs : bdI s 100) : okA K (admA A w s) := by
  obtain ⟨n, g, t, u, q⟩ := A
  obtain ⟨⟨w1, w2, w3⟩, m3, m8, m11, m1, m13, m2, sh⟩ := h
  have hn : n < 8 := hn
  have w3 : t < n ∨ t = 0 := w3
  refine ⟨⟨show n + 1 ≤ 8 by omega, fun i hi => by have h9 : i < n := w2 i hi; show i < n + 1; omega, show t < n + 1 ∨ t = 0 by omega⟩, m3, m8, m11, m1, m13, m2, fun a ha => ?_⟩
  have ha : a < n + 1 := ha
  show bdI (if a = n then (if 1 = 0 then w else if 1 = 1 then s else 0) else q a 1) 100
  by_cases e : a = n
  · rw [if_pos e]; exact hs
  · rw [if_neg e]; exact sh a (show a < n by omega)
theorem lvA_ok {K i : Nat} {A : AS} (h : okA K A) (hi : A.2.1 = some i) : okA K (lvA A i) := by
  obtain ⟨⟨w1, w2, w3⟩, rest⟩ := h
  have := w2 i hi
  exact ⟨⟨w1, fun j hj => (by cases hj), Or.inl (bh_lt (show 0 < A.1 by omega))⟩, rest⟩
theorem appA_ok {K i j : Nat} {A : AS} (h : okA K A) (hK : K < 2 ^ 29) (hi : i < A.1) (hj : j < A.1) : okA (K + 100) (appA A.1 i A.2.2.1 A.2.2.2.1 A.2.2.2.2 j).1 := by
  obtain ⟨n, g, t, u, q⟩ := A
  obtain ⟨⟨w1, w2, w3⟩, m3, m8, ⟨a, ea, ha⟩, m1, m13, ⟨b, eb, hb⟩, sh⟩ := h
  have e11 : bdI (u 11 + u 2) (K + 100) := ⟨a + b, by rw [show u 11 = nI a from ea, show u 2 = nI b from eb, nI_add], by omega⟩
  unfold appA
  dsimp only
  split
  · refine ⟨⟨w1, fun k hk => (by cases hk), Or.inl hj⟩, m3, m8, e11, m1, m13.up (by omega), ⟨b, eb, hb⟩, fun k hk => ?_⟩
    show bdI (uq q j 3 (q j 3 - u 2) k 1) 100
    rw [uq_k (by decide)]
    exact sh k hk
  · refine ⟨⟨w1, fun k hk => (by cases hk; exact hi), w3⟩, m3, m8, e11, m1, m13.up (by omega), ⟨b, eb, hb⟩, fun k hk => ?_⟩
    show bdI (uq (uq q j 3 (q j 3 - u 2)) j 2 (q j 2 + nI 1) k 1) 100
    rw [uq_k (by decide), uq_k (by decide)]
    exact sh k hk
end
section
/-! sums over the people, and what the law's checks rest on -/
def sF (q : Nat → Nat → Int32) (k m : Nat) : Int32 := match m with
  | 0 => nI 0
  | j + 1 => sF q k j + q j k
theorem sumP_sF {q : Nat → Nat → Int32} : ∀ m, sumP q m = sF q 3 m
  | 0 => rfl
  | m + 1 => by rw [sumP, sF, sumP_sF m]
theorem sF_eq {q q1 : Nat → Nat → Int32} {k : Nat} : ∀ m, (∀ a, a < m → q1 a k = q a k) → sF q1 k m = sF q k m
  | 0, _ => rfl
  | m + 1, h => by rw [sF, sF, sF_eq m (fun a ha => h a (by omega)), h m (by omega)]
theorem sF_uqk {q : Nat → Nat → Int32} {j k k2 : Nat} {v : Int32} (h : k2 ≠ k) (m : Nat) : sF (uq q j k v) k2 m = sF q k2 m := sF_eq m (fun a _ => uq_k h)
theorem sF_uqs {q : Nat → Nat → Int32} {j k : Nat} {d : Int32} : ∀ m, j < m → sF (uq q j k (q j k + d)) k m = sF q k m + d
  | 0, h => by omega
  | m + 1, h => by
    rw [sF, sF]
    by_cases e : m = j
    · subst e
      rw [uq_s, sF_eq m (fun a ha => uq_j (by omega)), Int32.add_assoc]
    · rw [sF_uqs m (by omega), uq_j e, Int32.add_assoc, Int32.add_assoc, Int32.add_comm d]
theorem mvI_y {x y : Nat} : mvI x y y = x := by
  unfold mvI
  rw [if_pos rfl]
theorem mvI_up1 {x y a : Nat} (h : x ≤ a) (h2 : a < y) : mvI x y a = a + 1 := by
  unfold mvI
  rw [if_neg (by omega), if_pos ⟨h, h2⟩]
theorem mvI_dn1 {x y a : Nat} (h : y < a) (h2 : a ≤ x) : mvI x y a = a - 1 := by
  unfold mvI
  rw [if_neg (by omega), if_neg (by omega), if_pos ⟨h, h2⟩]
theorem mvI_out {x y a : Nat} (h : (a < x ∧ a < y) ∨ (x < a ∧ y < a)) : mvI x y a = a := by
  unfold mvI
  rw [if_neg (by omega), if_neg (by omega), if_neg (by omega)]
theorem mv_mv {x y p : Nat} : mvI x y (mvP p x y) = p := by
  unfold mvI mvP
  split <;> split <;> (repeat' split) <;> omega
theorem sF_mvU {q : Nat → Nat → Int32} {x y k : Nat} (hxy : x ≤ y) : ∀ m, (m ≤ x → sF (fun a b => q (mvI x y a) b) k m = sF q k m) ∧ (x < m → m ≤ y → sF (fun a b => q (mvI x y a) b) k m + q x k = sF q k (m + 1)) ∧ (y < m → sF (fun a b => q (mvI x y a) b) k m = sF q k m)
  | 0 => ⟨fun _ => rfl, fun h => by omega, fun h => by omega⟩
  | m + 1 => by
    obtain ⟨i1, i2, i3⟩ := sF_mvU hxy m (q := q) (k := k)
    have e0 : sF (fun a b => q (mvI x y a) b) k (m + 1) = sF (fun a b => q (mvI x y a) b) k m + q (mvI x y m) k := rfl
    have e1 : sF q k (m + 1) = sF q k m + q m k := rfl
    have e2 : sF q k (m + 1 + 1) = sF q k m + q m k + q (m + 1) k := rfl
    refine ⟨fun h => ?_, fun h1 h2 => ?_, fun h => ?_⟩
    · rw [e0, e1, i1 (by omega), mvI_out (by omega)]
    · rw [e0, e2, mvI_up1 (by omega) (by omega)]
      by_cases c : m = x
      · subst c
        rw [i1 (by omega), Int32.add_assoc, Int32.add_comm (q (m + 1) k), Int32.add_assoc]
      · rw [Int32.add_assoc, Int32.add_comm (q (m + 1) k), ← Int32.add_assoc, i2 (by omega) (by omega), e1]
    · by_cases c : m = y
      · subst c
        rw [e0, mvI_y]
        by_cases c2 : x = m
        · subst c2
          rw [i1 (by omega), e1]
        · rw [i2 (by omega) (by omega)]
      · rw [e0, e1, i3 (by omega), mvI_out (by omega)]
theorem sF_mvD {q : Nat → Nat → Int32} {x y k : Nat} (hxy : y < x) : ∀ m, (m ≤ y → sF (fun a b => q (mvI x y a) b) k m = sF q k m) ∧ (y < m → m ≤ x → sF (fun a b => q (mvI x y a) b) k m = sF q k (m - 1) + q x k) ∧ (x < m → sF (fun a b => q (mvI x y a) b) k m = sF q k m)
  | 0 => ⟨fun _ => rfl, fun h => by omega, fun h => by omega⟩
  | m + 1 => by
    obtain ⟨i1, i2, i3⟩ := sF_mvD hxy m (q := q) (k := k)
    have e0 : sF (fun a b => q (mvI x y a) b) k (m + 1) = sF (fun a b => q (mvI x y a) b) k m + q (mvI x y m) k := rfl
    have e1 : sF q k (m + 1) = sF q k m + q m k := rfl
    have e3 : 1 ≤ m → sF q k m = sF q k (m - 1) + q (m - 1) k := fun h => by
      obtain ⟨p, rfl⟩ : ∃ p, m = p + 1 := ⟨m - 1, by omega⟩
      rfl
    refine ⟨fun h => ?_, fun h1 h2 => ?_, fun h => ?_⟩
    · rw [e0, e1, i1 (by omega), mvI_out (by omega)]
    · rw [e0, Nat.add_sub_cancel]
      by_cases c : m = y
      · subst c
        rw [i1 (by omega), mvI_y]
      · rw [i2 (by omega) (by omega), mvI_dn1 (by omega) (by omega), e3 (by omega), Int32.add_assoc, Int32.add_comm (q x k), ← Int32.add_assoc]
    · by_cases c : m = x
      · subst c
        rw [e0, e1, i2 (by omega) (by omega), mvI_dn1 (by omega) (by omega), e3 (by omega), Int32.add_assoc, Int32.add_comm (q m k), ← Int32.add_assoc]
      · rw [e0, e1, i3 (by omega), mvI_out (by omega)]
theorem sF_mv {q : Nat → Nat → Int32} {x y k n : Nat} (hx : x < n) (hy : y < n) : sF (fun a b => q (mvI x y a) b) k n = sF q k n := by
  by_cases c : x ≤ y
  · exact (sF_mvU c n).2.2 hy
  · exact (sF_mvD (by omega) n).2.2 hx
theorem rg1 {x m s y : Int32} : x - m + s + (y + m) = x + s + y := by
  rw [Int32.sub_eq_add_neg, show x + -m + s + (y + m) = (x + s + y) + (-m + m) by ac_rfl, Int32.add_left_neg, Int32.add_zero]
theorem rg2 {x p s f y : Int32} : x - p + (s + (p - f)) + (y + f) = x + s + y := by
  rw [Int32.sub_eq_add_neg, Int32.sub_eq_add_neg, show x + -p + (s + (p + -f)) + (y + f) = (x + s + y) + (-p + p) + (-f + f) by ac_rfl, Int32.add_left_neg, Int32.add_left_neg, Int32.add_zero, Int32.add_zero]
theorem rg3 {x c s y : Int32} : x + c + (s + (-c)) + y = x + s + y := by
  rw [show x + c + (s + -c) + y = (x + s + y) + (-c + c) by ac_rfl, Int32.add_left_neg, Int32.add_zero]
theorem rg4 {x v s y z w : Int32} (h : x + s + y = z + w) : x + v + s + y = z + (w + v) := by
  rw [show x + v + s + y = (x + s + y) + v by ac_rfl, h, Int32.add_assoc]
def iw (e K : Nat) (A : AS) : Prop := A.2.2.2.1 12 = sF A.2.2.2.2 2 A.1 ∧ A.2.2.2.1 13 = sF A.2.2.2.2 4 A.1 ∧ A.2.2.2.1 11 + sF A.2.2.2.2 3 A.1 + A.2.2.2.1 15 = nI 1000 + A.2.2.2.1 16 ∧ (∃ a d : Nat, sF A.2.2.2.2 5 A.1 = nI a ∧ A.2.2.2.1 6 = nI d ∧ a + e ≤ d ∧ d ≤ K) ∧ (∀ j, j < A.1 → bdI (A.2.2.2.2 j 3) (200 * K) ∧ bdI (A.2.2.2.2 j 4) K ∧ bdI (A.2.2.2.2 j 2) 9 ∧ bdI (A.2.2.2.2 j 0) 9) ∧ bdI (A.2.2.2.1 4) 9
theorem iw.up {e K K2 : Nat} {A : AS} (h : iw e K A) (hk : K ≤ K2) : iw e K2 A := by
  obtain ⟨h1, h2, h3, ⟨a, d, ea, ed, he, hd⟩, h5, h6⟩ := h
  exact ⟨h1, h2, h3, ⟨a, d, ea, ed, he, by omega⟩, fun j hj => ⟨(h5 j hj).1.up (by omega), (h5 j hj).2.1.up hk, (h5 j hj).2.2⟩, h6⟩
theorem nA_iw {K : Nat} {A : AS} (h : iw 0 K A) : iw 1 (K + 1) (nA A) := by
  obtain ⟨n, g, t, u, q⟩ := A
  obtain ⟨h1, h2, h3, ⟨a, d, ea, ed, he, hd⟩, h5, h6⟩ := h
  refine ⟨h1, h2, h3, ⟨a, d + 1, ea, ?_, by omega, by omega⟩, fun j hj => ⟨(h5 j hj).1.up (by omega), (h5 j hj).2.1.up (by omega), (h5 j hj).2.2⟩, h6⟩
  show u 6 + nI 1 = nI (d + 1)
  rw [show u 6 = nI d from ed, nI_add]
theorem handF_nb {n : Nat} {u : Nat → Int32} {q : Nat → Nat → Int32} : ∀ (k t j : Nat), handF n u q t k = some j → q j 2 < u 4
  | 0, _, _, h => by simp [handF] at h
  | k + 1, t, j, h => by
    rw [handF] at h
    split at h
    · rename_i c
      cases h
      exact c
    · exact handF_nb k _ j h
theorem hA_iw {K : Nat} {A : AS} (w : wfA A) (h : iw 1 K A) : iw 1 (K + 1) (hA A).1 := by
  have h0 := h.up (show K ≤ K + 1 by omega)
  obtain ⟨n, _ | i, t, u, q⟩ := A
  · obtain ⟨h1, h2, h3, ⟨a, d, ea, ed, he, hd⟩, h5, ⟨b4, e4, hb4⟩⟩ := h
    change u 12 = sF q 2 n at h1
    change u 13 = sF q 4 n at h2
    change u 11 + sF q 3 n + u 15 = nI 1000 + u 16 at h3
    change sF q 5 n = nI a at ea
    show iw 1 (K + 1) (holdA n t u q).1
    unfold holdA
    split
    · exact h0
    · rename_i j hj
      have hjn : j < n := hand_lt w.2.2 hj
      split
      · refine ⟨?_, ?_, ?_, ⟨a, d, ?_, ed, he, by omega⟩, fun i hi => ⟨?_, ?_, ?_, ?_⟩, ⟨b4, e4, hb4⟩⟩
        · show u 12 + nI 1 = sF (uq q j 2 (q j 2 + nI 1)) 2 n
          rw [sF_uqs n hjn, h1]
        · show u 13 = sF (uq q j 2 (q j 2 + nI 1)) 4 n
          rw [sF_uqk (by decide), h2]
        · show u 11 + sF (uq q j 2 (q j 2 + nI 1)) 3 n + u 15 = nI 1000 + u 16
          rw [sF_uqk (by decide), h3]
        · show sF (uq q j 2 (q j 2 + nI 1)) 5 n = nI a
          rw [sF_uqk (by decide), ea]
        · show bdI (uq q j 2 (q j 2 + nI 1) i 3) _
          rw [uq_k (by decide)]
          exact (h5 i hi).1.up (by omega)
        · show bdI (uq q j 2 (q j 2 + nI 1) i 4) _
          rw [uq_k (by decide)]
          exact (h5 i hi).2.1.up (by omega)
        · show bdI (uq q j 2 (q j 2 + nI 1) i 2) _
          by_cases c : i = j
          · subst c
            rw [uq_s]
            have hb : q i 2 < u 4 := handF_nb _ _ _ hj
            obtain ⟨b, eb, hb9⟩ := (h5 i hi).2.2.1
            change q i 2 = nI b at eb
            change u 4 = nI b4 at e4
            rw [eb, e4] at hb
            have := (nI_ltI (by omega) (by omega)).mp hb
            exact ⟨b + 1, by rw [eb, nI_add], by omega⟩
          · rw [uq_j c]
            exact (h5 i hi).2.2.1
        · show bdI (uq q j 2 (q j 2 + nI 1) i 0) _
          rw [uq_k (by decide)]
          exact (h5 i hi).2.2.2
      · refine ⟨?_, ?_, ?_, ⟨a, d, ?_, ed, he, by omega⟩, fun i hi => ⟨?_, ?_, ?_, ?_⟩, ⟨b4, e4, hb4⟩⟩
        · show u 12 = sF (uq q j 4 (q j 4 + nI 1)) 2 n
          rw [sF_uqk (by decide), h1]
        · show u 13 + nI 1 = sF (uq q j 4 (q j 4 + nI 1)) 4 n
          rw [sF_uqs n hjn, h2]
        · show u 11 + sF (uq q j 4 (q j 4 + nI 1)) 3 n + u 15 = nI 1000 + u 16
          rw [sF_uqk (by decide), h3]
        · show sF (uq q j 4 (q j 4 + nI 1)) 5 n = nI a
          rw [sF_uqk (by decide), ea]
        · show bdI (uq q j 4 (q j 4 + nI 1) i 3) _
          rw [uq_k (by decide)]
          exact (h5 i hi).1.up (by omega)
        · show bdI (uq q j 4 (q j 4 + nI 1) i 4) _
          obtain ⟨b, eb, hb9⟩ := (h5 i hi).2.1
          change q i 4 = nI b at eb
          by_cases c : i = j
          · subst c
            rw [uq_s]
            exact ⟨b + 1, by rw [eb, nI_add], by omega⟩
          · rw [uq_j c]
            exact ⟨b, eb, by omega⟩
        · show bdI (uq q j 4 (q j 4 + nI 1) i 2) _
          rw [uq_k (by decide)]
          exact (h5 i hi).2.2.1
        · show bdI (uq q j 4 (q j 4 + nI 1) i 0) _
          rw [uq_k (by decide)]
          exact (h5 i hi).2.2.2
  · exact h0
theorem monthA_iw {K : Nat} {A : AS} (ok : okA K A) (hK : K < 2 ^ 30) (h : iw 1 K A) : iw 1 (K + 1) (monthA A) := by
  obtain ⟨n, _ | i, t, u, q⟩ := A
  · have h0 := h.up (show K ≤ K + 1 by omega)
    obtain ⟨h1, h2, h3, h4, h5, h6⟩ := h0
    refine ⟨h1, h2, ?_, h4, h5, h6⟩
    show u 11 - mnI (u 1 / nI 2) (u 11) + sF q 3 n + (u 15 + mnI (u 1 / nI 2) (u 11)) = nI 1000 + u 16
    rw [rg1]
    exact h3
  · obtain ⟨w, m3, ⟨a8, e8, h8⟩, ⟨a11, e11, h11⟩, ⟨a1, e1, h1⟩, m13, m2, sh⟩ := ok
    change u 11 = nI a11 at e11
    change u 1 = nI a1 at e1
    have hin : i < n := w.2.1 i rfl
    obtain ⟨s, es, hs⟩ := sh i hin
    change q i 1 = nI s at es
    have hmul : min a1 a11 * s ≤ min a1 a11 * 100 := Nat.mul_le_mul (Nat.le_refl _) hs
    have ep : mnI (u 1) (u 11) = nI (min a1 a11) := by rw [e1, e11, nI_min (by omega) (by omega)]
    have ef : mnI (u 1) (u 11) * q i 1 / nI 100 = nI (min a1 a11 * s / 100) := by rw [ep, es, nI_mul, nI_div (by decide) (by omega) (by decide)]
    have hg : min a1 a11 * s / 100 ≤ min a1 a11 := by omega
    have ed : mnI (u 1) (u 11) - mnI (u 1) (u 11) * q i 1 / nI 100 = nI (min a1 a11 - min a1 a11 * s / 100) := by rw [ef, ep, nI_sub hg]
    have k200 : min a1 a11 - min a1 a11 * s / 100 ≤ 200 := by omega
    obtain ⟨g1, g2, g3, ⟨a, d, ea, edd, he, hd⟩, g5, g6⟩ := h
    change u 12 = sF q 2 n at g1
    change u 13 = sF q 4 n at g2
    change u 11 + sF q 3 n + u 15 = nI 1000 + u 16 at g3
    change sF q 5 n = nI a at ea
    have c1 : u 12 = sF (uq q i 3 (q i 3 + (mnI (u 1) (u 11) - mnI (u 1) (u 11) * q i 1 / nI 100))) 2 n := by rw [sF_uqk (by decide), g1]
    have c2 : u 13 = sF (uq q i 3 (q i 3 + (mnI (u 1) (u 11) - mnI (u 1) (u 11) * q i 1 / nI 100))) 4 n := by rw [sF_uqk (by decide), g2]
    have c3 : u 11 - mnI (u 1) (u 11) + sF (uq q i 3 (q i 3 + (mnI (u 1) (u 11) - mnI (u 1) (u 11) * q i 1 / nI 100))) 3 n + (u 15 + mnI (u 1) (u 11) * q i 1 / nI 100) = nI 1000 + u 16 := by rw [sF_uqs n hin, rg2, g3]
    have c4 : sF (uq q i 3 (q i 3 + (mnI (u 1) (u 11) - mnI (u 1) (u 11) * q i 1 / nI 100))) 5 n = nI a := by rw [sF_uqk (by decide), ea]
    have c5 : ∀ j, j < n → bdI (uq q i 3 (q i 3 + (mnI (u 1) (u 11) - mnI (u 1) (u 11) * q i 1 / nI 100)) j 3) (200 * (K + 1)) ∧ bdI (uq q i 3 (q i 3 + (mnI (u 1) (u 11) - mnI (u 1) (u 11) * q i 1 / nI 100)) j 4) (K + 1) ∧ bdI (uq q i 3 (q i 3 + (mnI (u 1) (u 11) - mnI (u 1) (u 11) * q i 1 / nI 100)) j 2) 9 ∧ bdI (uq q i 3 (q i 3 + (mnI (u 1) (u 11) - mnI (u 1) (u 11) * q i 1 / nI 100)) j 0) 9 := fun j hj => by
      rw [uq_k (show 4 ≠ 3 by decide), uq_k (show 2 ≠ 3 by decide), uq_k (show 0 ≠ 3 by decide)]
      refine ⟨?_, (g5 j hj).2.1.up (by omega), (g5 j hj).2.2⟩
      obtain ⟨b, eb, hb⟩ := (g5 j hj).1
      change q j 3 = nI b at eb
      by_cases c : j = i
      · subst c
        rw [uq_s, ed, eb, nI_add]
        exact ⟨_, rfl, by omega⟩
      · rw [uq_j c]
        exact ⟨b, eb, by omega⟩
    unfold monthA
    dsimp only
    split
    · exact ⟨c1, c2, c3, ⟨a, d, c4, edd, he, by omega⟩, c5, g6⟩
    · exact ⟨c1, c2, c3, ⟨a, d, c4, edd, he, by omega⟩, c5, g6⟩
theorem mA_iw {K : Nat} {A : AS} (ok : okA K A) (hK : K < 2 ^ 30) (h : iw 1 K A) : iw 1 (K + 1) (mA A) := by
  unfold mA
  split
  · exact monthA_iw ok hK h
  · exact h.up (by omega)
theorem eA_iw {K : Nat} {A : AS} (w : wfA A) (h : iw 1 K A) : iw 0 K (eA A) := by
  obtain ⟨n, _ | i, t, u, q⟩ := A
  · obtain ⟨h1, h2, h3, ⟨a, d, ea, ed, he, hd⟩, h5, h6⟩ := h
    exact ⟨h1, h2, h3, ⟨a, d, ea, ed, by omega, hd⟩, h5, h6⟩
  · have hin : i < n := w.2.1 i rfl
    obtain ⟨g1, g2, g3, ⟨a, d, ea, ed, he, hd⟩, g5, g6⟩ := h
    change u 12 = sF q 2 n at g1
    change u 13 = sF q 4 n at g2
    change u 11 + sF q 3 n + u 15 = nI 1000 + u 16 at g3
    change sF q 5 n = nI a at ea
    refine ⟨?_, ?_, ?_, ⟨a + 1, d, ?_, ed, by omega, hd⟩, fun j hj => ?_, g6⟩
    · show u 12 = sF (uq q i 5 (q i 5 + nI 1)) 2 n
      rw [sF_uqk (by decide), g1]
    · show u 13 = sF (uq q i 5 (q i 5 + nI 1)) 4 n
      rw [sF_uqk (by decide), g2]
    · show u 11 + sF (uq q i 5 (q i 5 + nI 1)) 3 n + u 15 = nI 1000 + u 16
      rw [sF_uqk (by decide), g3]
    · show sF (uq q i 5 (q i 5 + nI 1)) 5 n = nI (a + 1)
      rw [sF_uqs n hin, ea, nI_add]
    · show bdI (uq q i 5 (q i 5 + nI 1) j 3) _ ∧ bdI (uq q i 5 (q i 5 + nI 1) j 4) _ ∧ bdI (uq q i 5 (q i 5 + nI 1) j 2) _ ∧ bdI (uq q i 5 (q i 5 + nI 1) j 0) _
      rw [uq_k (by decide), uq_k (by decide), uq_k (by decide), uq_k (by decide)]
      exact g5 j hj
def iv (K : Nat) (A : AS) : Prop := okA K A ∧ iw 0 K A
theorem iv.up {K K2 : Nat} {A : AS} (h : iv K A) (hk : K ≤ K2) : iv K2 A := ⟨h.1.up hk, h.2.up hk⟩
theorem dayA_iv {K : Nat} {A : AS} (h : iv K A) (hK : K + 3 < 2 ^ 29) : iv (K + 3) (dayA A) := by
  refine ⟨(dayA_ok h.1 (by omega)).up (by omega), ?_⟩
  have a1 := nA_iw h.2
  have a2 := hA_iw (nA_wf h.1.1) a1
  have k2 : okA (K + 1 + 1) (hA (nA A)).1 := (hA_ok (nA_ok h.1)).up (by omega)
  have a3 := mA_iw k2 (by omega) a2
  exact eA_iw (mA_wf (hA_wf (nA_wf h.1.1))) a3
theorem itA_iv {K : Nat} {A : AS} (h : iv K A) : ∀ k, K + 3 * k < 2 ^ 29 → iv (K + 3 * k) (itA k A)
  | 0, _ => h
  | k + 1, hk => (dayA_iv (itA_iv h k (by omega)) (by omega)).up (by omega)
theorem itA_add {A : AS} (a : Nat) : ∀ b, itA (a + b) A = itA b (itA a A)
  | 0 => rfl
  | b + 1 => congrArg dayA (itA_add a b)
end
section
/-! the other changes keep the invariants -/
theorem setA_iv {K i : Nat} {A : AS} {v : Int32} (h : iv K A) (hi : i < 6) (hv : ¬ (v < stV 1 i ∨ stV 2 i < v)) : iv K (setA A i v) := by
  refine ⟨setA_ok h.1 hi hv, ?_⟩
  obtain ⟨h1, h2, h3, ⟨a, d, ea, ed, he, hd⟩, h5, h6⟩ := h.2
  have key : ∀ j, j ≠ i → upd A.2.2.2.1 i v j = A.2.2.2.1 j := fun j hj => upd_n hj
  refine ⟨?_, ?_, ?_, ⟨a, d, ea, ?_, he, hd⟩, h5, ?_⟩
  · show upd A.2.2.2.1 i v 12 = _
    rw [key 12 (by omega)]; exact h1
  · show upd A.2.2.2.1 i v 13 = _
    rw [key 13 (by omega)]; exact h2
  · show upd A.2.2.2.1 i v 11 + _ + upd A.2.2.2.1 i v 15 = _ + upd A.2.2.2.1 i v 16
    rw [key 11 (by omega), key 15 (by omega), key 16 (by omega)]; exact h3
  · show upd A.2.2.2.1 i v 6 = _
    rw [key 6 (by omega)]; exact ed
  · show bdI (upd A.2.2.2.1 i v 4) 9
    by_cases c : i = 4
    · subst c
      rw [upd_s]
      obtain ⟨j, j1, j2, e⟩ := rngI (a := 1) (b := 9) (by decide) (by decide) (fun q => hv (Or.inl q)) (Int32.not_lt.mp (fun q => hv (Or.inr q)))
      exact ⟨j, e, j2⟩
    · rw [key 4 (Ne.symm c)]; exact h6
theorem admA_iv {K : Nat} {A : AS} {w s : Int32} (h : iv K A) (hn : A.1 < 8) (hw : bdI w 9) (hs : bdI s 100) : iv K (admA A w s) := by
  refine ⟨admA_ok h.1 hn hs, ?_⟩
  obtain ⟨n, g, t, u, q⟩ := A
  obtain ⟨h1, h2, h3, ⟨a, d, ea, ed, he, hd⟩, h5, h6⟩ := h.2
  change u 12 = sF q 2 n at h1
  change u 13 = sF q 4 n at h2
  change u 11 + sF q 3 n + u 15 = nI 1000 + u 16 at h3
  change sF q 5 n = nI a at ea
  have key : ∀ k, 2 ≤ k → sF (fun a b => if a = n then (if b = 0 then w else if b = 1 then s else 0) else q a b) k (n + 1) = sF q k n := fun k hk => by
    show sF _ k n + (if n = n then (if k = 0 then w else if k = 1 then s else 0) else q n k) = _
    rw [if_pos rfl, if_neg (by omega), if_neg (by omega), Int32.add_zero]
    exact sF_eq n (fun a ha => if_neg (by omega))
  refine ⟨?_, ?_, ?_, ⟨a, d, ?_, ed, he, hd⟩, fun j hj => ?_, h6⟩
  · exact h1.trans (key 2 (by decide)).symm
  · exact h2.trans (key 4 (by decide)).symm
  · exact (congrArg (fun s => u 11 + s + u 15) (key 3 (by decide))).trans h3
  · exact (key 5 (by decide)).trans ea
  · have hj : j < n + 1 := hj
    show bdI (if j = n then (if 3 = 0 then w else if 3 = 1 then s else 0) else q j 3) _ ∧ bdI (if j = n then (if 4 = 0 then w else if 4 = 1 then s else 0) else q j 4) _ ∧ bdI (if j = n then (if 2 = 0 then w else if 2 = 1 then s else 0) else q j 2) _ ∧ bdI (if j = n then (if 0 = 0 then w else if 0 = 1 then s else 0) else q j 0) _
    by_cases c : j = n
    · rw [if_pos c, if_pos c, if_pos c, if_pos c]
      exact ⟨⟨0, rfl, by omega⟩, ⟨0, rfl, by omega⟩, ⟨0, rfl, by omega⟩, hw⟩
    · rw [if_neg c, if_neg c, if_neg c, if_neg c]
      exact h5 j (show j < n by omega)
theorem moveA_iv {K : Nat} {A : AS} {x y : Nat} (h : iv K A) (hx : x < A.1) (hy : y < A.1) : iv K (moveA A x y) := by
  refine ⟨moveA_ok h.1 hx hy, ?_⟩
  obtain ⟨n, g, t, u, q⟩ := A
  obtain ⟨h1, h2, h3, ⟨a, d, ea, ed, he, hd⟩, h5, h6⟩ := h.2
  refine ⟨?_, ?_, ?_, ⟨a, d, ?_, ed, he, hd⟩, fun j hj => h5 _ (mvI_lt hx hy hj), h6⟩
  · show u 12 = sF (fun a b => q (mvI x y a) b) 2 n
    rw [sF_mv hx hy]; exact h1
  · show u 13 = sF (fun a b => q (mvI x y a) b) 4 n
    rw [sF_mv hx hy]; exact h2
  · show u 11 + sF (fun a b => q (mvI x y a) b) 3 n + u 15 = nI 1000 + u 16
    rw [sF_mv hx hy]; exact h3
  · show sF (fun a b => q (mvI x y a) b) 5 n = nI a
    rw [sF_mv hx hy]; exact ea
theorem lvA_iv {K i : Nat} {A : AS} (h : iv K A) (hi : A.2.1 = some i) : iv K (lvA A i) := ⟨lvA_ok h.1 hi, h.2⟩
theorem givA_iv {K : Nat} {A : AS} {j : Nat} (h : iv K A) (h0 : 100000 ≤ K) (hK : K < 2 ^ 29) (hj : j < 10000) (c2 : ¬ nI 99999 < A.2.2.2.1 11 + nI j) : iv K (givA A (nI j)) := by
  obtain ⟨w, m3, m8, ⟨a, ea, ha⟩, m1, m13, m2, sh⟩ := h.1
  refine ⟨⟨w, m3, m8, ⟨a + j, ?_, ?_⟩, m1, m13, m2, sh⟩, ?_⟩
  · show A.2.2.2.1 11 + nI j = _
    rw [ea, nI_add]
  · rw [ea, nI_add] at c2
    have := (nI_leI (by omega) (by decide)).mp (Int32.not_lt.mp c2)
    omega
  · obtain ⟨h1, h2, h3, h4, h5, h6⟩ := h.2
    refine ⟨h1, h2, ?_, h4, h5, h6⟩
    show A.2.2.2.1 11 + nI j + sF A.2.2.2.2 3 A.1 + A.2.2.2.1 15 = nI 1000 + (A.2.2.2.1 16 + nI j)
    exact rg4 h3
theorem appA_iv {K i j : Nat} {A : AS} (h : iv K A) (hK : K < 2 ^ 29) (hi : i < A.1) (hj : j < A.1) (hb : A.2.2.2.2 j 2 < A.2.2.2.1 4) (hc : ¬ A.2.2.2.2 j 3 < A.2.2.2.1 2) : iv (K + 100) (appA A.1 i A.2.2.1 A.2.2.2.1 A.2.2.2.2 j).1 := by
  refine ⟨appA_ok h.1 hK hi hj, ?_⟩
  obtain ⟨w, m3, m8, m11, m1, m13, ⟨b2, e2, hb2⟩, sh⟩ := h.1
  have hw := h.2
  obtain ⟨n, g, t, u, q⟩ := A
  obtain ⟨h1, h2, h3, ⟨a, d, ea, ed, he, hd⟩, h5, ⟨b4, e4, hb4⟩⟩ := hw
  change u 12 = sF q 2 n at h1
  change u 13 = sF q 4 n at h2
  change u 11 + sF q 3 n + u 15 = nI 1000 + u 16 at h3
  change sF q 5 n = nI a at ea
  change u 4 = nI b4 at e4
  change u 2 = nI b2 at e2
  change q j 2 < u 4 at hb
  change ¬ q j 3 < u 2 at hc
  change j < n at hj
  obtain ⟨p, epp, hp⟩ := (h5 j hj).1
  change q j 3 = nI p at epp
  obtain ⟨s, es, hs9⟩ := (h5 j hj).2.2.1
  change q j 2 = nI s at es
  rw [es, e4] at hb
  have hs4 := (nI_ltI (by omega) (by omega)).mp hb
  rw [epp, e2] at hc
  have hpc : b2 ≤ p := Nat.not_lt.mp (fun q9 => hc ((nI_ltI (by omega) (by omega)).mpr q9))
  have eM : q j 3 - u 2 = q j 3 + (-u 2) := Int32.sub_eq_add_neg _ _
  have eS3 : sF (uq q j 3 (q j 3 - u 2)) 3 n = sF q 3 n + (-u 2) := by rw [eM, sF_uqs n hj]
  have eP : q j 3 - u 2 = nI (p - b2) := by rw [epp, e2, nI_sub hpc]
  unfold appA
  dsimp only
  split
  · refine ⟨?_, ?_, ?_, ⟨a, d, ?_, ed, he, by omega⟩, fun k hk => ?_, ⟨b4, e4, hb4⟩⟩
    · show u 12 = sF (uq q j 3 (q j 3 - u 2)) 2 n
      rw [sF_uqk (by decide)]; exact h1
    · show u 13 = sF (uq q j 3 (q j 3 - u 2)) 4 n
      rw [sF_uqk (by decide)]; exact h2
    · show u 11 + u 2 + sF (uq q j 3 (q j 3 - u 2)) 3 n + u 15 = nI 1000 + u 16
      rw [eS3, rg3]; exact h3
    · show sF (uq q j 3 (q j 3 - u 2)) 5 n = nI a
      rw [sF_uqk (by decide)]; exact ea
    · have hk : k < n := hk
      show bdI (uq q j 3 (q j 3 - u 2) k 3) _ ∧ bdI (uq q j 3 (q j 3 - u 2) k 4) _ ∧ bdI (uq q j 3 (q j 3 - u 2) k 2) _ ∧ bdI (uq q j 3 (q j 3 - u 2) k 0) _
      rw [uq_k (show 4 ≠ 3 by decide), uq_k (show 2 ≠ 3 by decide), uq_k (show 0 ≠ 3 by decide)]
      refine ⟨?_, (h5 k hk).2.1.up (by omega), (h5 k hk).2.2⟩
      by_cases c : k = j
      · subst c
        rw [uq_s, eP]
        exact ⟨_, rfl, by omega⟩
      · rw [uq_j c]
        exact (h5 k hk).1.up (by omega)
  · refine ⟨?_, ?_, ?_, ⟨a, d, ?_, ed, he, by omega⟩, fun k hk => ?_, ⟨b4, e4, hb4⟩⟩
    · show u 12 + nI 1 = sF (uq (uq q j 3 (q j 3 - u 2)) j 2 (q j 2 + nI 1)) 2 n
      have e9 : uq q j 3 (q j 3 - u 2) j 2 = q j 2 := uq_k (by decide)
      rw [← e9, sF_uqs n hj, sF_uqk (by decide), h1]
    · show u 13 = sF (uq (uq q j 3 (q j 3 - u 2)) j 2 (q j 2 + nI 1)) 4 n
      rw [sF_uqk (by decide), sF_uqk (by decide)]; exact h2
    · show u 11 + u 2 + sF (uq (uq q j 3 (q j 3 - u 2)) j 2 (q j 2 + nI 1)) 3 n + u 15 = nI 1000 + u 16
      rw [sF_uqk (by decide), eS3, rg3]; exact h3
    · show sF (uq (uq q j 3 (q j 3 - u 2)) j 2 (q j 2 + nI 1)) 5 n = nI a
      rw [sF_uqk (by decide), sF_uqk (by decide)]; exact ea
    · have hk : k < n := hk
      show bdI (uq (uq q j 3 (q j 3 - u 2)) j 2 (q j 2 + nI 1) k 3) _ ∧ bdI (uq (uq q j 3 (q j 3 - u 2)) j 2 (q j 2 + nI 1) k 4) _ ∧ bdI (uq (uq q j 3 (q j 3 - u 2)) j 2 (q j 2 + nI 1) k 2) _ ∧ bdI (uq (uq q j 3 (q j 3 - u 2)) j 2 (q j 2 + nI 1) k 0) _
      rw [uq_k (show 3 ≠ 2 by decide), uq_k (show 4 ≠ 2 by decide), uq_k (show 0 ≠ 2 by decide), uq_k (show 4 ≠ 3 by decide), uq_k (show 0 ≠ 3 by decide)]
      refine ⟨?_, (h5 k hk).2.1.up (by omega), ?_, (h5 k hk).2.2.2⟩
      · by_cases c : k = j
        · subst c
          rw [uq_s, eP]
          exact ⟨_, rfl, by omega⟩
        · rw [uq_j c]
          exact (h5 k hk).1.up (by omega)
      · by_cases c : k = j
        · subst c
          rw [uq_s, es, nI_add]
          exact ⟨_, rfl, by omega⟩
        · rw [uq_j c, uq_k (by decide)]
          exact (h5 k hk).2.2.1
theorem A0_iv {K : Nat} (h0 : 100000 ≤ K) : iv K A0 := by
  refine ⟨⟨⟨by decide, fun i hi => (by cases hi), Or.inr rfl⟩, ⟨28, rfl, by decide, by decide⟩, ⟨50, rfl, by decide⟩, ⟨1000, rfl, by omega⟩, ⟨30, rfl, by decide⟩, ⟨0, rfl, by omega⟩, ⟨10, rfl, by decide⟩, fun j hj => absurd hj (Nat.not_lt_zero _)⟩, ⟨rfl, rfl, rfl, ⟨0, 0, rfl, rfl, by decide, by omega⟩, fun j hj => absurd hj (Nat.not_lt_zero _), ⟨3, rfl, by decide⟩⟩⟩
end
section
/-! rows for the law -/
def VS2 (own : String) (idx : Nat) (y : MethodName) (cy : ByteArray) (ny : Nat) (ry : Option FieldType) (n : Nat) : Prop := (Cond.methodLink own idx y ∈ TW ∧ Cond.initialized y.cls ∈ TW ∧ Cond.code y cy ny ry ∈ TW ∧ y.cls ≠ "java/lang/invoke/MethodHandle" ∧ y.cls ≠ "java/lang/invoke/VarHandle" ∧ (parseMethodDescriptor y.desc).map (fun d => d.parameters.length) = some n ∧ ny ≤ 50) ∧ Cond.static y ∈ TW
theorem vw_L_78 : VS2 RL 78 yL_isDay cL_isDay 18 (some .boolean) 1 := ⟨⟨(tw_t 403 (by decide +kernel) (by decide +kernel)), (tw_t 0 (by decide +kernel) (by decide +kernel)), (tw_t 405 (by decide +kernel) (by decide +kernel)), (by decide +kernel), (by decide +kernel), (by decide +kernel), by decide⟩, (tw_t 404 (by decide +kernel) (by decide +kernel))⟩
abbrev RX : Type := Nat × (Nat → AS) × (Nat → Option AS) × Nat × (Nat → Nat)
theorem X_count_k {x : CX} {k : Nat} (h : k < 21) : X_count x (nI k) = cntN x k := by
  unfold X_count
  rw [if_pos (inR_nI h (by decide)), ixn (by omega)]
theorem X_person_k {x : CX} {j k : Nat} (hj : j < x.1.1) (n8 : x.1.1 ≤ 8) (h : k < 9) : X_person x (nI j) (nI k) = perN x.1 j k := by
  unfold X_person
  rw [if_pos (inR_nI hj (by omega)), if_pos (inR_nI h (by decide)), ixn (by omega), ixn (by omega)]
theorem X_person_n {x : CX} {j : Nat} {w : Int32} (hj : x.1.1 ≤ j) (h9 : j < 2 ^ 31) : X_person x (nI j) w = -1 := by
  unfold X_person
  rw [if_neg]
  intro c
  have := (nI_ltI h9 (by omega)).mp c.2
  omega
section ELw
variable {G : GG} {l : Launch} {X : CT} {Q : State → Prop} {d mc ms cs sl : Nat} {cc : ByteArray} {own : String} {nL : Nat} {ret : Option FieldType} {h : HP} {z pc : Nat} {lv : List (Nat × Value)} {st st0 : List Value} {b L : Nat} {xs : Nat → Int32}
theorem ex_sld {j : Nat} {x : Int32} (hX : va_X b L xs X.2.2.1 X.2.2.1.heap) (hbl : b < X.2.2.1.heap.size) (hbA : ¬ fr G b) (hx : x = nI j) (hj : j < L) (hn : L < 2 ^ 31) (dg : decode cc pc = .ok (.iaload, 1)) (k1 : ex G l X Q d mc ms cs sl cc own nL ret h z (pc + 1) lv (.int (xs j) :: st)) : ex G l X Q d mc ms cs sl cc own nL ret h z pc lv (.int x :: .ref b :: st) := by
  intro H locs ls F R S L0
  subst hx
  refine va_sld F.1 F.2.1 hX hbl hbA S (vp_in_nI hj hn) dg ?_
  rw [nI_c hj hn]
  exact k1 H locs ls F R S L0
theorem ex_slen (hX : va_X b L xs X.2.2.1 X.2.2.1.heap) (hbl : b < X.2.2.1.heap.size) (hbA : ¬ fr G b) (dg : decode cc pc = .ok (.arraylength, 1)) (k1 : ex G l X Q d mc ms cs sl cc own nL ret h z (pc + 1) lv (.int (nI L) :: st)) : ex G l X Q d mc ms cs sl cc own nL ret h z pc lv (.ref b :: st) := by
  intro H locs ls F R S L0
  exact va_slen F.1 F.2.1 hX hbl hbA S dg (k1 H locs ls F R S L0)
theorem ex_ishr {x y : Int32} (dg : decode cc pc = .ok (.ishr, 1)) (k1 : ∀ v : Int32, v = x >>> (y &&& 31) → ex G l X Q d mc ms cs sl cc own nL ret h z (pc + 1) lv (.int v :: st)) : ex G l X Q d mc ms cs sl cc own nL ret h z pc lv (.int y :: .int x :: st) :=
  fun H locs ls F R S L => lv_ishr F.1 F.2.1 dg (k1 _ rfl H locs ls F R S L)
theorem ex_callS2 {idx n d1 m1 s1 ny : Nat} {y : MethodName} {cy : ByteArray} {ry : Option FieldType} {As : List Value} {post : Option Value → HP → Nat → Prop} (V : VS2 own idx y cy ny ry n) (K : Ct G l d1 m1 s1 y cy ny ry As h z post) (hn : As.length = n) (hd : d1 + 2 ≤ d) (hst : (st.map fun v => v.category).sum ≤ 8) (hc : cs + m1 ≤ mc) (hs : sl + s1 ≤ ms) (stk : st0 = As.reverse ++ st) (dg : decode cc pc = .ok (.invokestatic idx, 3))
    (k1 : ∀ (r : Option Value) (h1 : HP) (z1 : Nat), post r h1 z1 → ex G l X Q d mc ms (cs + m1) (sl + s1) cc own nL ret h1 z1 (pc + 3) lv (r.toList ++ st)) : ex G l X Q d mc ms cs sl cc own nL ret h z pc lv st0 := by
  intro H locs ls F R S L
  obtain ⟨⟨v1, v2, v3, v4, v5, v6, v7⟩, v8⟩ := V
  have hts := F.2.2.2.2.1
  have hcw : CallB (rmx d mc ms) X.2.2.1 X.2.2.2.2.1 own idx y cy ny ry (Cond.code y cy ny ry :: TW) (rmx d1 m1 s1) m1 s1 n ∧ (Cond.static y).before X.2.2.2.2.1 X.2.2.1 = true :=
    ⟨callB_of n hts (tw_cons v3) rfl rfl rfl (hts _ v2) (hts _ v1) ⟨v4, v5, v6⟩ ⟨by show d1 + 1 ≤ d; omega, by show 8 + (ny + 11) + 36 * d1 ≤ 36 * d; omega⟩, hts _ v8⟩
  have hr := va_runS (p := X.1) (l := l) (e := X.2.1) (below := X.2.2.2.2.2.1) (meth := X.2.2.2.2.2.2.1) (H := H) (locs := locs) (cells := cs) (slots := sl) (g := F0 X.2.2.2.1 pc ls st0) (rest := st) (As := As) (nL := nL) (Ts := TW) (cc := cc) ⟨F.1, F.2.1, F.2.2.1, F.2.2.2.1, hts⟩ K hcw ⟨PC.blind, PC.pre F.2.2.2.2.2.2.2 S R⟩ rfl hn L.1 stk (lv_room hst) dg ⟨hc, hs⟩
  exact ex_behind F R S L hr k1
/-- a call of the object's, by its contract -/
theorem ex_ch {idx m d1 ny : Nat} {y : MethodName} {cy : ByteArray} {As : List Value} {x x2 : CX} {p : Int32 × CX} {v : Int32} (V : VV own idx y cy ny (some .int) m) (hC : y.cls = RX4) (S : PP G h z b x) (K : Ct G l d1 0 0 y cy ny (some .int) (.ref b :: As) h z (pX G p h z b)) (hv : p = (v, x2)) (hn : As.length = m) (hd : d1 + 1 ≤ d) (hst : (st.map fun v => v.category).sum ≤ 8) (hc : cs ≤ mc) (hs : sl ≤ ms) (stk : st0 = As.reverse ++ .ref b :: st) (dg : decode cc pc = .ok (.invokevirtual idx, 3)) (k1 : ∀ h : HP, PP G h z b x2 → ex G l X Q d mc ms cs sl cc own nL ret h z (pc + 3) lv (.int v :: st)) : ex G l X Q d mc ms cs sl cc own nL ret h z pc lv st0 := by
  subst hv
  refine ex_callV V (ci := 4) (by rw [hC]; rfl) K S.ob hn hd hst hc hs stk dg (fun r h1 z1 hp => ?_)
  obtain ⟨rfl, rfl, S1⟩ := hp
  exact k1 h1 S1.1
theorem ex_cnt {idx k : Nat} {v : Int32} {x : CX} (V : VV own idx yX4_count cX4_count 2 (some .int) 1) (S : PP G h z b x) (wf : wfA x.1) (hk : k < 21) (hv : cntN x k = v) (hd : 3 ≤ d) (hst : (st.map fun v => v.category).sum ≤ 8) (hc : cs ≤ mc) (hs : sl ≤ ms) (dg : decode cc pc = .ok (.invokevirtual idx, 3)) (k1 : ∀ h : HP, PP G h z b x → ex G l X Q d mc ms cs sl cc own nL ret h z (pc + 3) lv (.int v :: st)) : ex G l X Q d mc ms cs sl cc own nL ret h z pc lv (.int (nI k) :: .ref b :: st) := by
  obtain ⟨⟨n, g, t, u, q⟩, kk, LL, VV, len, c⟩ := x
  refine ex_ch (As := [.int (nI k)]) (d1 := 2) V rfl S (c_count S wf.1 wf.2.1) ?_ rfl hd hst hc hs rfl dg k1
  rw [X_count_k hk, hv]
theorem ex_per {idx j k : Nat} {v : Int32} {x : CX} (V : VV own idx yX4_person cX4_person 4 (some .int) 2) (S : PP G h z b x) (wf : wfA x.1) (hj : j < x.1.1) (hk : k < 9) (hv : perN x.1 j k = v) (hd : 3 ≤ d) (hst : (st.map fun v => v.category).sum ≤ 8) (hc : cs ≤ mc) (hs : sl ≤ ms) (dg : decode cc pc = .ok (.invokevirtual idx, 3)) (k1 : ∀ h : HP, PP G h z b x → ex G l X Q d mc ms cs sl cc own nL ret h z (pc + 3) lv (.int v :: st)) : ex G l X Q d mc ms cs sl cc own nL ret h z pc lv (.int (nI k) :: .int (nI j) :: .ref b :: st) := by
  obtain ⟨⟨n, g, t, u, q⟩, kk, LL, VV, len, c⟩ := x
  refine ex_ch (As := [.int (nI j), .int (nI k)]) (d1 := 2) V rfl S (c_person S wf.1 wf.2.1) ?_ rfl hd hst hc hs rfl dg k1
  rw [X_person_k hj wf.1 hk, hv]
theorem ex_perN {idx j k : Nat} {x : CX} (V : VV own idx yX4_person cX4_person 4 (some .int) 2) (S : PP G h z b x) (wf : wfA x.1) (hj : x.1.1 ≤ j) (h9 : j < 2 ^ 31) (hd : 3 ≤ d) (hst : (st.map fun v => v.category).sum ≤ 8) (hc : cs ≤ mc) (hs : sl ≤ ms) (dg : decode cc pc = .ok (.invokevirtual idx, 3)) (k1 : ∀ h : HP, PP G h z b x → ex G l X Q d mc ms cs sl cc own nL ret h z (pc + 3) lv (.int (-1) :: st)) : ex G l X Q d mc ms cs sl cc own nL ret h z pc lv (.int (nI k) :: .int (nI j) :: .ref b :: st) := by
  obtain ⟨⟨n, g, t, u, q⟩, kk, LL, VV, len, c⟩ := x
  refine ex_ch (As := [.int (nI j), .int (nI k)]) (d1 := 2) V rfl S (c_person S wf.1 wf.2.1) ?_ rfl hd hst hc hs rfl dg k1
  rw [X_person_n hj h9]
end ELw
/-- what a method of the law answers: 1; and what there is then -/
def pL (G : GG) (b z : Nat) (x : CX) : Option Value → HP → Nat → Prop := fun r h1 z1 => r = some (.int (nI 1)) ∧ z1 = z ∧ PP G h1 z b x
/-- the number out of a script's int -/
def loN (v : Int32) (n : Nat) : Nat := (v.toBitVec &&& 2147483647#32).toNat % n
theorem loN_lt {v : Int32} {n : Nat} (h : 0 < n) : loN v n < n := Nat.mod_lt _ h
theorem and7f {v : Int32} : (v.toBitVec &&& 2147483647#32).toNat < 2 ^ 31 ∧ v &&& nI 2147483647 = nI (v.toBitVec &&& 2147483647#32).toNat := by
  refine ⟨?_, ?_⟩
  · rw [BitVec.toNat_and]
    exact Nat.lt_of_le_of_lt Nat.and_le_right (by decide)
  · apply Int32.toBitVec_inj.mp
    rw [Int32.toBitVec_and]
    show _ = BitVec.ofNat 32 _
    rw [BitVec.ofNat_toNat, BitVec.setWidth_eq]
    rfl
theorem nI_modB {a n : Nat} (hn : 0 < n) (ha : a < 2 ^ 31) (hn2 : n < 2 ^ 31) : nI a - nI a / nI n * nI n = nI (a % n) := by
  rw [nI_div hn ha hn2, nI_mul]
  have e2 : nI a = nI (a / n * n) + nI (a % n) := by
    rw [show nI (a / n * n) + nI (a % n) = nI (a / n * n + a % n) from (Int32.ofNat_add _ _).symm, Nat.div_add_mod']
  conv => lhs; lhs; rw [e2]
  rw [Int32.add_comm, Int32.add_sub_cancel]
theorem loN_c {v : Int32} {n : Nat} (hn : 0 < n) (hn2 : n < 2 ^ 31) : (v &&& nI 2147483647) - (v &&& nI 2147483647) / nI n * nI n = nI (loN v n) := by
  rw [and7f.2]
  exact nI_modB hn and7f.1 hn2
end
section
/-! numbers that the law compares -/
theorem bd_lt {x : Int32} {K M : Nat} (h : bdI x K) (hk : K < M) (hM : M < 2 ^ 31) : ¬ nI M ≤ x := by
  obtain ⟨a, rfl, ha⟩ := h
  intro q
  have := (nI_leI hM (by omega)).mp q
  omega
theorem sum_le {K : Nat} {A : AS} (h : iw 0 K A) (hK : K < 2 ^ 31) : ¬ A.2.2.2.1 6 < sF A.2.2.2.2 5 A.1 := by
  obtain ⟨a, d, ea, ed, he, hd⟩ := h.2.2.2.1
  rw [ea, ed]
  intro q
  have := (nI_ltI (by omega) (by omega)).mp q
  omega
end
section
set_option maxRecDepth 20000 in
set_option maxHeartbeats 2000000 in
theorem c_low {G : GG} {l : Launch} {h0 : HP} {z : Nat} {v : Int32} {n : Nat} (hn : 0 < n) (hn2 : n < 2 ^ 31) : Ct G l 0 0 0 yL_low cL_low 2 (some .int) [.int v, .int (nI n)] h0 z (p0 (.int (nI (loN v n))) h0 z) := by
  refine Ct.intro (lv := [(0, .int v), (1, .int (nI n))]) (by decide +kernel) (Nat.le_of_ble_eq_true rfl) rfl (fun X Q hQ hnm => ?_)
  refine ex_iload_n 0 dL_low_0 rfl rfl ?_
  refine ex_ldc (v := nI 2147483647) dL_low_1 kc_L_7 ?_
  refine ex_iand dL_low_3 ?_
  refine ex_iload_n 1 dL_low_4 rfl rfl ?_
  refine ex_irem dL_low_5 (fun q9 => absurd ((nI_eq hn2 (by omega)).mp (show nI n = nI 0 from q9)) (by omega)) ?_
  rw [loN_c hn hn2]
  exact ex_iret hQ rfl ⟨rfl, rfl, rfl⟩ dL_low_6

set_option maxRecDepth 20000 in
set_option maxHeartbeats 2000000 in
theorem c_areAllN {G : GG} {l : Launch} {h0 : HP} {z b : Nat} {n : Nat} {t : Nat} {u : Nat → Int32} {q : Nat → Nat → Int32} {R : RX} {K : Nat} (S0 : PP G h0 z b ((n, none, t, u, q), R)) (ok : iv K (n, none, t, u, q)) (hK : K < 2 ^ 23) : Ct G l 3 0 0 yL_areAll cL_areAll 14 (some .boolean) [.ref b] h0 z (pL G b z ((n, none, t, u, q), R)) := by
  refine Ct.intro (lv := [(0, .ref b)]) (by decide +kernel) (Nat.le_of_ble_eq_true rfl) rfl (fun X Q hQ hnm => ?_)
  have S := S0
  have wf : wfA (n, none, t, u, q) := ok.1.1
  have n8 : n ≤ 8 := wf.1
  have tw : t < n ∨ t = 0 := wf.2.2
  have ok1 := ok.1
  have ow := ok.2
  refine ex_aload_n 0 dL_areAll_0 rfl rfl ?_
  refine ex_bipush (v := nI 7) dL_areAll_1 (by decide) ?_
  refine ex_cnt (k := 7) (v := nI n) vl_L_8 S wf (by decide) rfl (by decide) (Nat.le_of_ble_eq_true rfl) (Nat.le_refl _) (Nat.le_refl _) dL_areAll_3 (fun h S => ?_)
  refine ex_istore_n (lv' := [(1, .int (nI n)), (0, .ref b)]) dL_areAll_6 rfl (by decide) rfl ?_
  refine ex_aload_n 1 dL_areAll_7 rfl rfl ?_
  refine ex_bipush (v := nI 9) dL_areAll_8 (by decide) ?_
  refine ex_cnt (k := 9) (v := (-6)) vl_L_8 S wf (by decide) rfl (by decide) (Nat.le_of_ble_eq_true rfl) (Nat.le_refl _) (Nat.le_refl _) dL_areAll_10 (fun h S => ?_)
  refine ex_istore_n (lv' := [(2, .int (-6)), (1, .int (nI n)), (0, .ref b)]) dL_areAll_13 rfl (by decide) rfl ?_
  refine ex_aload_n 2 dL_areAll_14 rfl rfl ?_
  refine ex_bipush (v := nI 8) dL_areAll_15 (by decide) ?_
  refine ex_cnt (k := 8) (v := u 8) vl_L_8 S wf (by decide) rfl (by decide) (Nat.le_of_ble_eq_true rfl) (Nat.le_refl _) (Nat.le_refl _) dL_areAll_17 (fun h S => ?_)
  refine ex_istore_n (lv' := [(3, .int (u 8)), (2, .int (-6)), (1, .int (nI n)), (0, .ref b)]) dL_areAll_20 rfl (by decide) rfl ?_
  refine ex_iconst (v := nI 0) dL_areAll_21 (by decide) ?_
  refine ex_istore (lv' := [(4, .int (nI 0)), (3, .int (u 8)), (2, .int (-6)), (1, .int (nI n)), (0, .ref b)]) dL_areAll_22 (by decide) rfl ?_
  refine ex_iconst (v := nI 0) dL_areAll_24 (by decide) ?_
  refine ex_istore (lv' := [(5, .int (nI 0)), (4, .int (nI 0)), (3, .int (u 8)), (2, .int (-6)), (1, .int (nI n)), (0, .ref b)]) dL_areAll_25 (by decide) rfl ?_
  refine ex_iconst (v := nI 0) dL_areAll_27 (by decide) ?_
  refine ex_istore (lv' := [(6, .int (nI 0)), (5, .int (nI 0)), (4, .int (nI 0)), (3, .int (u 8)), (2, .int (-6)), (1, .int (nI n)), (0, .ref b)]) dL_areAll_28 (by decide) rfl ?_
  refine ex_iconst (v := nI 0) dL_areAll_30 (by decide) ?_
  refine ex_istore (lv' := [(7, .int (nI 0)), (6, .int (nI 0)), (5, .int (nI 0)), (4, .int (nI 0)), (3, .int (u 8)), (2, .int (-6)), (1, .int (nI n)), (0, .ref b)]) dL_areAll_31 (by decide) rfl ?_
  refine ex_iconst (v := nI 0) dL_areAll_33 (by decide) ?_
  refine ex_istore (lv' := [(8, .int (nI 0)), (7, .int (nI 0)), (6, .int (nI 0)), (5, .int (nI 0)), (4, .int (nI 0)), (3, .int (u 8)), (2, .int (-6)), (1, .int (nI n)), (0, .ref b)]) dL_areAll_34 (by decide) rfl ?_
  refine ex_iconst (v := nI 0) dL_areAll_36 (by decide) ?_
  refine ex_istore (lv' := [(9, .int (nI 0)), (8, .int (nI 0)), (7, .int (nI 0)), (6, .int (nI 0)), (5, .int (nI 0)), (4, .int (nI 0)), (3, .int (u 8)), (2, .int (-6)), (1, .int (nI n)), (0, .ref b)]) dL_areAll_37 (by decide) rfl ?_
  suffices H : ∀ (k m : Nat) (h : HP), m + k = n → PP G h z b ((n, none, t, u, q), R) → ex G l X Q 3 0 0 0 0 cL_areAll yL_areAll.cls 14 (some .boolean) h z 39 [(9, .int (nI m)), (8, .int (sF q 5 m)), (7, .int (sF q 2 m)), (6, .int (sF q 4 m)), (5, .int (sF q 3 m)), (4, .int (sumB u q m)), (3, .int (u 8)), (2, .int (-6)), (1, .int (nI n)), (0, .ref b)] [] from by
    have e2 := H n 0 h (by omega) S
    refine ex_lv (lv2 := [(9, .int (nI 0)), (8, .int (nI 0)), (7, .int (nI 0)), (6, .int (nI 0)), (5, .int (nI 0)), (4, .int (nI 0)), (3, .int (u 8)), (2, .int (-6)), (1, .int (nI n)), (0, .ref b)]) [0, 1, 2, 3, 4, 5, 6, 7, 8, 9] rfl ?_
    exact e2
  intro k
  induction k with
  | zero =>
    intro m h hm S
    rw [show m = n by omega]
    refine ex_iload 0 dL_areAll_39 rfl ?_
    refine ex_iload_n 8 dL_areAll_41 rfl rfl ?_
    refine ex_icmp_ge (tgt := 274) dL_areAll_42 (by decide) (fun c_42 => ?_) (fun c_42 => absurd ((nI_leI (by omega) (by omega)).mpr (by omega)) c_42)
    refine ex_iload_n 7 dL_areAll_274 rfl rfl ?_
    refine ex_bipush (v := (-6)) dL_areAll_275 (by decide) ?_
    refine ex_icmp_ne (tgt := 315) dL_areAll_277 (by decide) (fun c_277 => absurd (rfl) c_277) (fun c_277 => ?_)
    refine ex_aload_n 9 dL_areAll_280 rfl rfl ?_
    refine ex_bipush (v := nI 10) dL_areAll_281 (by decide) ?_
    refine ex_cnt (k := 10) (v := nI t) vl_L_8 S wf (by decide) rfl (by decide) (Nat.le_of_ble_eq_true rfl) (Nat.le_refl _) (Nat.le_refl _) dL_areAll_283 (fun h S => ?_)
    refine ex_if_lt (tgt := 311) dL_areAll_286 (by decide) (fun c_286 => absurd c_286 (nI_pos (by omega))) (fun c_286 => ?_)
    refine ex_aload_n 9 dL_areAll_289 rfl rfl ?_
    refine ex_bipush (v := nI 10) dL_areAll_290 (by decide) ?_
    refine ex_cnt (k := 10) (v := nI t) vl_L_8 S wf (by decide) rfl (by decide) (Nat.le_of_ble_eq_true rfl) (Nat.le_refl _) (Nat.le_refl _) dL_areAll_292 (fun h S => ?_)
    refine ex_iload_n 8 dL_areAll_295 rfl rfl ?_
    refine ex_if_ne (tgt := 303) dL_areAll_296 (by decide) (fun c_296 => ?_) (fun c_296 => ?_)
    · have n_296 : ¬ (n = 0) := fun q9 => c_296 ((nI_eq (b := 0) (by omega) (by omega)).mpr q9)
      refine ex_iload_n 8 dL_areAll_303 rfl rfl ?_
      refine ex_icmp_ge (tgt := 311) dL_areAll_304 (by decide) (fun c_304 => absurd c_304 (fun q9 => absurd ((nI_leI (by omega) (by omega)).mp q9) (by omega))) (fun c_304 => ?_)
      refine ex_iconst (v := nI 1) dL_areAll_307 (by decide) ?_
      refine ex_goto (tgt := 340) dL_areAll_308 (by decide) ?_
      refine ex_istore (lv' := [(9, .int (nI 1)), (8, .int (sF q 5 n)), (7, .int (sF q 2 n)), (6, .int (sF q 4 n)), (5, .int (sF q 3 n)), (4, .int (sumB u q n)), (3, .int (u 8)), (2, .int (-6)), (1, .int (nI n)), (0, .ref b)]) dL_areAll_340 (by decide) rfl ?_
      refine ex_iload 0 dL_areAll_342 rfl ?_
      refine ex_if_eq (tgt := 464) dL_areAll_344 (by decide) (fun c_344 => absurd c_344 (by decide)) (fun c_344 => ?_)
      refine ex_iload_n 6 dL_areAll_347 rfl rfl ?_
      refine ex_if_lt (tgt := 464) dL_areAll_348 (by decide) (fun c_348 => absurd c_348 (Int32.not_lt.mpr ok1.m8)) (fun c_348 => ?_)
      refine ex_iload_n 6 dL_areAll_351 rfl rfl ?_
      refine ex_bipush (v := nI 100) dL_areAll_352 (by decide) ?_
      refine ex_icmp_ge (tgt := 464) dL_areAll_354 (by decide) (fun c_354 => absurd c_354 (bd_lt ok1.2.2.1 (by decide) (by decide))) (fun c_354 => ?_)
      refine ex_aload_n 9 dL_areAll_357 rfl rfl ?_
      refine ex_bipush (v := nI 11) dL_areAll_358 (by decide) ?_
      refine ex_cnt (k := 11) (v := u 11) vl_L_8 S wf (by decide) rfl (by decide) (Nat.le_of_ble_eq_true rfl) (Nat.le_refl _) (Nat.le_refl _) dL_areAll_360 (fun h S => ?_)
      refine ex_if_lt (tgt := 464) dL_areAll_363 (by decide) (fun c_363 => absurd c_363 (Int32.not_lt.mpr (ok1.2.2.2.1.pos (by omega)))) (fun c_363 => ?_)
      refine ex_aload_n 9 dL_areAll_366 rfl rfl ?_
      refine ex_bipush (v := nI 12) dL_areAll_367 (by decide) ?_
      refine ex_cnt (k := 12) (v := sumB u q n) vl_L_8 S wf (by decide) rfl (by decide) (Nat.le_of_ble_eq_true rfl) (Nat.le_refl _) (Nat.le_refl _) dL_areAll_369 (fun h S => ?_)
      refine ex_iload 5 dL_areAll_372 rfl ?_
      refine ex_icmp_ne (tgt := 464) dL_areAll_374 (by decide) (fun c_374 => absurd (rfl) c_374) (fun c_374 => ?_)
      refine ex_aload_n 9 dL_areAll_377 rfl rfl ?_
      refine ex_bipush (v := nI 17) dL_areAll_378 (by decide) ?_
      refine ex_cnt (k := 17) (v := sumP q n) vl_L_8 S wf (by decide) rfl (by decide) (Nat.le_of_ble_eq_true rfl) (Nat.le_refl _) (Nat.le_refl _) dL_areAll_380 (fun h S => ?_)
      refine ex_iload 4 dL_areAll_383 rfl ?_
      refine ex_icmp_ne (tgt := 464) dL_areAll_385 (by decide) (fun c_385 => absurd (sumP_sF n) c_385) (fun c_385 => ?_)
      refine ex_aload_n 9 dL_areAll_388 rfl rfl ?_
      refine ex_bipush (v := nI 13) dL_areAll_389 (by decide) ?_
      refine ex_cnt (k := 13) (v := u 12) vl_L_8 S wf (by decide) rfl (by decide) (Nat.le_of_ble_eq_true rfl) (Nat.le_refl _) (Nat.le_refl _) dL_areAll_391 (fun h S => ?_)
      refine ex_iload 2 dL_areAll_394 rfl ?_
      refine ex_icmp_ne (tgt := 464) dL_areAll_396 (by decide) (fun c_396 => absurd (ow.1) c_396) (fun c_396 => ?_)
      refine ex_aload_n 9 dL_areAll_399 rfl rfl ?_
      refine ex_bipush (v := nI 14) dL_areAll_400 (by decide) ?_
      refine ex_cnt (k := 14) (v := u 13) vl_L_8 S wf (by decide) rfl (by decide) (Nat.le_of_ble_eq_true rfl) (Nat.le_refl _) (Nat.le_refl _) dL_areAll_402 (fun h S => ?_)
      refine ex_iload 3 dL_areAll_405 rfl ?_
      refine ex_icmp_ne (tgt := 464) dL_areAll_407 (by decide) (fun c_407 => absurd (ow.2.1) c_407) (fun c_407 => ?_)
      refine ex_iload 1 dL_areAll_410 rfl ?_
      refine ex_aload_n 9 dL_areAll_412 rfl rfl ?_
      refine ex_bipush (v := nI 6) dL_areAll_413 (by decide) ?_
      refine ex_cnt (k := 6) (v := u 6) vl_L_8 S wf (by decide) rfl (by decide) (Nat.le_of_ble_eq_true rfl) (Nat.le_refl _) (Nat.le_refl _) dL_areAll_415 (fun h S => ?_)
      refine ex_icmp_gt (tgt := 464) dL_areAll_418 (by decide) (fun c_418 => absurd c_418 (sum_le ow (by omega))) (fun c_418 => ?_)
      refine ex_aload_n 9 dL_areAll_421 rfl rfl ?_
      refine ex_bipush (v := nI 11) dL_areAll_422 (by decide) ?_
      refine ex_cnt (k := 11) (v := u 11) vl_L_8 S wf (by decide) rfl (by decide) (Nat.le_of_ble_eq_true rfl) (Nat.le_refl _) (Nat.le_refl _) dL_areAll_424 (fun h S => ?_)
      refine ex_iload 4 dL_areAll_427 rfl ?_
      refine ex_iadd dL_areAll_429 ?_
      refine ex_aload_n 9 dL_areAll_430 rfl rfl ?_
      refine ex_bipush (v := nI 16) dL_areAll_431 (by decide) ?_
      refine ex_cnt (k := 16) (v := u 15) vl_L_8 S wf (by decide) rfl (by decide) (Nat.le_of_ble_eq_true rfl) (Nat.le_refl _) (Nat.le_refl _) dL_areAll_433 (fun h S => ?_)
      refine ex_iadd dL_areAll_436 ?_
      refine ex_sipush (v := nI 1000) dL_areAll_437 (by decide) ?_
      refine ex_aload_n 9 dL_areAll_440 rfl rfl ?_
      refine ex_bipush (v := nI 18) dL_areAll_441 (by decide) ?_
      refine ex_cnt (k := 18) (v := u 16) vl_L_8 S wf (by decide) rfl (by decide) (Nat.le_of_ble_eq_true rfl) (Nat.le_refl _) (Nat.le_refl _) dL_areAll_443 (fun h S => ?_)
      refine ex_iadd dL_areAll_446 ?_
      refine ex_icmp_ne (tgt := 464) dL_areAll_447 (by decide) (fun c_447 => absurd (ow.2.2.1) c_447) (fun c_447 => ?_)
      refine ex_aload_n 9 dL_areAll_450 rfl rfl ?_
      refine ex_iload_n 8 dL_areAll_451 rfl rfl ?_
      refine ex_iconst (v := nI 0) dL_areAll_452 (by decide) ?_
      refine ex_perN vl_L_14 S wf (by show n ≤ n; omega) (by omega) (by decide) (Nat.le_of_ble_eq_true rfl) (Nat.le_refl _) (Nat.le_refl _) dL_areAll_453 (fun h S => ?_)
      refine ex_iconst (v := (-1)) dL_areAll_456 (by decide) ?_
      refine ex_icmp_ne (tgt := 464) dL_areAll_457 (by decide) (fun c_457 => absurd (rfl) c_457) (fun c_457 => ?_)
      refine ex_iconst (v := nI 1) dL_areAll_460 (by decide) ?_
      refine ex_goto (tgt := 465) dL_areAll_461 (by decide) ?_
      exact ex_zret hQ rfl (by decide) ⟨rfl, rfl, S⟩ dL_areAll_465
    · have n_296 : n = 0 := (nI_eq (b := 0) (by omega) (by omega)).mp c_296
      refine ex_iconst (v := nI 1) dL_areAll_299 (by decide) ?_
      refine ex_goto (tgt := 304) dL_areAll_300 (by decide) ?_
      refine ex_icmp_ge (tgt := 311) dL_areAll_304 (by decide) (fun c_304 => absurd c_304 (fun q9 => absurd ((nI_leI (by omega) (by omega)).mp q9) (by omega))) (fun c_304 => ?_)
      refine ex_iconst (v := nI 1) dL_areAll_307 (by decide) ?_
      refine ex_goto (tgt := 340) dL_areAll_308 (by decide) ?_
      refine ex_istore (lv' := [(9, .int (nI 1)), (8, .int (sF q 5 n)), (7, .int (sF q 2 n)), (6, .int (sF q 4 n)), (5, .int (sF q 3 n)), (4, .int (sumB u q n)), (3, .int (u 8)), (2, .int (-6)), (1, .int (nI n)), (0, .ref b)]) dL_areAll_340 (by decide) rfl ?_
      refine ex_iload 0 dL_areAll_342 rfl ?_
      refine ex_if_eq (tgt := 464) dL_areAll_344 (by decide) (fun c_344 => absurd c_344 (by decide)) (fun c_344 => ?_)
      refine ex_iload_n 6 dL_areAll_347 rfl rfl ?_
      refine ex_if_lt (tgt := 464) dL_areAll_348 (by decide) (fun c_348 => absurd c_348 (Int32.not_lt.mpr ok1.m8)) (fun c_348 => ?_)
      refine ex_iload_n 6 dL_areAll_351 rfl rfl ?_
      refine ex_bipush (v := nI 100) dL_areAll_352 (by decide) ?_
      refine ex_icmp_ge (tgt := 464) dL_areAll_354 (by decide) (fun c_354 => absurd c_354 (bd_lt ok1.2.2.1 (by decide) (by decide))) (fun c_354 => ?_)
      refine ex_aload_n 9 dL_areAll_357 rfl rfl ?_
      refine ex_bipush (v := nI 11) dL_areAll_358 (by decide) ?_
      refine ex_cnt (k := 11) (v := u 11) vl_L_8 S wf (by decide) rfl (by decide) (Nat.le_of_ble_eq_true rfl) (Nat.le_refl _) (Nat.le_refl _) dL_areAll_360 (fun h S => ?_)
      refine ex_if_lt (tgt := 464) dL_areAll_363 (by decide) (fun c_363 => absurd c_363 (Int32.not_lt.mpr (ok1.2.2.2.1.pos (by omega)))) (fun c_363 => ?_)
      refine ex_aload_n 9 dL_areAll_366 rfl rfl ?_
      refine ex_bipush (v := nI 12) dL_areAll_367 (by decide) ?_
      refine ex_cnt (k := 12) (v := sumB u q n) vl_L_8 S wf (by decide) rfl (by decide) (Nat.le_of_ble_eq_true rfl) (Nat.le_refl _) (Nat.le_refl _) dL_areAll_369 (fun h S => ?_)
      refine ex_iload 5 dL_areAll_372 rfl ?_
      refine ex_icmp_ne (tgt := 464) dL_areAll_374 (by decide) (fun c_374 => absurd (rfl) c_374) (fun c_374 => ?_)
      refine ex_aload_n 9 dL_areAll_377 rfl rfl ?_
      refine ex_bipush (v := nI 17) dL_areAll_378 (by decide) ?_
      refine ex_cnt (k := 17) (v := sumP q n) vl_L_8 S wf (by decide) rfl (by decide) (Nat.le_of_ble_eq_true rfl) (Nat.le_refl _) (Nat.le_refl _) dL_areAll_380 (fun h S => ?_)
      refine ex_iload 4 dL_areAll_383 rfl ?_
      refine ex_icmp_ne (tgt := 464) dL_areAll_385 (by decide) (fun c_385 => absurd (sumP_sF n) c_385) (fun c_385 => ?_)
      refine ex_aload_n 9 dL_areAll_388 rfl rfl ?_
      refine ex_bipush (v := nI 13) dL_areAll_389 (by decide) ?_
      refine ex_cnt (k := 13) (v := u 12) vl_L_8 S wf (by decide) rfl (by decide) (Nat.le_of_ble_eq_true rfl) (Nat.le_refl _) (Nat.le_refl _) dL_areAll_391 (fun h S => ?_)
      refine ex_iload 2 dL_areAll_394 rfl ?_
      refine ex_icmp_ne (tgt := 464) dL_areAll_396 (by decide) (fun c_396 => absurd (ow.1) c_396) (fun c_396 => ?_)
      refine ex_aload_n 9 dL_areAll_399 rfl rfl ?_
      refine ex_bipush (v := nI 14) dL_areAll_400 (by decide) ?_
      refine ex_cnt (k := 14) (v := u 13) vl_L_8 S wf (by decide) rfl (by decide) (Nat.le_of_ble_eq_true rfl) (Nat.le_refl _) (Nat.le_refl _) dL_areAll_402 (fun h S => ?_)
      refine ex_iload 3 dL_areAll_405 rfl ?_
      refine ex_icmp_ne (tgt := 464) dL_areAll_407 (by decide) (fun c_407 => absurd (ow.2.1) c_407) (fun c_407 => ?_)
      refine ex_iload 1 dL_areAll_410 rfl ?_
      refine ex_aload_n 9 dL_areAll_412 rfl rfl ?_
      refine ex_bipush (v := nI 6) dL_areAll_413 (by decide) ?_
      refine ex_cnt (k := 6) (v := u 6) vl_L_8 S wf (by decide) rfl (by decide) (Nat.le_of_ble_eq_true rfl) (Nat.le_refl _) (Nat.le_refl _) dL_areAll_415 (fun h S => ?_)
      refine ex_icmp_gt (tgt := 464) dL_areAll_418 (by decide) (fun c_418 => absurd c_418 (sum_le ow (by omega))) (fun c_418 => ?_)
      refine ex_aload_n 9 dL_areAll_421 rfl rfl ?_
      refine ex_bipush (v := nI 11) dL_areAll_422 (by decide) ?_
      refine ex_cnt (k := 11) (v := u 11) vl_L_8 S wf (by decide) rfl (by decide) (Nat.le_of_ble_eq_true rfl) (Nat.le_refl _) (Nat.le_refl _) dL_areAll_424 (fun h S => ?_)
      refine ex_iload 4 dL_areAll_427 rfl ?_
      refine ex_iadd dL_areAll_429 ?_
      refine ex_aload_n 9 dL_areAll_430 rfl rfl ?_
      refine ex_bipush (v := nI 16) dL_areAll_431 (by decide) ?_
      refine ex_cnt (k := 16) (v := u 15) vl_L_8 S wf (by decide) rfl (by decide) (Nat.le_of_ble_eq_true rfl) (Nat.le_refl _) (Nat.le_refl _) dL_areAll_433 (fun h S => ?_)
      refine ex_iadd dL_areAll_436 ?_
      refine ex_sipush (v := nI 1000) dL_areAll_437 (by decide) ?_
      refine ex_aload_n 9 dL_areAll_440 rfl rfl ?_
      refine ex_bipush (v := nI 18) dL_areAll_441 (by decide) ?_
      refine ex_cnt (k := 18) (v := u 16) vl_L_8 S wf (by decide) rfl (by decide) (Nat.le_of_ble_eq_true rfl) (Nat.le_refl _) (Nat.le_refl _) dL_areAll_443 (fun h S => ?_)
      refine ex_iadd dL_areAll_446 ?_
      refine ex_icmp_ne (tgt := 464) dL_areAll_447 (by decide) (fun c_447 => absurd (ow.2.2.1) c_447) (fun c_447 => ?_)
      refine ex_aload_n 9 dL_areAll_450 rfl rfl ?_
      refine ex_iload_n 8 dL_areAll_451 rfl rfl ?_
      refine ex_iconst (v := nI 0) dL_areAll_452 (by decide) ?_
      refine ex_perN vl_L_14 S wf (by show n ≤ n; omega) (by omega) (by decide) (Nat.le_of_ble_eq_true rfl) (Nat.le_refl _) (Nat.le_refl _) dL_areAll_453 (fun h S => ?_)
      refine ex_iconst (v := (-1)) dL_areAll_456 (by decide) ?_
      refine ex_icmp_ne (tgt := 464) dL_areAll_457 (by decide) (fun c_457 => absurd (rfl) c_457) (fun c_457 => ?_)
      refine ex_iconst (v := nI 1) dL_areAll_460 (by decide) ?_
      refine ex_goto (tgt := 465) dL_areAll_461 (by decide) ?_
      exact ex_zret hQ rfl (by decide) ⟨rfl, rfl, S⟩ dL_areAll_465
  | succ k ih =>
    intro m h hm S
    have hmn : m < n := by omega
    have pp := ow.2.2.2.2.1 m hmn
    have b3 : ¬ q m 3 < 0 := Int32.not_lt.mpr (pp.1.pos (by omega))
    have b2 : 0 ≤ q m 2 := pp.2.2.1.pos (by decide)
    by_cases hb : q m 2 < u 4
    · refine ex_iload 0 dL_areAll_39 rfl ?_
      refine ex_iload_n 8 dL_areAll_41 rfl rfl ?_
      refine ex_icmp_ge (tgt := 274) dL_areAll_42 (by decide) (fun c_42 => absurd c_42 (fun q9 => absurd ((nI_leI (by omega) (by omega)).mp q9) (by omega))) (fun c_42 => ?_)
      refine ex_iload 0 dL_areAll_45 rfl ?_
      refine ex_bipush (v := nI 8) dL_areAll_47 (by decide) ?_
      refine ex_icmp_ge (tgt := 274) dL_areAll_49 (by decide) (fun c_49 => absurd c_49 (fun q9 => absurd ((nI_leI (by omega) (by omega)).mp q9) (by omega))) (fun c_49 => ?_)
      refine ex_aload_n 9 dL_areAll_52 rfl rfl ?_
      refine ex_iload 0 dL_areAll_53 rfl ?_
      refine ex_iconst (v := nI 2) dL_areAll_55 (by decide) ?_
      refine ex_per (j := m) (k := 2) (v := q m 2) vl_L_14 S wf hmn (by decide) rfl (by decide) (Nat.le_of_ble_eq_true rfl) (Nat.le_refl _) (Nat.le_refl _) dL_areAll_56 (fun h S => ?_)
      refine ex_istore (lv' := [(10, .int (q m 2)), (9, .int (nI m)), (8, .int (sF q 5 m)), (7, .int (sF q 2 m)), (6, .int (sF q 4 m)), (5, .int (sF q 3 m)), (4, .int (sumB u q m)), (3, .int (u 8)), (2, .int (-6)), (1, .int (nI n)), (0, .ref b)]) dL_areAll_59 (by decide) rfl ?_
      refine ex_iload 0 dL_areAll_61 rfl ?_
      refine ex_aload_n 10 dL_areAll_63 rfl rfl ?_
      refine ex_iconst (v := nI 4) dL_areAll_64 (by decide) ?_
      refine ex_cnt (k := 4) (v := u 4) vl_L_8 S wf (by decide) rfl (by decide) (Nat.le_of_ble_eq_true rfl) (Nat.le_refl _) (Nat.le_refl _) dL_areAll_65 (fun h S => ?_)
      refine ex_icmp_lt (tgt := 75) dL_areAll_68 (by decide) (fun c_68 => ?_) (fun c_68 => absurd (hb) c_68)
      refine ex_iconst (v := nI 0) dL_areAll_75 (by decide) ?_
      refine ex_istore (lv' := [(11, .int (nI 0)), (10, .int (q m 2)), (9, .int (nI m)), (8, .int (sF q 5 m)), (7, .int (sF q 2 m)), (6, .int (sF q 4 m)), (5, .int (sF q 3 m)), (4, .int (sumB u q m)), (3, .int (u 8)), (2, .int (-6)), (1, .int (nI n)), (0, .ref b)]) dL_areAll_76 (by decide) rfl ?_
      refine ex_iload_n 8 dL_areAll_78 rfl rfl ?_
      refine ex_iconst (v := nI 5) dL_areAll_79 (by decide) ?_
      refine ex_aload_n 11 dL_areAll_80 rfl rfl ?_
      refine ex_iload 2 dL_areAll_81 rfl ?_
      refine ex_iconst (v := nI 0) dL_areAll_83 (by decide) ?_
      refine ex_per (j := m) (k := 0) (v := q m 0) vl_L_14 S wf hmn (by decide) rfl (by decide) (Nat.le_of_ble_eq_true rfl) (Nat.le_refl _) (Nat.le_refl _) dL_areAll_84 (fun h S => ?_)
      refine ex_imul dL_areAll_87 ?_
      refine ex_iadd dL_areAll_88 ?_
      refine ex_bipush (v := nI 10) dL_areAll_89 (by decide) ?_
      refine ex_iload 1 dL_areAll_91 rfl ?_
      refine ex_imul dL_areAll_93 ?_
      refine ex_isub dL_areAll_94 ?_
      refine ex_istore (lv' := [(12, .int (((u 8) + ((nI 5) * (q m 0))) - ((nI 10) * (q m 2)))), (11, .int (nI 0)), (10, .int (q m 2)), (9, .int (nI m)), (8, .int (sF q 5 m)), (7, .int (sF q 2 m)), (6, .int (sF q 4 m)), (5, .int (sF q 3 m)), (4, .int (sumB u q m)), (3, .int (u 8)), (2, .int (-6)), (1, .int (nI n)), (0, .ref b)]) dL_areAll_95 (by decide) rfl ?_
      refine ex_iload_n 10 dL_areAll_97 rfl rfl ?_
      refine ex_if_lt (tgt := 131) dL_areAll_98 (by decide) (fun c_98 => ?_) (fun c_98 => absurd (by decide) c_98)
      refine ex_iconst (v := nI 0) dL_areAll_131 (by decide) ?_
      refine ex_istore (lv' := [(13, .int (nI 0)), (12, .int (((u 8) + ((nI 5) * (q m 0))) - ((nI 10) * (q m 2)))), (11, .int (nI 0)), (10, .int (q m 2)), (9, .int (nI m)), (8, .int (sF q 5 m)), (7, .int (sF q 2 m)), (6, .int (sF q 4 m)), (5, .int (sF q 3 m)), (4, .int (sumB u q m)), (3, .int (u 8)), (2, .int (-6)), (1, .int (nI n)), (0, .ref b)]) dL_areAll_132 (by decide) rfl ?_
      refine ex_aload_n 13 dL_areAll_134 rfl rfl ?_
      refine ex_iload 4 dL_areAll_135 rfl ?_
      refine ex_iconst (v := nI 4) dL_areAll_137 (by decide) ?_
      refine ex_per (j := m) (k := 4) (v := bB u q m) vl_L_14 S wf hmn (by decide) rfl (by decide) (Nat.le_of_ble_eq_true rfl) (Nat.le_refl _) (Nat.le_refl _) dL_areAll_138 (fun h S => ?_)
      refine ex_iload 2 dL_areAll_141 rfl ?_
      refine ex_if_eq (tgt := 150) dL_areAll_143 (by decide) (fun c_143 => ?_) (fun c_143 => absurd (by decide) c_143)
      refine ex_iconst (v := nI 0) dL_areAll_150 (by decide) ?_
      refine ex_icmp_ne (tgt := 206) dL_areAll_151 (by decide) (fun c_151 => absurd (by unfold bB; rw [if_pos hb]) c_151) (fun c_151 => ?_)
      refine ex_aload_n 13 dL_areAll_154 rfl rfl ?_
      refine ex_iload 4 dL_areAll_155 rfl ?_
      refine ex_iconst (v := nI 5) dL_areAll_157 (by decide) ?_
      refine ex_per (j := m) (k := 5) (v := scI u q m + nI 1000) vl_L_14 S wf hmn (by decide) rfl (by decide) (Nat.le_of_ble_eq_true rfl) (Nat.le_refl _) (Nat.le_refl _) dL_areAll_158 (fun h S => ?_)
      refine ex_iload 1 dL_areAll_161 rfl ?_
      refine ex_sipush (v := nI 1000) dL_areAll_163 (by decide) ?_
      refine ex_iadd dL_areAll_166 ?_
      refine ex_icmp_ne (tgt := 206) dL_areAll_167 (by decide) (fun c_167 => absurd (rfl) c_167) (fun c_167 => ?_)
      refine ex_aload_n 13 dL_areAll_170 rfl rfl ?_
      refine ex_iload 4 dL_areAll_171 rfl ?_
      refine ex_bipush (v := nI 8) dL_areAll_173 (by decide) ?_
      refine ex_per (j := m) (k := 8) (v := mayI n none u q m) vl_L_14 S wf hmn (by decide) rfl (by decide) (Nat.le_of_ble_eq_true rfl) (Nat.le_refl _) (Nat.le_refl _) dL_areAll_175 (fun h S => ?_)
      refine ex_iload 0 dL_areAll_178 rfl ?_
      refine ex_if_eq (tgt := 187) dL_areAll_180 (by decide) (fun c_180 => ?_) (fun c_180 => absurd (by decide) c_180)
      refine ex_iconst (v := nI 0) dL_areAll_187 (by decide) ?_
      refine ex_icmp_ne (tgt := 206) dL_areAll_188 (by decide) (fun c_188 => absurd (by unfold mayI; rw [if_neg (fun q9 => q9.1 rfl)]) c_188) (fun c_188 => ?_)
      refine ex_aload_n 13 dL_areAll_191 rfl rfl ?_
      refine ex_iload 4 dL_areAll_192 rfl ?_
      refine ex_iconst (v := nI 3) dL_areAll_194 (by decide) ?_
      refine ex_per (j := m) (k := 3) (v := q m 3) vl_L_14 S wf hmn (by decide) rfl (by decide) (Nat.le_of_ble_eq_true rfl) (Nat.le_refl _) (Nat.le_refl _) dL_areAll_195 (fun h S => ?_)
      refine ex_if_lt (tgt := 206) dL_areAll_198 (by decide) (fun c_198 => absurd c_198 (b3)) (fun c_198 => ?_)
      refine ex_iload 3 dL_areAll_201 rfl ?_
      refine ex_if_ge (tgt := 208) dL_areAll_203 (by decide) (fun c_203 => ?_) (fun c_203 => absurd (b2) c_203)
      refine ex_iload 9 dL_areAll_208 rfl ?_
      refine ex_iload 2 dL_areAll_210 rfl ?_
      refine ex_if_eq (tgt := 219) dL_areAll_212 (by decide) (fun c_212 => ?_) (fun c_212 => absurd (by decide) c_212)
      refine ex_iconst (v := nI 0) dL_areAll_219 (by decide) ?_
      refine ex_iadd dL_areAll_220 ?_
      refine ex_istore (lv' := [(4, .int ((sumB u q m) + (nI 0))), (13, .int (nI 0)), (12, .int (((u 8) + ((nI 5) * (q m 0))) - ((nI 10) * (q m 2)))), (11, .int (nI 0)), (10, .int (q m 2)), (9, .int (nI m)), (8, .int (sF q 5 m)), (7, .int (sF q 2 m)), (6, .int (sF q 4 m)), (5, .int (sF q 3 m)), (3, .int (u 8)), (2, .int (-6)), (1, .int (nI n)), (0, .ref b)]) dL_areAll_221 (by decide) rfl ?_
      refine ex_iload 9 dL_areAll_223 rfl ?_
      refine ex_aload_n 13 dL_areAll_225 rfl rfl ?_
      refine ex_iload 5 dL_areAll_226 rfl ?_
      refine ex_iconst (v := nI 3) dL_areAll_228 (by decide) ?_
      refine ex_per (j := m) (k := 3) (v := q m 3) vl_L_14 S wf hmn (by decide) rfl (by decide) (Nat.le_of_ble_eq_true rfl) (Nat.le_refl _) (Nat.le_refl _) dL_areAll_229 (fun h S => ?_)
      refine ex_iadd dL_areAll_232 ?_
      refine ex_istore (lv' := [(5, .int ((sF q 3 m) + (q m 3))), (4, .int ((sumB u q m) + (nI 0))), (13, .int (nI 0)), (12, .int (((u 8) + ((nI 5) * (q m 0))) - ((nI 10) * (q m 2)))), (11, .int (nI 0)), (10, .int (q m 2)), (9, .int (nI m)), (8, .int (sF q 5 m)), (7, .int (sF q 2 m)), (6, .int (sF q 4 m)), (3, .int (u 8)), (2, .int (-6)), (1, .int (nI n)), (0, .ref b)]) dL_areAll_233 (by decide) rfl ?_
      refine ex_iload 8 dL_areAll_235 rfl ?_
      refine ex_iload 5 dL_areAll_237 rfl ?_
      refine ex_iadd dL_areAll_239 ?_
      refine ex_istore (lv' := [(7, .int ((sF q 2 m) + (q m 2))), (5, .int ((sF q 3 m) + (q m 3))), (4, .int ((sumB u q m) + (nI 0))), (13, .int (nI 0)), (12, .int (((u 8) + ((nI 5) * (q m 0))) - ((nI 10) * (q m 2)))), (11, .int (nI 0)), (10, .int (q m 2)), (9, .int (nI m)), (8, .int (sF q 5 m)), (6, .int (sF q 4 m)), (3, .int (u 8)), (2, .int (-6)), (1, .int (nI n)), (0, .ref b)]) dL_areAll_240 (by decide) rfl ?_
      refine ex_iload 9 dL_areAll_242 rfl ?_
      refine ex_aload_n 13 dL_areAll_244 rfl rfl ?_
      refine ex_iload 7 dL_areAll_245 rfl ?_
      refine ex_bipush (v := nI 6) dL_areAll_247 (by decide) ?_
      refine ex_per (j := m) (k := 6) (v := q m 4) vl_L_14 S wf hmn (by decide) rfl (by decide) (Nat.le_of_ble_eq_true rfl) (Nat.le_refl _) (Nat.le_refl _) dL_areAll_249 (fun h S => ?_)
      refine ex_iadd dL_areAll_252 ?_
      refine ex_istore (lv' := [(6, .int ((sF q 4 m) + (q m 4))), (7, .int ((sF q 2 m) + (q m 2))), (5, .int ((sF q 3 m) + (q m 3))), (4, .int ((sumB u q m) + (nI 0))), (13, .int (nI 0)), (12, .int (((u 8) + ((nI 5) * (q m 0))) - ((nI 10) * (q m 2)))), (11, .int (nI 0)), (10, .int (q m 2)), (9, .int (nI m)), (8, .int (sF q 5 m)), (3, .int (u 8)), (2, .int (-6)), (1, .int (nI n)), (0, .ref b)]) dL_areAll_253 (by decide) rfl ?_
      refine ex_iload 9 dL_areAll_255 rfl ?_
      refine ex_aload_n 13 dL_areAll_257 rfl rfl ?_
      refine ex_iload 8 dL_areAll_258 rfl ?_
      refine ex_bipush (v := nI 7) dL_areAll_260 (by decide) ?_
      refine ex_per (j := m) (k := 7) (v := q m 5) vl_L_14 S wf hmn (by decide) rfl (by decide) (Nat.le_of_ble_eq_true rfl) (Nat.le_refl _) (Nat.le_refl _) dL_areAll_262 (fun h S => ?_)
      refine ex_iadd dL_areAll_265 ?_
      refine ex_istore (lv' := [(8, .int ((sF q 5 m) + (q m 5))), (6, .int ((sF q 4 m) + (q m 4))), (7, .int ((sF q 2 m) + (q m 2))), (5, .int ((sF q 3 m) + (q m 3))), (4, .int ((sumB u q m) + (nI 0))), (13, .int (nI 0)), (12, .int (((u 8) + ((nI 5) * (q m 0))) - ((nI 10) * (q m 2)))), (11, .int (nI 0)), (10, .int (q m 2)), (9, .int (nI m)), (3, .int (u 8)), (2, .int (-6)), (1, .int (nI n)), (0, .ref b)]) dL_areAll_266 (by decide) rfl ?_
      refine ex_iinc (v := nI (m + 1)) (lv' := [(9, .int (nI (m + 1))), (8, .int ((sF q 5 m) + (q m 5))), (6, .int ((sF q 4 m) + (q m 4))), (7, .int ((sF q 2 m) + (q m 2))), (5, .int ((sF q 3 m) + (q m 3))), (4, .int ((sumB u q m) + (nI 0))), (13, .int (nI 0)), (12, .int (((u 8) + ((nI 5) * (q m 0))) - ((nI 10) * (q m 2)))), (11, .int (nI 0)), (10, .int (q m 2)), (3, .int (u 8)), (2, .int (-6)), (1, .int (nI n)), (0, .ref b)]) 9 dL_areAll_268 rfl (nI_1 m) (by decide) rfl ?_
      refine ex_goto (tgt := 39) dL_areAll_271 (by decide) ?_
      have e2 := ih (m + 1) h (by omega) S
      have e3 : sumB u q (m + 1) = (sumB u q m) + (nI 0) := by rw [sumB, if_pos hb, show nI 0 = 0 from rfl, Int32.add_zero]
      rw [e3] at e2
      refine ex_lv (lv2 := [(9, .int (nI (m + 1))), (8, .int ((sF q 5 m) + (q m 5))), (7, .int ((sF q 2 m) + (q m 2))), (6, .int ((sF q 4 m) + (q m 4))), (5, .int ((sF q 3 m) + (q m 3))), (4, .int ((sumB u q m) + (nI 0))), (3, .int (u 8)), (2, .int (-6)), (1, .int (nI n)), (0, .ref b)]) [0, 1, 3, 2, 4, 5, 10, 11, 12, 13] rfl ?_
      exact e2
    · refine ex_iload 0 dL_areAll_39 rfl ?_
      refine ex_iload_n 8 dL_areAll_41 rfl rfl ?_
      refine ex_icmp_ge (tgt := 274) dL_areAll_42 (by decide) (fun c_42 => absurd c_42 (fun q9 => absurd ((nI_leI (by omega) (by omega)).mp q9) (by omega))) (fun c_42 => ?_)
      refine ex_iload 0 dL_areAll_45 rfl ?_
      refine ex_bipush (v := nI 8) dL_areAll_47 (by decide) ?_
      refine ex_icmp_ge (tgt := 274) dL_areAll_49 (by decide) (fun c_49 => absurd c_49 (fun q9 => absurd ((nI_leI (by omega) (by omega)).mp q9) (by omega))) (fun c_49 => ?_)
      refine ex_aload_n 9 dL_areAll_52 rfl rfl ?_
      refine ex_iload 0 dL_areAll_53 rfl ?_
      refine ex_iconst (v := nI 2) dL_areAll_55 (by decide) ?_
      refine ex_per (j := m) (k := 2) (v := q m 2) vl_L_14 S wf hmn (by decide) rfl (by decide) (Nat.le_of_ble_eq_true rfl) (Nat.le_refl _) (Nat.le_refl _) dL_areAll_56 (fun h S => ?_)
      refine ex_istore (lv' := [(10, .int (q m 2)), (9, .int (nI m)), (8, .int (sF q 5 m)), (7, .int (sF q 2 m)), (6, .int (sF q 4 m)), (5, .int (sF q 3 m)), (4, .int (sumB u q m)), (3, .int (u 8)), (2, .int (-6)), (1, .int (nI n)), (0, .ref b)]) dL_areAll_59 (by decide) rfl ?_
      refine ex_iload 0 dL_areAll_61 rfl ?_
      refine ex_aload_n 10 dL_areAll_63 rfl rfl ?_
      refine ex_iconst (v := nI 4) dL_areAll_64 (by decide) ?_
      refine ex_cnt (k := 4) (v := u 4) vl_L_8 S wf (by decide) rfl (by decide) (Nat.le_of_ble_eq_true rfl) (Nat.le_refl _) (Nat.le_refl _) dL_areAll_65 (fun h S => ?_)
      refine ex_icmp_lt (tgt := 75) dL_areAll_68 (by decide) (fun c_68 => absurd c_68 (hb)) (fun c_68 => ?_)
      refine ex_iconst (v := nI 1) dL_areAll_71 (by decide) ?_
      refine ex_goto (tgt := 76) dL_areAll_72 (by decide) ?_
      refine ex_istore (lv' := [(11, .int (nI 1)), (10, .int (q m 2)), (9, .int (nI m)), (8, .int (sF q 5 m)), (7, .int (sF q 2 m)), (6, .int (sF q 4 m)), (5, .int (sF q 3 m)), (4, .int (sumB u q m)), (3, .int (u 8)), (2, .int (-6)), (1, .int (nI n)), (0, .ref b)]) dL_areAll_76 (by decide) rfl ?_
      refine ex_iload_n 8 dL_areAll_78 rfl rfl ?_
      refine ex_iconst (v := nI 5) dL_areAll_79 (by decide) ?_
      refine ex_aload_n 11 dL_areAll_80 rfl rfl ?_
      refine ex_iload 2 dL_areAll_81 rfl ?_
      refine ex_iconst (v := nI 0) dL_areAll_83 (by decide) ?_
      refine ex_per (j := m) (k := 0) (v := q m 0) vl_L_14 S wf hmn (by decide) rfl (by decide) (Nat.le_of_ble_eq_true rfl) (Nat.le_refl _) (Nat.le_refl _) dL_areAll_84 (fun h S => ?_)
      refine ex_imul dL_areAll_87 ?_
      refine ex_iadd dL_areAll_88 ?_
      refine ex_bipush (v := nI 10) dL_areAll_89 (by decide) ?_
      refine ex_iload 1 dL_areAll_91 rfl ?_
      refine ex_imul dL_areAll_93 ?_
      refine ex_isub dL_areAll_94 ?_
      refine ex_istore (lv' := [(12, .int (((u 8) + ((nI 5) * (q m 0))) - ((nI 10) * (q m 2)))), (11, .int (nI 1)), (10, .int (q m 2)), (9, .int (nI m)), (8, .int (sF q 5 m)), (7, .int (sF q 2 m)), (6, .int (sF q 4 m)), (5, .int (sF q 3 m)), (4, .int (sumB u q m)), (3, .int (u 8)), (2, .int (-6)), (1, .int (nI n)), (0, .ref b)]) dL_areAll_95 (by decide) rfl ?_
      refine ex_iload_n 10 dL_areAll_97 rfl rfl ?_
      refine ex_if_lt (tgt := 131) dL_areAll_98 (by decide) (fun c_98 => ?_) (fun c_98 => absurd (by decide) c_98)
      refine ex_iconst (v := nI 0) dL_areAll_131 (by decide) ?_
      refine ex_istore (lv' := [(13, .int (nI 0)), (12, .int (((u 8) + ((nI 5) * (q m 0))) - ((nI 10) * (q m 2)))), (11, .int (nI 1)), (10, .int (q m 2)), (9, .int (nI m)), (8, .int (sF q 5 m)), (7, .int (sF q 2 m)), (6, .int (sF q 4 m)), (5, .int (sF q 3 m)), (4, .int (sumB u q m)), (3, .int (u 8)), (2, .int (-6)), (1, .int (nI n)), (0, .ref b)]) dL_areAll_132 (by decide) rfl ?_
      refine ex_aload_n 13 dL_areAll_134 rfl rfl ?_
      refine ex_iload 4 dL_areAll_135 rfl ?_
      refine ex_iconst (v := nI 4) dL_areAll_137 (by decide) ?_
      refine ex_per (j := m) (k := 4) (v := bB u q m) vl_L_14 S wf hmn (by decide) rfl (by decide) (Nat.le_of_ble_eq_true rfl) (Nat.le_refl _) (Nat.le_refl _) dL_areAll_138 (fun h S => ?_)
      refine ex_iload 2 dL_areAll_141 rfl ?_
      refine ex_if_eq (tgt := 150) dL_areAll_143 (by decide) (fun c_143 => absurd c_143 (by decide)) (fun c_143 => ?_)
      refine ex_iconst (v := nI 1) dL_areAll_146 (by decide) ?_
      refine ex_goto (tgt := 151) dL_areAll_147 (by decide) ?_
      refine ex_icmp_ne (tgt := 206) dL_areAll_151 (by decide) (fun c_151 => absurd (by unfold bB; rw [if_neg hb]) c_151) (fun c_151 => ?_)
      refine ex_aload_n 13 dL_areAll_154 rfl rfl ?_
      refine ex_iload 4 dL_areAll_155 rfl ?_
      refine ex_iconst (v := nI 5) dL_areAll_157 (by decide) ?_
      refine ex_per (j := m) (k := 5) (v := scI u q m + nI 1000) vl_L_14 S wf hmn (by decide) rfl (by decide) (Nat.le_of_ble_eq_true rfl) (Nat.le_refl _) (Nat.le_refl _) dL_areAll_158 (fun h S => ?_)
      refine ex_iload 1 dL_areAll_161 rfl ?_
      refine ex_sipush (v := nI 1000) dL_areAll_163 (by decide) ?_
      refine ex_iadd dL_areAll_166 ?_
      refine ex_icmp_ne (tgt := 206) dL_areAll_167 (by decide) (fun c_167 => absurd (rfl) c_167) (fun c_167 => ?_)
      refine ex_aload_n 13 dL_areAll_170 rfl rfl ?_
      refine ex_iload 4 dL_areAll_171 rfl ?_
      refine ex_bipush (v := nI 8) dL_areAll_173 (by decide) ?_
      refine ex_per (j := m) (k := 8) (v := mayI n none u q m) vl_L_14 S wf hmn (by decide) rfl (by decide) (Nat.le_of_ble_eq_true rfl) (Nat.le_refl _) (Nat.le_refl _) dL_areAll_175 (fun h S => ?_)
      refine ex_iload 0 dL_areAll_178 rfl ?_
      refine ex_if_eq (tgt := 187) dL_areAll_180 (by decide) (fun c_180 => ?_) (fun c_180 => absurd (by decide) c_180)
      refine ex_iconst (v := nI 0) dL_areAll_187 (by decide) ?_
      refine ex_icmp_ne (tgt := 206) dL_areAll_188 (by decide) (fun c_188 => absurd (by unfold mayI; rw [if_neg (fun q9 => q9.1 rfl)]) c_188) (fun c_188 => ?_)
      refine ex_aload_n 13 dL_areAll_191 rfl rfl ?_
      refine ex_iload 4 dL_areAll_192 rfl ?_
      refine ex_iconst (v := nI 3) dL_areAll_194 (by decide) ?_
      refine ex_per (j := m) (k := 3) (v := q m 3) vl_L_14 S wf hmn (by decide) rfl (by decide) (Nat.le_of_ble_eq_true rfl) (Nat.le_refl _) (Nat.le_refl _) dL_areAll_195 (fun h S => ?_)
      refine ex_if_lt (tgt := 206) dL_areAll_198 (by decide) (fun c_198 => absurd c_198 (b3)) (fun c_198 => ?_)
      refine ex_iload 3 dL_areAll_201 rfl ?_
      refine ex_if_ge (tgt := 208) dL_areAll_203 (by decide) (fun c_203 => ?_) (fun c_203 => absurd (b2) c_203)
      refine ex_iload 9 dL_areAll_208 rfl ?_
      refine ex_iload 2 dL_areAll_210 rfl ?_
      refine ex_if_eq (tgt := 219) dL_areAll_212 (by decide) (fun c_212 => absurd c_212 (by decide)) (fun c_212 => ?_)
      refine ex_iconst (v := nI 1) dL_areAll_215 (by decide) ?_
      refine ex_goto (tgt := 220) dL_areAll_216 (by decide) ?_
      refine ex_iadd dL_areAll_220 ?_
      refine ex_istore (lv' := [(4, .int ((sumB u q m) + (nI 1))), (13, .int (nI 0)), (12, .int (((u 8) + ((nI 5) * (q m 0))) - ((nI 10) * (q m 2)))), (11, .int (nI 1)), (10, .int (q m 2)), (9, .int (nI m)), (8, .int (sF q 5 m)), (7, .int (sF q 2 m)), (6, .int (sF q 4 m)), (5, .int (sF q 3 m)), (3, .int (u 8)), (2, .int (-6)), (1, .int (nI n)), (0, .ref b)]) dL_areAll_221 (by decide) rfl ?_
      refine ex_iload 9 dL_areAll_223 rfl ?_
      refine ex_aload_n 13 dL_areAll_225 rfl rfl ?_
      refine ex_iload 5 dL_areAll_226 rfl ?_
      refine ex_iconst (v := nI 3) dL_areAll_228 (by decide) ?_
      refine ex_per (j := m) (k := 3) (v := q m 3) vl_L_14 S wf hmn (by decide) rfl (by decide) (Nat.le_of_ble_eq_true rfl) (Nat.le_refl _) (Nat.le_refl _) dL_areAll_229 (fun h S => ?_)
      refine ex_iadd dL_areAll_232 ?_
      refine ex_istore (lv' := [(5, .int ((sF q 3 m) + (q m 3))), (4, .int ((sumB u q m) + (nI 1))), (13, .int (nI 0)), (12, .int (((u 8) + ((nI 5) * (q m 0))) - ((nI 10) * (q m 2)))), (11, .int (nI 1)), (10, .int (q m 2)), (9, .int (nI m)), (8, .int (sF q 5 m)), (7, .int (sF q 2 m)), (6, .int (sF q 4 m)), (3, .int (u 8)), (2, .int (-6)), (1, .int (nI n)), (0, .ref b)]) dL_areAll_233 (by decide) rfl ?_
      refine ex_iload 8 dL_areAll_235 rfl ?_
      refine ex_iload 5 dL_areAll_237 rfl ?_
      refine ex_iadd dL_areAll_239 ?_
      refine ex_istore (lv' := [(7, .int ((sF q 2 m) + (q m 2))), (5, .int ((sF q 3 m) + (q m 3))), (4, .int ((sumB u q m) + (nI 1))), (13, .int (nI 0)), (12, .int (((u 8) + ((nI 5) * (q m 0))) - ((nI 10) * (q m 2)))), (11, .int (nI 1)), (10, .int (q m 2)), (9, .int (nI m)), (8, .int (sF q 5 m)), (6, .int (sF q 4 m)), (3, .int (u 8)), (2, .int (-6)), (1, .int (nI n)), (0, .ref b)]) dL_areAll_240 (by decide) rfl ?_
      refine ex_iload 9 dL_areAll_242 rfl ?_
      refine ex_aload_n 13 dL_areAll_244 rfl rfl ?_
      refine ex_iload 7 dL_areAll_245 rfl ?_
      refine ex_bipush (v := nI 6) dL_areAll_247 (by decide) ?_
      refine ex_per (j := m) (k := 6) (v := q m 4) vl_L_14 S wf hmn (by decide) rfl (by decide) (Nat.le_of_ble_eq_true rfl) (Nat.le_refl _) (Nat.le_refl _) dL_areAll_249 (fun h S => ?_)
      refine ex_iadd dL_areAll_252 ?_
      refine ex_istore (lv' := [(6, .int ((sF q 4 m) + (q m 4))), (7, .int ((sF q 2 m) + (q m 2))), (5, .int ((sF q 3 m) + (q m 3))), (4, .int ((sumB u q m) + (nI 1))), (13, .int (nI 0)), (12, .int (((u 8) + ((nI 5) * (q m 0))) - ((nI 10) * (q m 2)))), (11, .int (nI 1)), (10, .int (q m 2)), (9, .int (nI m)), (8, .int (sF q 5 m)), (3, .int (u 8)), (2, .int (-6)), (1, .int (nI n)), (0, .ref b)]) dL_areAll_253 (by decide) rfl ?_
      refine ex_iload 9 dL_areAll_255 rfl ?_
      refine ex_aload_n 13 dL_areAll_257 rfl rfl ?_
      refine ex_iload 8 dL_areAll_258 rfl ?_
      refine ex_bipush (v := nI 7) dL_areAll_260 (by decide) ?_
      refine ex_per (j := m) (k := 7) (v := q m 5) vl_L_14 S wf hmn (by decide) rfl (by decide) (Nat.le_of_ble_eq_true rfl) (Nat.le_refl _) (Nat.le_refl _) dL_areAll_262 (fun h S => ?_)
      refine ex_iadd dL_areAll_265 ?_
      refine ex_istore (lv' := [(8, .int ((sF q 5 m) + (q m 5))), (6, .int ((sF q 4 m) + (q m 4))), (7, .int ((sF q 2 m) + (q m 2))), (5, .int ((sF q 3 m) + (q m 3))), (4, .int ((sumB u q m) + (nI 1))), (13, .int (nI 0)), (12, .int (((u 8) + ((nI 5) * (q m 0))) - ((nI 10) * (q m 2)))), (11, .int (nI 1)), (10, .int (q m 2)), (9, .int (nI m)), (3, .int (u 8)), (2, .int (-6)), (1, .int (nI n)), (0, .ref b)]) dL_areAll_266 (by decide) rfl ?_
      refine ex_iinc (v := nI (m + 1)) (lv' := [(9, .int (nI (m + 1))), (8, .int ((sF q 5 m) + (q m 5))), (6, .int ((sF q 4 m) + (q m 4))), (7, .int ((sF q 2 m) + (q m 2))), (5, .int ((sF q 3 m) + (q m 3))), (4, .int ((sumB u q m) + (nI 1))), (13, .int (nI 0)), (12, .int (((u 8) + ((nI 5) * (q m 0))) - ((nI 10) * (q m 2)))), (11, .int (nI 1)), (10, .int (q m 2)), (3, .int (u 8)), (2, .int (-6)), (1, .int (nI n)), (0, .ref b)]) 9 dL_areAll_268 rfl (nI_1 m) (by decide) rfl ?_
      refine ex_goto (tgt := 39) dL_areAll_271 (by decide) ?_
      have e2 := ih (m + 1) h (by omega) S
      have e3 : sumB u q (m + 1) = (sumB u q m) + (nI 1) := by rw [sumB, if_neg hb]; rfl
      rw [e3] at e2
      refine ex_lv (lv2 := [(9, .int (nI (m + 1))), (8, .int ((sF q 5 m) + (q m 5))), (7, .int ((sF q 2 m) + (q m 2))), (6, .int ((sF q 4 m) + (q m 4))), (5, .int ((sF q 3 m) + (q m 3))), (4, .int ((sumB u q m) + (nI 1))), (3, .int (u 8)), (2, .int (-6)), (1, .int (nI n)), (0, .ref b)]) [0, 1, 3, 2, 4, 5, 10, 11, 12, 13] rfl ?_
      exact e2

set_option maxRecDepth 20000 in
set_option maxHeartbeats 2000000 in
theorem c_areAllS {G : GG} {l : Launch} {h0 : HP} {z b : Nat} {n : Nat} {t : Nat} {u : Nat → Int32} {q : Nat → Nat → Int32} {R : RX} {K : Nat} {i : Nat} (S0 : PP G h0 z b ((n, (some i), t, u, q), R)) (ok : iv K (n, (some i), t, u, q)) (hK : K < 2 ^ 23) : Ct G l 3 0 0 yL_areAll cL_areAll 14 (some .boolean) [.ref b] h0 z (pL G b z ((n, (some i), t, u, q), R)) := by
  refine Ct.intro (lv := [(0, .ref b)]) (by decide +kernel) (Nat.le_of_ble_eq_true rfl) rfl (fun X Q hQ hnm => ?_)
  have S := S0
  have wf : wfA (n, (some i), t, u, q) := ok.1.1
  have n8 : n ≤ 8 := wf.1
  have tw : t < n ∨ t = 0 := wf.2.2
  have ok1 := ok.1
  have ow := ok.2
  have hi : i < n := wf.2.1 i rfl
  refine ex_aload_n 0 dL_areAll_0 rfl rfl ?_
  refine ex_bipush (v := nI 7) dL_areAll_1 (by decide) ?_
  refine ex_cnt (k := 7) (v := nI n) vl_L_8 S wf (by decide) rfl (by decide) (Nat.le_of_ble_eq_true rfl) (Nat.le_refl _) (Nat.le_refl _) dL_areAll_3 (fun h S => ?_)
  refine ex_istore_n (lv' := [(1, .int (nI n)), (0, .ref b)]) dL_areAll_6 rfl (by decide) rfl ?_
  refine ex_aload_n 1 dL_areAll_7 rfl rfl ?_
  refine ex_bipush (v := nI 9) dL_areAll_8 (by decide) ?_
  refine ex_cnt (k := 9) (v := nI i) vl_L_8 S wf (by decide) rfl (by decide) (Nat.le_of_ble_eq_true rfl) (Nat.le_refl _) (Nat.le_refl _) dL_areAll_10 (fun h S => ?_)
  refine ex_istore_n (lv' := [(2, .int (nI i)), (1, .int (nI n)), (0, .ref b)]) dL_areAll_13 rfl (by decide) rfl ?_
  refine ex_aload_n 2 dL_areAll_14 rfl rfl ?_
  refine ex_bipush (v := nI 8) dL_areAll_15 (by decide) ?_
  refine ex_cnt (k := 8) (v := u 8) vl_L_8 S wf (by decide) rfl (by decide) (Nat.le_of_ble_eq_true rfl) (Nat.le_refl _) (Nat.le_refl _) dL_areAll_17 (fun h S => ?_)
  refine ex_istore_n (lv' := [(3, .int (u 8)), (2, .int (nI i)), (1, .int (nI n)), (0, .ref b)]) dL_areAll_20 rfl (by decide) rfl ?_
  refine ex_iconst (v := nI 0) dL_areAll_21 (by decide) ?_
  refine ex_istore (lv' := [(4, .int (nI 0)), (3, .int (u 8)), (2, .int (nI i)), (1, .int (nI n)), (0, .ref b)]) dL_areAll_22 (by decide) rfl ?_
  refine ex_iconst (v := nI 0) dL_areAll_24 (by decide) ?_
  refine ex_istore (lv' := [(5, .int (nI 0)), (4, .int (nI 0)), (3, .int (u 8)), (2, .int (nI i)), (1, .int (nI n)), (0, .ref b)]) dL_areAll_25 (by decide) rfl ?_
  refine ex_iconst (v := nI 0) dL_areAll_27 (by decide) ?_
  refine ex_istore (lv' := [(6, .int (nI 0)), (5, .int (nI 0)), (4, .int (nI 0)), (3, .int (u 8)), (2, .int (nI i)), (1, .int (nI n)), (0, .ref b)]) dL_areAll_28 (by decide) rfl ?_
  refine ex_iconst (v := nI 0) dL_areAll_30 (by decide) ?_
  refine ex_istore (lv' := [(7, .int (nI 0)), (6, .int (nI 0)), (5, .int (nI 0)), (4, .int (nI 0)), (3, .int (u 8)), (2, .int (nI i)), (1, .int (nI n)), (0, .ref b)]) dL_areAll_31 (by decide) rfl ?_
  refine ex_iconst (v := nI 0) dL_areAll_33 (by decide) ?_
  refine ex_istore (lv' := [(8, .int (nI 0)), (7, .int (nI 0)), (6, .int (nI 0)), (5, .int (nI 0)), (4, .int (nI 0)), (3, .int (u 8)), (2, .int (nI i)), (1, .int (nI n)), (0, .ref b)]) dL_areAll_34 (by decide) rfl ?_
  refine ex_iconst (v := nI 0) dL_areAll_36 (by decide) ?_
  refine ex_istore (lv' := [(9, .int (nI 0)), (8, .int (nI 0)), (7, .int (nI 0)), (6, .int (nI 0)), (5, .int (nI 0)), (4, .int (nI 0)), (3, .int (u 8)), (2, .int (nI i)), (1, .int (nI n)), (0, .ref b)]) dL_areAll_37 (by decide) rfl ?_
  suffices H : ∀ (k m : Nat) (h : HP), m + k = n → PP G h z b ((n, (some i), t, u, q), R) → ex G l X Q 3 0 0 0 0 cL_areAll yL_areAll.cls 14 (some .boolean) h z 39 [(9, .int (nI m)), (8, .int (sF q 5 m)), (7, .int (sF q 2 m)), (6, .int (sF q 4 m)), (5, .int (sF q 3 m)), (4, .int (sumB u q m)), (3, .int (u 8)), (2, .int (nI i)), (1, .int (nI n)), (0, .ref b)] [] from by
    have e2 := H n 0 h (by omega) S
    refine ex_lv (lv2 := [(9, .int (nI 0)), (8, .int (nI 0)), (7, .int (nI 0)), (6, .int (nI 0)), (5, .int (nI 0)), (4, .int (nI 0)), (3, .int (u 8)), (2, .int (nI i)), (1, .int (nI n)), (0, .ref b)]) [0, 1, 2, 3, 4, 5, 6, 7, 8, 9] rfl ?_
    exact e2
  intro k
  induction k with
  | zero =>
    intro m h hm S
    rw [show m = n by omega]
    refine ex_iload 0 dL_areAll_39 rfl ?_
    refine ex_iload_n 8 dL_areAll_41 rfl rfl ?_
    refine ex_icmp_ge (tgt := 274) dL_areAll_42 (by decide) (fun c_42 => ?_) (fun c_42 => absurd ((nI_leI (by omega) (by omega)).mpr (by omega)) c_42)
    refine ex_iload_n 7 dL_areAll_274 rfl rfl ?_
    refine ex_bipush (v := (-6)) dL_areAll_275 (by decide) ?_
    refine ex_icmp_ne (tgt := 315) dL_areAll_277 (by decide) (fun c_277 => ?_) (fun c_277 => absurd c_277 (nI_n6 (by omega)))
    refine ex_iload_n 7 dL_areAll_315 rfl rfl ?_
    refine ex_if_lt (tgt := 339) dL_areAll_316 (by decide) (fun c_316 => absurd c_316 (nI_pos (by omega))) (fun c_316 => ?_)
    refine ex_iload_n 7 dL_areAll_319 rfl rfl ?_
    refine ex_iload_n 8 dL_areAll_320 rfl rfl ?_
    refine ex_icmp_ge (tgt := 339) dL_areAll_321 (by decide) (fun c_321 => absurd c_321 (fun q9 => absurd ((nI_leI (by omega) (by omega)).mp q9) (by omega))) (fun c_321 => ?_)
    refine ex_aload_n 9 dL_areAll_324 rfl rfl ?_
    refine ex_bipush (v := nI 10) dL_areAll_325 (by decide) ?_
    refine ex_cnt (k := 10) (v := (-6)) vl_L_8 S wf (by decide) rfl (by decide) (Nat.le_of_ble_eq_true rfl) (Nat.le_refl _) (Nat.le_refl _) dL_areAll_327 (fun h S => ?_)
    refine ex_bipush (v := (-6)) dL_areAll_330 (by decide) ?_
    refine ex_icmp_ne (tgt := 339) dL_areAll_332 (by decide) (fun c_332 => absurd (rfl) c_332) (fun c_332 => ?_)
    refine ex_iconst (v := nI 1) dL_areAll_335 (by decide) ?_
    refine ex_goto (tgt := 340) dL_areAll_336 (by decide) ?_
    refine ex_istore (lv' := [(9, .int (nI 1)), (8, .int (sF q 5 n)), (7, .int (sF q 2 n)), (6, .int (sF q 4 n)), (5, .int (sF q 3 n)), (4, .int (sumB u q n)), (3, .int (u 8)), (2, .int (nI i)), (1, .int (nI n)), (0, .ref b)]) dL_areAll_340 (by decide) rfl ?_
    refine ex_iload 0 dL_areAll_342 rfl ?_
    refine ex_if_eq (tgt := 464) dL_areAll_344 (by decide) (fun c_344 => absurd c_344 (by decide)) (fun c_344 => ?_)
    refine ex_iload_n 6 dL_areAll_347 rfl rfl ?_
    refine ex_if_lt (tgt := 464) dL_areAll_348 (by decide) (fun c_348 => absurd c_348 (Int32.not_lt.mpr ok1.m8)) (fun c_348 => ?_)
    refine ex_iload_n 6 dL_areAll_351 rfl rfl ?_
    refine ex_bipush (v := nI 100) dL_areAll_352 (by decide) ?_
    refine ex_icmp_ge (tgt := 464) dL_areAll_354 (by decide) (fun c_354 => absurd c_354 (bd_lt ok1.2.2.1 (by decide) (by decide))) (fun c_354 => ?_)
    refine ex_aload_n 9 dL_areAll_357 rfl rfl ?_
    refine ex_bipush (v := nI 11) dL_areAll_358 (by decide) ?_
    refine ex_cnt (k := 11) (v := u 11) vl_L_8 S wf (by decide) rfl (by decide) (Nat.le_of_ble_eq_true rfl) (Nat.le_refl _) (Nat.le_refl _) dL_areAll_360 (fun h S => ?_)
    refine ex_if_lt (tgt := 464) dL_areAll_363 (by decide) (fun c_363 => absurd c_363 (Int32.not_lt.mpr (ok1.2.2.2.1.pos (by omega)))) (fun c_363 => ?_)
    refine ex_aload_n 9 dL_areAll_366 rfl rfl ?_
    refine ex_bipush (v := nI 12) dL_areAll_367 (by decide) ?_
    refine ex_cnt (k := 12) (v := sumB u q n) vl_L_8 S wf (by decide) rfl (by decide) (Nat.le_of_ble_eq_true rfl) (Nat.le_refl _) (Nat.le_refl _) dL_areAll_369 (fun h S => ?_)
    refine ex_iload 5 dL_areAll_372 rfl ?_
    refine ex_icmp_ne (tgt := 464) dL_areAll_374 (by decide) (fun c_374 => absurd (rfl) c_374) (fun c_374 => ?_)
    refine ex_aload_n 9 dL_areAll_377 rfl rfl ?_
    refine ex_bipush (v := nI 17) dL_areAll_378 (by decide) ?_
    refine ex_cnt (k := 17) (v := sumP q n) vl_L_8 S wf (by decide) rfl (by decide) (Nat.le_of_ble_eq_true rfl) (Nat.le_refl _) (Nat.le_refl _) dL_areAll_380 (fun h S => ?_)
    refine ex_iload 4 dL_areAll_383 rfl ?_
    refine ex_icmp_ne (tgt := 464) dL_areAll_385 (by decide) (fun c_385 => absurd (sumP_sF n) c_385) (fun c_385 => ?_)
    refine ex_aload_n 9 dL_areAll_388 rfl rfl ?_
    refine ex_bipush (v := nI 13) dL_areAll_389 (by decide) ?_
    refine ex_cnt (k := 13) (v := u 12) vl_L_8 S wf (by decide) rfl (by decide) (Nat.le_of_ble_eq_true rfl) (Nat.le_refl _) (Nat.le_refl _) dL_areAll_391 (fun h S => ?_)
    refine ex_iload 2 dL_areAll_394 rfl ?_
    refine ex_icmp_ne (tgt := 464) dL_areAll_396 (by decide) (fun c_396 => absurd (ow.1) c_396) (fun c_396 => ?_)
    refine ex_aload_n 9 dL_areAll_399 rfl rfl ?_
    refine ex_bipush (v := nI 14) dL_areAll_400 (by decide) ?_
    refine ex_cnt (k := 14) (v := u 13) vl_L_8 S wf (by decide) rfl (by decide) (Nat.le_of_ble_eq_true rfl) (Nat.le_refl _) (Nat.le_refl _) dL_areAll_402 (fun h S => ?_)
    refine ex_iload 3 dL_areAll_405 rfl ?_
    refine ex_icmp_ne (tgt := 464) dL_areAll_407 (by decide) (fun c_407 => absurd (ow.2.1) c_407) (fun c_407 => ?_)
    refine ex_iload 1 dL_areAll_410 rfl ?_
    refine ex_aload_n 9 dL_areAll_412 rfl rfl ?_
    refine ex_bipush (v := nI 6) dL_areAll_413 (by decide) ?_
    refine ex_cnt (k := 6) (v := u 6) vl_L_8 S wf (by decide) rfl (by decide) (Nat.le_of_ble_eq_true rfl) (Nat.le_refl _) (Nat.le_refl _) dL_areAll_415 (fun h S => ?_)
    refine ex_icmp_gt (tgt := 464) dL_areAll_418 (by decide) (fun c_418 => absurd c_418 (sum_le ow (by omega))) (fun c_418 => ?_)
    refine ex_aload_n 9 dL_areAll_421 rfl rfl ?_
    refine ex_bipush (v := nI 11) dL_areAll_422 (by decide) ?_
    refine ex_cnt (k := 11) (v := u 11) vl_L_8 S wf (by decide) rfl (by decide) (Nat.le_of_ble_eq_true rfl) (Nat.le_refl _) (Nat.le_refl _) dL_areAll_424 (fun h S => ?_)
    refine ex_iload 4 dL_areAll_427 rfl ?_
    refine ex_iadd dL_areAll_429 ?_
    refine ex_aload_n 9 dL_areAll_430 rfl rfl ?_
    refine ex_bipush (v := nI 16) dL_areAll_431 (by decide) ?_
    refine ex_cnt (k := 16) (v := u 15) vl_L_8 S wf (by decide) rfl (by decide) (Nat.le_of_ble_eq_true rfl) (Nat.le_refl _) (Nat.le_refl _) dL_areAll_433 (fun h S => ?_)
    refine ex_iadd dL_areAll_436 ?_
    refine ex_sipush (v := nI 1000) dL_areAll_437 (by decide) ?_
    refine ex_aload_n 9 dL_areAll_440 rfl rfl ?_
    refine ex_bipush (v := nI 18) dL_areAll_441 (by decide) ?_
    refine ex_cnt (k := 18) (v := u 16) vl_L_8 S wf (by decide) rfl (by decide) (Nat.le_of_ble_eq_true rfl) (Nat.le_refl _) (Nat.le_refl _) dL_areAll_443 (fun h S => ?_)
    refine ex_iadd dL_areAll_446 ?_
    refine ex_icmp_ne (tgt := 464) dL_areAll_447 (by decide) (fun c_447 => absurd (ow.2.2.1) c_447) (fun c_447 => ?_)
    refine ex_aload_n 9 dL_areAll_450 rfl rfl ?_
    refine ex_iload_n 8 dL_areAll_451 rfl rfl ?_
    refine ex_iconst (v := nI 0) dL_areAll_452 (by decide) ?_
    refine ex_perN vl_L_14 S wf (by show n ≤ n; omega) (by omega) (by decide) (Nat.le_of_ble_eq_true rfl) (Nat.le_refl _) (Nat.le_refl _) dL_areAll_453 (fun h S => ?_)
    refine ex_iconst (v := (-1)) dL_areAll_456 (by decide) ?_
    refine ex_icmp_ne (tgt := 464) dL_areAll_457 (by decide) (fun c_457 => absurd (rfl) c_457) (fun c_457 => ?_)
    refine ex_iconst (v := nI 1) dL_areAll_460 (by decide) ?_
    refine ex_goto (tgt := 465) dL_areAll_461 (by decide) ?_
    exact ex_zret hQ rfl (by decide) ⟨rfl, rfl, S⟩ dL_areAll_465
  | succ k ih =>
    intro m h hm S
    have hmn : m < n := by omega
    have pp := ow.2.2.2.2.1 m hmn
    have b3 : ¬ q m 3 < 0 := Int32.not_lt.mpr (pp.1.pos (by omega))
    have b2 : 0 ≤ q m 2 := pp.2.2.1.pos (by decide)
    by_cases hb : q m 2 < u 4
    · refine ex_iload 0 dL_areAll_39 rfl ?_
      refine ex_iload_n 8 dL_areAll_41 rfl rfl ?_
      refine ex_icmp_ge (tgt := 274) dL_areAll_42 (by decide) (fun c_42 => absurd c_42 (fun q9 => absurd ((nI_leI (by omega) (by omega)).mp q9) (by omega))) (fun c_42 => ?_)
      refine ex_iload 0 dL_areAll_45 rfl ?_
      refine ex_bipush (v := nI 8) dL_areAll_47 (by decide) ?_
      refine ex_icmp_ge (tgt := 274) dL_areAll_49 (by decide) (fun c_49 => absurd c_49 (fun q9 => absurd ((nI_leI (by omega) (by omega)).mp q9) (by omega))) (fun c_49 => ?_)
      refine ex_aload_n 9 dL_areAll_52 rfl rfl ?_
      refine ex_iload 0 dL_areAll_53 rfl ?_
      refine ex_iconst (v := nI 2) dL_areAll_55 (by decide) ?_
      refine ex_per (j := m) (k := 2) (v := q m 2) vl_L_14 S wf hmn (by decide) rfl (by decide) (Nat.le_of_ble_eq_true rfl) (Nat.le_refl _) (Nat.le_refl _) dL_areAll_56 (fun h S => ?_)
      refine ex_istore (lv' := [(10, .int (q m 2)), (9, .int (nI m)), (8, .int (sF q 5 m)), (7, .int (sF q 2 m)), (6, .int (sF q 4 m)), (5, .int (sF q 3 m)), (4, .int (sumB u q m)), (3, .int (u 8)), (2, .int (nI i)), (1, .int (nI n)), (0, .ref b)]) dL_areAll_59 (by decide) rfl ?_
      refine ex_iload 0 dL_areAll_61 rfl ?_
      refine ex_aload_n 10 dL_areAll_63 rfl rfl ?_
      refine ex_iconst (v := nI 4) dL_areAll_64 (by decide) ?_
      refine ex_cnt (k := 4) (v := u 4) vl_L_8 S wf (by decide) rfl (by decide) (Nat.le_of_ble_eq_true rfl) (Nat.le_refl _) (Nat.le_refl _) dL_areAll_65 (fun h S => ?_)
      refine ex_icmp_lt (tgt := 75) dL_areAll_68 (by decide) (fun c_68 => ?_) (fun c_68 => absurd (hb) c_68)
      refine ex_iconst (v := nI 0) dL_areAll_75 (by decide) ?_
      refine ex_istore (lv' := [(11, .int (nI 0)), (10, .int (q m 2)), (9, .int (nI m)), (8, .int (sF q 5 m)), (7, .int (sF q 2 m)), (6, .int (sF q 4 m)), (5, .int (sF q 3 m)), (4, .int (sumB u q m)), (3, .int (u 8)), (2, .int (nI i)), (1, .int (nI n)), (0, .ref b)]) dL_areAll_76 (by decide) rfl ?_
      refine ex_iload_n 8 dL_areAll_78 rfl rfl ?_
      refine ex_iconst (v := nI 5) dL_areAll_79 (by decide) ?_
      refine ex_aload_n 11 dL_areAll_80 rfl rfl ?_
      refine ex_iload 2 dL_areAll_81 rfl ?_
      refine ex_iconst (v := nI 0) dL_areAll_83 (by decide) ?_
      refine ex_per (j := m) (k := 0) (v := q m 0) vl_L_14 S wf hmn (by decide) rfl (by decide) (Nat.le_of_ble_eq_true rfl) (Nat.le_refl _) (Nat.le_refl _) dL_areAll_84 (fun h S => ?_)
      refine ex_imul dL_areAll_87 ?_
      refine ex_iadd dL_areAll_88 ?_
      refine ex_bipush (v := nI 10) dL_areAll_89 (by decide) ?_
      refine ex_iload 1 dL_areAll_91 rfl ?_
      refine ex_imul dL_areAll_93 ?_
      refine ex_isub dL_areAll_94 ?_
      refine ex_istore (lv' := [(12, .int (((u 8) + ((nI 5) * (q m 0))) - ((nI 10) * (q m 2)))), (11, .int (nI 0)), (10, .int (q m 2)), (9, .int (nI m)), (8, .int (sF q 5 m)), (7, .int (sF q 2 m)), (6, .int (sF q 4 m)), (5, .int (sF q 3 m)), (4, .int (sumB u q m)), (3, .int (u 8)), (2, .int (nI i)), (1, .int (nI n)), (0, .ref b)]) dL_areAll_95 (by decide) rfl ?_
      refine ex_iload_n 10 dL_areAll_97 rfl rfl ?_
      refine ex_if_lt (tgt := 131) dL_areAll_98 (by decide) (fun c_98 => absurd c_98 (nI_pos (by omega))) (fun c_98 => ?_)
      refine ex_iload_n 10 dL_areAll_101 rfl rfl ?_
      refine ex_iload 3 dL_areAll_102 rfl ?_
      refine ex_icmp_eq (tgt := 131) dL_areAll_104 (by decide) (fun c_104 => ?_) (fun c_104 => ?_)
      · have n_104 : i = m := (nI_eq (by omega) (by omega)).mp c_104
        refine ex_iconst (v := nI 0) dL_areAll_131 (by decide) ?_
        refine ex_istore (lv' := [(13, .int (nI 0)), (12, .int (((u 8) + ((nI 5) * (q m 0))) - ((nI 10) * (q m 2)))), (11, .int (nI 0)), (10, .int (q m 2)), (9, .int (nI m)), (8, .int (sF q 5 m)), (7, .int (sF q 2 m)), (6, .int (sF q 4 m)), (5, .int (sF q 3 m)), (4, .int (sumB u q m)), (3, .int (u 8)), (2, .int (nI i)), (1, .int (nI n)), (0, .ref b)]) dL_areAll_132 (by decide) rfl ?_
        refine ex_aload_n 13 dL_areAll_134 rfl rfl ?_
        refine ex_iload 4 dL_areAll_135 rfl ?_
        refine ex_iconst (v := nI 4) dL_areAll_137 (by decide) ?_
        refine ex_per (j := m) (k := 4) (v := bB u q m) vl_L_14 S wf hmn (by decide) rfl (by decide) (Nat.le_of_ble_eq_true rfl) (Nat.le_refl _) (Nat.le_refl _) dL_areAll_138 (fun h S => ?_)
        refine ex_iload 2 dL_areAll_141 rfl ?_
        refine ex_if_eq (tgt := 150) dL_areAll_143 (by decide) (fun c_143 => ?_) (fun c_143 => absurd (by decide) c_143)
        refine ex_iconst (v := nI 0) dL_areAll_150 (by decide) ?_
        refine ex_icmp_ne (tgt := 206) dL_areAll_151 (by decide) (fun c_151 => absurd (by unfold bB; rw [if_pos hb]) c_151) (fun c_151 => ?_)
        refine ex_aload_n 13 dL_areAll_154 rfl rfl ?_
        refine ex_iload 4 dL_areAll_155 rfl ?_
        refine ex_iconst (v := nI 5) dL_areAll_157 (by decide) ?_
        refine ex_per (j := m) (k := 5) (v := scI u q m + nI 1000) vl_L_14 S wf hmn (by decide) rfl (by decide) (Nat.le_of_ble_eq_true rfl) (Nat.le_refl _) (Nat.le_refl _) dL_areAll_158 (fun h S => ?_)
        refine ex_iload 1 dL_areAll_161 rfl ?_
        refine ex_sipush (v := nI 1000) dL_areAll_163 (by decide) ?_
        refine ex_iadd dL_areAll_166 ?_
        refine ex_icmp_ne (tgt := 206) dL_areAll_167 (by decide) (fun c_167 => absurd (rfl) c_167) (fun c_167 => ?_)
        refine ex_aload_n 13 dL_areAll_170 rfl rfl ?_
        refine ex_iload 4 dL_areAll_171 rfl ?_
        refine ex_bipush (v := nI 8) dL_areAll_173 (by decide) ?_
        refine ex_per (j := m) (k := 8) (v := mayI n (some i) u q m) vl_L_14 S wf hmn (by decide) rfl (by decide) (Nat.le_of_ble_eq_true rfl) (Nat.le_refl _) (Nat.le_refl _) dL_areAll_175 (fun h S => ?_)
        refine ex_iload 0 dL_areAll_178 rfl ?_
        refine ex_if_eq (tgt := 187) dL_areAll_180 (by decide) (fun c_180 => ?_) (fun c_180 => absurd (by decide) c_180)
        refine ex_iconst (v := nI 0) dL_areAll_187 (by decide) ?_
        refine ex_icmp_ne (tgt := 206) dL_areAll_188 (by decide) (fun c_188 => absurd (by unfold mayI; rw [if_neg (fun q9 => by first | exact q9.2.1 (by rw [n_104]) | exact q9.2.2.2 c_124)]) c_188) (fun c_188 => ?_)
        refine ex_aload_n 13 dL_areAll_191 rfl rfl ?_
        refine ex_iload 4 dL_areAll_192 rfl ?_
        refine ex_iconst (v := nI 3) dL_areAll_194 (by decide) ?_
        refine ex_per (j := m) (k := 3) (v := q m 3) vl_L_14 S wf hmn (by decide) rfl (by decide) (Nat.le_of_ble_eq_true rfl) (Nat.le_refl _) (Nat.le_refl _) dL_areAll_195 (fun h S => ?_)
        refine ex_if_lt (tgt := 206) dL_areAll_198 (by decide) (fun c_198 => absurd c_198 (b3)) (fun c_198 => ?_)
        refine ex_iload 3 dL_areAll_201 rfl ?_
        refine ex_if_ge (tgt := 208) dL_areAll_203 (by decide) (fun c_203 => ?_) (fun c_203 => absurd (b2) c_203)
        refine ex_iload 9 dL_areAll_208 rfl ?_
        refine ex_iload 2 dL_areAll_210 rfl ?_
        refine ex_if_eq (tgt := 219) dL_areAll_212 (by decide) (fun c_212 => ?_) (fun c_212 => absurd (by decide) c_212)
        refine ex_iconst (v := nI 0) dL_areAll_219 (by decide) ?_
        refine ex_iadd dL_areAll_220 ?_
        refine ex_istore (lv' := [(4, .int ((sumB u q m) + (nI 0))), (13, .int (nI 0)), (12, .int (((u 8) + ((nI 5) * (q m 0))) - ((nI 10) * (q m 2)))), (11, .int (nI 0)), (10, .int (q m 2)), (9, .int (nI m)), (8, .int (sF q 5 m)), (7, .int (sF q 2 m)), (6, .int (sF q 4 m)), (5, .int (sF q 3 m)), (3, .int (u 8)), (2, .int (nI i)), (1, .int (nI n)), (0, .ref b)]) dL_areAll_221 (by decide) rfl ?_
        refine ex_iload 9 dL_areAll_223 rfl ?_
        refine ex_aload_n 13 dL_areAll_225 rfl rfl ?_
        refine ex_iload 5 dL_areAll_226 rfl ?_
        refine ex_iconst (v := nI 3) dL_areAll_228 (by decide) ?_
        refine ex_per (j := m) (k := 3) (v := q m 3) vl_L_14 S wf hmn (by decide) rfl (by decide) (Nat.le_of_ble_eq_true rfl) (Nat.le_refl _) (Nat.le_refl _) dL_areAll_229 (fun h S => ?_)
        refine ex_iadd dL_areAll_232 ?_
        refine ex_istore (lv' := [(5, .int ((sF q 3 m) + (q m 3))), (4, .int ((sumB u q m) + (nI 0))), (13, .int (nI 0)), (12, .int (((u 8) + ((nI 5) * (q m 0))) - ((nI 10) * (q m 2)))), (11, .int (nI 0)), (10, .int (q m 2)), (9, .int (nI m)), (8, .int (sF q 5 m)), (7, .int (sF q 2 m)), (6, .int (sF q 4 m)), (3, .int (u 8)), (2, .int (nI i)), (1, .int (nI n)), (0, .ref b)]) dL_areAll_233 (by decide) rfl ?_
        refine ex_iload 8 dL_areAll_235 rfl ?_
        refine ex_iload 5 dL_areAll_237 rfl ?_
        refine ex_iadd dL_areAll_239 ?_
        refine ex_istore (lv' := [(7, .int ((sF q 2 m) + (q m 2))), (5, .int ((sF q 3 m) + (q m 3))), (4, .int ((sumB u q m) + (nI 0))), (13, .int (nI 0)), (12, .int (((u 8) + ((nI 5) * (q m 0))) - ((nI 10) * (q m 2)))), (11, .int (nI 0)), (10, .int (q m 2)), (9, .int (nI m)), (8, .int (sF q 5 m)), (6, .int (sF q 4 m)), (3, .int (u 8)), (2, .int (nI i)), (1, .int (nI n)), (0, .ref b)]) dL_areAll_240 (by decide) rfl ?_
        refine ex_iload 9 dL_areAll_242 rfl ?_
        refine ex_aload_n 13 dL_areAll_244 rfl rfl ?_
        refine ex_iload 7 dL_areAll_245 rfl ?_
        refine ex_bipush (v := nI 6) dL_areAll_247 (by decide) ?_
        refine ex_per (j := m) (k := 6) (v := q m 4) vl_L_14 S wf hmn (by decide) rfl (by decide) (Nat.le_of_ble_eq_true rfl) (Nat.le_refl _) (Nat.le_refl _) dL_areAll_249 (fun h S => ?_)
        refine ex_iadd dL_areAll_252 ?_
        refine ex_istore (lv' := [(6, .int ((sF q 4 m) + (q m 4))), (7, .int ((sF q 2 m) + (q m 2))), (5, .int ((sF q 3 m) + (q m 3))), (4, .int ((sumB u q m) + (nI 0))), (13, .int (nI 0)), (12, .int (((u 8) + ((nI 5) * (q m 0))) - ((nI 10) * (q m 2)))), (11, .int (nI 0)), (10, .int (q m 2)), (9, .int (nI m)), (8, .int (sF q 5 m)), (3, .int (u 8)), (2, .int (nI i)), (1, .int (nI n)), (0, .ref b)]) dL_areAll_253 (by decide) rfl ?_
        refine ex_iload 9 dL_areAll_255 rfl ?_
        refine ex_aload_n 13 dL_areAll_257 rfl rfl ?_
        refine ex_iload 8 dL_areAll_258 rfl ?_
        refine ex_bipush (v := nI 7) dL_areAll_260 (by decide) ?_
        refine ex_per (j := m) (k := 7) (v := q m 5) vl_L_14 S wf hmn (by decide) rfl (by decide) (Nat.le_of_ble_eq_true rfl) (Nat.le_refl _) (Nat.le_refl _) dL_areAll_262 (fun h S => ?_)
        refine ex_iadd dL_areAll_265 ?_
        refine ex_istore (lv' := [(8, .int ((sF q 5 m) + (q m 5))), (6, .int ((sF q 4 m) + (q m 4))), (7, .int ((sF q 2 m) + (q m 2))), (5, .int ((sF q 3 m) + (q m 3))), (4, .int ((sumB u q m) + (nI 0))), (13, .int (nI 0)), (12, .int (((u 8) + ((nI 5) * (q m 0))) - ((nI 10) * (q m 2)))), (11, .int (nI 0)), (10, .int (q m 2)), (9, .int (nI m)), (3, .int (u 8)), (2, .int (nI i)), (1, .int (nI n)), (0, .ref b)]) dL_areAll_266 (by decide) rfl ?_
        refine ex_iinc (v := nI (m + 1)) (lv' := [(9, .int (nI (m + 1))), (8, .int ((sF q 5 m) + (q m 5))), (6, .int ((sF q 4 m) + (q m 4))), (7, .int ((sF q 2 m) + (q m 2))), (5, .int ((sF q 3 m) + (q m 3))), (4, .int ((sumB u q m) + (nI 0))), (13, .int (nI 0)), (12, .int (((u 8) + ((nI 5) * (q m 0))) - ((nI 10) * (q m 2)))), (11, .int (nI 0)), (10, .int (q m 2)), (3, .int (u 8)), (2, .int (nI i)), (1, .int (nI n)), (0, .ref b)]) 9 dL_areAll_268 rfl (nI_1 m) (by decide) rfl ?_
        refine ex_goto (tgt := 39) dL_areAll_271 (by decide) ?_
        have e2 := ih (m + 1) h (by omega) S
        have e3 : sumB u q (m + 1) = (sumB u q m) + (nI 0) := by rw [sumB, if_pos hb, show nI 0 = 0 from rfl, Int32.add_zero]
        rw [e3] at e2
        refine ex_lv (lv2 := [(9, .int (nI (m + 1))), (8, .int ((sF q 5 m) + (q m 5))), (7, .int ((sF q 2 m) + (q m 2))), (6, .int ((sF q 4 m) + (q m 4))), (5, .int ((sF q 3 m) + (q m 3))), (4, .int ((sumB u q m) + (nI 0))), (3, .int (u 8)), (2, .int (nI i)), (1, .int (nI n)), (0, .ref b)]) [0, 1, 3, 2, 4, 5, 10, 11, 12, 13] rfl ?_
        exact e2
      · have n_104 : ¬ (i = m) := fun q9 => c_104 ((nI_eq (by omega) (by omega)).mpr q9)
        refine ex_iload 1 dL_areAll_107 rfl ?_
        refine ex_if_ne (tgt := 131) dL_areAll_109 (by decide) (fun c_109 => absurd (by decide) c_109) (fun c_109 => ?_)
        refine ex_aload_n 12 dL_areAll_112 rfl rfl ?_
        refine ex_iload 3 dL_areAll_113 rfl ?_
        refine ex_iconst (v := nI 3) dL_areAll_115 (by decide) ?_
        refine ex_per (j := m) (k := 3) (v := q m 3) vl_L_14 S wf hmn (by decide) rfl (by decide) (Nat.le_of_ble_eq_true rfl) (Nat.le_refl _) (Nat.le_refl _) dL_areAll_116 (fun h S => ?_)
        refine ex_aload_n 12 dL_areAll_119 rfl rfl ?_
        refine ex_iconst (v := nI 2) dL_areAll_120 (by decide) ?_
        refine ex_cnt (k := 2) (v := u 2) vl_L_8 S wf (by decide) rfl (by decide) (Nat.le_of_ble_eq_true rfl) (Nat.le_refl _) (Nat.le_refl _) dL_areAll_121 (fun h S => ?_)
        refine ex_icmp_lt (tgt := 131) dL_areAll_124 (by decide) (fun c_124 => ?_) (fun c_124 => ?_)
        · refine ex_iconst (v := nI 0) dL_areAll_131 (by decide) ?_
          refine ex_istore (lv' := [(13, .int (nI 0)), (12, .int (((u 8) + ((nI 5) * (q m 0))) - ((nI 10) * (q m 2)))), (11, .int (nI 0)), (10, .int (q m 2)), (9, .int (nI m)), (8, .int (sF q 5 m)), (7, .int (sF q 2 m)), (6, .int (sF q 4 m)), (5, .int (sF q 3 m)), (4, .int (sumB u q m)), (3, .int (u 8)), (2, .int (nI i)), (1, .int (nI n)), (0, .ref b)]) dL_areAll_132 (by decide) rfl ?_
          refine ex_aload_n 13 dL_areAll_134 rfl rfl ?_
          refine ex_iload 4 dL_areAll_135 rfl ?_
          refine ex_iconst (v := nI 4) dL_areAll_137 (by decide) ?_
          refine ex_per (j := m) (k := 4) (v := bB u q m) vl_L_14 S wf hmn (by decide) rfl (by decide) (Nat.le_of_ble_eq_true rfl) (Nat.le_refl _) (Nat.le_refl _) dL_areAll_138 (fun h S => ?_)
          refine ex_iload 2 dL_areAll_141 rfl ?_
          refine ex_if_eq (tgt := 150) dL_areAll_143 (by decide) (fun c_143 => ?_) (fun c_143 => absurd (by decide) c_143)
          refine ex_iconst (v := nI 0) dL_areAll_150 (by decide) ?_
          refine ex_icmp_ne (tgt := 206) dL_areAll_151 (by decide) (fun c_151 => absurd (by unfold bB; rw [if_pos hb]) c_151) (fun c_151 => ?_)
          refine ex_aload_n 13 dL_areAll_154 rfl rfl ?_
          refine ex_iload 4 dL_areAll_155 rfl ?_
          refine ex_iconst (v := nI 5) dL_areAll_157 (by decide) ?_
          refine ex_per (j := m) (k := 5) (v := scI u q m + nI 1000) vl_L_14 S wf hmn (by decide) rfl (by decide) (Nat.le_of_ble_eq_true rfl) (Nat.le_refl _) (Nat.le_refl _) dL_areAll_158 (fun h S => ?_)
          refine ex_iload 1 dL_areAll_161 rfl ?_
          refine ex_sipush (v := nI 1000) dL_areAll_163 (by decide) ?_
          refine ex_iadd dL_areAll_166 ?_
          refine ex_icmp_ne (tgt := 206) dL_areAll_167 (by decide) (fun c_167 => absurd (rfl) c_167) (fun c_167 => ?_)
          refine ex_aload_n 13 dL_areAll_170 rfl rfl ?_
          refine ex_iload 4 dL_areAll_171 rfl ?_
          refine ex_bipush (v := nI 8) dL_areAll_173 (by decide) ?_
          refine ex_per (j := m) (k := 8) (v := mayI n (some i) u q m) vl_L_14 S wf hmn (by decide) rfl (by decide) (Nat.le_of_ble_eq_true rfl) (Nat.le_refl _) (Nat.le_refl _) dL_areAll_175 (fun h S => ?_)
          refine ex_iload 0 dL_areAll_178 rfl ?_
          refine ex_if_eq (tgt := 187) dL_areAll_180 (by decide) (fun c_180 => ?_) (fun c_180 => absurd (by decide) c_180)
          refine ex_iconst (v := nI 0) dL_areAll_187 (by decide) ?_
          refine ex_icmp_ne (tgt := 206) dL_areAll_188 (by decide) (fun c_188 => absurd (by unfold mayI; rw [if_neg (fun q9 => by first | exact q9.2.1 (by rw [n_104]) | exact q9.2.2.2 c_124)]) c_188) (fun c_188 => ?_)
          refine ex_aload_n 13 dL_areAll_191 rfl rfl ?_
          refine ex_iload 4 dL_areAll_192 rfl ?_
          refine ex_iconst (v := nI 3) dL_areAll_194 (by decide) ?_
          refine ex_per (j := m) (k := 3) (v := q m 3) vl_L_14 S wf hmn (by decide) rfl (by decide) (Nat.le_of_ble_eq_true rfl) (Nat.le_refl _) (Nat.le_refl _) dL_areAll_195 (fun h S => ?_)
          refine ex_if_lt (tgt := 206) dL_areAll_198 (by decide) (fun c_198 => absurd c_198 (b3)) (fun c_198 => ?_)
          refine ex_iload 3 dL_areAll_201 rfl ?_
          refine ex_if_ge (tgt := 208) dL_areAll_203 (by decide) (fun c_203 => ?_) (fun c_203 => absurd (b2) c_203)
          refine ex_iload 9 dL_areAll_208 rfl ?_
          refine ex_iload 2 dL_areAll_210 rfl ?_
          refine ex_if_eq (tgt := 219) dL_areAll_212 (by decide) (fun c_212 => ?_) (fun c_212 => absurd (by decide) c_212)
          refine ex_iconst (v := nI 0) dL_areAll_219 (by decide) ?_
          refine ex_iadd dL_areAll_220 ?_
          refine ex_istore (lv' := [(4, .int ((sumB u q m) + (nI 0))), (13, .int (nI 0)), (12, .int (((u 8) + ((nI 5) * (q m 0))) - ((nI 10) * (q m 2)))), (11, .int (nI 0)), (10, .int (q m 2)), (9, .int (nI m)), (8, .int (sF q 5 m)), (7, .int (sF q 2 m)), (6, .int (sF q 4 m)), (5, .int (sF q 3 m)), (3, .int (u 8)), (2, .int (nI i)), (1, .int (nI n)), (0, .ref b)]) dL_areAll_221 (by decide) rfl ?_
          refine ex_iload 9 dL_areAll_223 rfl ?_
          refine ex_aload_n 13 dL_areAll_225 rfl rfl ?_
          refine ex_iload 5 dL_areAll_226 rfl ?_
          refine ex_iconst (v := nI 3) dL_areAll_228 (by decide) ?_
          refine ex_per (j := m) (k := 3) (v := q m 3) vl_L_14 S wf hmn (by decide) rfl (by decide) (Nat.le_of_ble_eq_true rfl) (Nat.le_refl _) (Nat.le_refl _) dL_areAll_229 (fun h S => ?_)
          refine ex_iadd dL_areAll_232 ?_
          refine ex_istore (lv' := [(5, .int ((sF q 3 m) + (q m 3))), (4, .int ((sumB u q m) + (nI 0))), (13, .int (nI 0)), (12, .int (((u 8) + ((nI 5) * (q m 0))) - ((nI 10) * (q m 2)))), (11, .int (nI 0)), (10, .int (q m 2)), (9, .int (nI m)), (8, .int (sF q 5 m)), (7, .int (sF q 2 m)), (6, .int (sF q 4 m)), (3, .int (u 8)), (2, .int (nI i)), (1, .int (nI n)), (0, .ref b)]) dL_areAll_233 (by decide) rfl ?_
          refine ex_iload 8 dL_areAll_235 rfl ?_
          refine ex_iload 5 dL_areAll_237 rfl ?_
          refine ex_iadd dL_areAll_239 ?_
          refine ex_istore (lv' := [(7, .int ((sF q 2 m) + (q m 2))), (5, .int ((sF q 3 m) + (q m 3))), (4, .int ((sumB u q m) + (nI 0))), (13, .int (nI 0)), (12, .int (((u 8) + ((nI 5) * (q m 0))) - ((nI 10) * (q m 2)))), (11, .int (nI 0)), (10, .int (q m 2)), (9, .int (nI m)), (8, .int (sF q 5 m)), (6, .int (sF q 4 m)), (3, .int (u 8)), (2, .int (nI i)), (1, .int (nI n)), (0, .ref b)]) dL_areAll_240 (by decide) rfl ?_
          refine ex_iload 9 dL_areAll_242 rfl ?_
          refine ex_aload_n 13 dL_areAll_244 rfl rfl ?_
          refine ex_iload 7 dL_areAll_245 rfl ?_
          refine ex_bipush (v := nI 6) dL_areAll_247 (by decide) ?_
          refine ex_per (j := m) (k := 6) (v := q m 4) vl_L_14 S wf hmn (by decide) rfl (by decide) (Nat.le_of_ble_eq_true rfl) (Nat.le_refl _) (Nat.le_refl _) dL_areAll_249 (fun h S => ?_)
          refine ex_iadd dL_areAll_252 ?_
          refine ex_istore (lv' := [(6, .int ((sF q 4 m) + (q m 4))), (7, .int ((sF q 2 m) + (q m 2))), (5, .int ((sF q 3 m) + (q m 3))), (4, .int ((sumB u q m) + (nI 0))), (13, .int (nI 0)), (12, .int (((u 8) + ((nI 5) * (q m 0))) - ((nI 10) * (q m 2)))), (11, .int (nI 0)), (10, .int (q m 2)), (9, .int (nI m)), (8, .int (sF q 5 m)), (3, .int (u 8)), (2, .int (nI i)), (1, .int (nI n)), (0, .ref b)]) dL_areAll_253 (by decide) rfl ?_
          refine ex_iload 9 dL_areAll_255 rfl ?_
          refine ex_aload_n 13 dL_areAll_257 rfl rfl ?_
          refine ex_iload 8 dL_areAll_258 rfl ?_
          refine ex_bipush (v := nI 7) dL_areAll_260 (by decide) ?_
          refine ex_per (j := m) (k := 7) (v := q m 5) vl_L_14 S wf hmn (by decide) rfl (by decide) (Nat.le_of_ble_eq_true rfl) (Nat.le_refl _) (Nat.le_refl _) dL_areAll_262 (fun h S => ?_)
          refine ex_iadd dL_areAll_265 ?_
          refine ex_istore (lv' := [(8, .int ((sF q 5 m) + (q m 5))), (6, .int ((sF q 4 m) + (q m 4))), (7, .int ((sF q 2 m) + (q m 2))), (5, .int ((sF q 3 m) + (q m 3))), (4, .int ((sumB u q m) + (nI 0))), (13, .int (nI 0)), (12, .int (((u 8) + ((nI 5) * (q m 0))) - ((nI 10) * (q m 2)))), (11, .int (nI 0)), (10, .int (q m 2)), (9, .int (nI m)), (3, .int (u 8)), (2, .int (nI i)), (1, .int (nI n)), (0, .ref b)]) dL_areAll_266 (by decide) rfl ?_
          refine ex_iinc (v := nI (m + 1)) (lv' := [(9, .int (nI (m + 1))), (8, .int ((sF q 5 m) + (q m 5))), (6, .int ((sF q 4 m) + (q m 4))), (7, .int ((sF q 2 m) + (q m 2))), (5, .int ((sF q 3 m) + (q m 3))), (4, .int ((sumB u q m) + (nI 0))), (13, .int (nI 0)), (12, .int (((u 8) + ((nI 5) * (q m 0))) - ((nI 10) * (q m 2)))), (11, .int (nI 0)), (10, .int (q m 2)), (3, .int (u 8)), (2, .int (nI i)), (1, .int (nI n)), (0, .ref b)]) 9 dL_areAll_268 rfl (nI_1 m) (by decide) rfl ?_
          refine ex_goto (tgt := 39) dL_areAll_271 (by decide) ?_
          have e2 := ih (m + 1) h (by omega) S
          have e3 : sumB u q (m + 1) = (sumB u q m) + (nI 0) := by rw [sumB, if_pos hb, show nI 0 = 0 from rfl, Int32.add_zero]
          rw [e3] at e2
          refine ex_lv (lv2 := [(9, .int (nI (m + 1))), (8, .int ((sF q 5 m) + (q m 5))), (7, .int ((sF q 2 m) + (q m 2))), (6, .int ((sF q 4 m) + (q m 4))), (5, .int ((sF q 3 m) + (q m 3))), (4, .int ((sumB u q m) + (nI 0))), (3, .int (u 8)), (2, .int (nI i)), (1, .int (nI n)), (0, .ref b)]) [0, 1, 3, 2, 4, 5, 10, 11, 12, 13] rfl ?_
          exact e2
        · refine ex_iconst (v := nI 1) dL_areAll_127 (by decide) ?_
          refine ex_goto (tgt := 132) dL_areAll_128 (by decide) ?_
          refine ex_istore (lv' := [(13, .int (nI 1)), (12, .int (((u 8) + ((nI 5) * (q m 0))) - ((nI 10) * (q m 2)))), (11, .int (nI 0)), (10, .int (q m 2)), (9, .int (nI m)), (8, .int (sF q 5 m)), (7, .int (sF q 2 m)), (6, .int (sF q 4 m)), (5, .int (sF q 3 m)), (4, .int (sumB u q m)), (3, .int (u 8)), (2, .int (nI i)), (1, .int (nI n)), (0, .ref b)]) dL_areAll_132 (by decide) rfl ?_
          refine ex_aload_n 13 dL_areAll_134 rfl rfl ?_
          refine ex_iload 4 dL_areAll_135 rfl ?_
          refine ex_iconst (v := nI 4) dL_areAll_137 (by decide) ?_
          refine ex_per (j := m) (k := 4) (v := bB u q m) vl_L_14 S wf hmn (by decide) rfl (by decide) (Nat.le_of_ble_eq_true rfl) (Nat.le_refl _) (Nat.le_refl _) dL_areAll_138 (fun h S => ?_)
          refine ex_iload 2 dL_areAll_141 rfl ?_
          refine ex_if_eq (tgt := 150) dL_areAll_143 (by decide) (fun c_143 => ?_) (fun c_143 => absurd (by decide) c_143)
          refine ex_iconst (v := nI 0) dL_areAll_150 (by decide) ?_
          refine ex_icmp_ne (tgt := 206) dL_areAll_151 (by decide) (fun c_151 => absurd (by unfold bB; rw [if_pos hb]) c_151) (fun c_151 => ?_)
          refine ex_aload_n 13 dL_areAll_154 rfl rfl ?_
          refine ex_iload 4 dL_areAll_155 rfl ?_
          refine ex_iconst (v := nI 5) dL_areAll_157 (by decide) ?_
          refine ex_per (j := m) (k := 5) (v := scI u q m + nI 1000) vl_L_14 S wf hmn (by decide) rfl (by decide) (Nat.le_of_ble_eq_true rfl) (Nat.le_refl _) (Nat.le_refl _) dL_areAll_158 (fun h S => ?_)
          refine ex_iload 1 dL_areAll_161 rfl ?_
          refine ex_sipush (v := nI 1000) dL_areAll_163 (by decide) ?_
          refine ex_iadd dL_areAll_166 ?_
          refine ex_icmp_ne (tgt := 206) dL_areAll_167 (by decide) (fun c_167 => absurd (rfl) c_167) (fun c_167 => ?_)
          refine ex_aload_n 13 dL_areAll_170 rfl rfl ?_
          refine ex_iload 4 dL_areAll_171 rfl ?_
          refine ex_bipush (v := nI 8) dL_areAll_173 (by decide) ?_
          refine ex_per (j := m) (k := 8) (v := mayI n (some i) u q m) vl_L_14 S wf hmn (by decide) rfl (by decide) (Nat.le_of_ble_eq_true rfl) (Nat.le_refl _) (Nat.le_refl _) dL_areAll_175 (fun h S => ?_)
          refine ex_iload 0 dL_areAll_178 rfl ?_
          refine ex_if_eq (tgt := 187) dL_areAll_180 (by decide) (fun c_180 => absurd c_180 (by decide)) (fun c_180 => ?_)
          refine ex_iconst (v := nI 1) dL_areAll_183 (by decide) ?_
          refine ex_goto (tgt := 188) dL_areAll_184 (by decide) ?_
          refine ex_icmp_ne (tgt := 206) dL_areAll_188 (by decide) (fun c_188 => absurd (by unfold mayI; rw [if_pos ⟨by simp, fun q9 => n_104 (Option.some.inj q9), hb, c_124⟩]) c_188) (fun c_188 => ?_)
          refine ex_aload_n 13 dL_areAll_191 rfl rfl ?_
          refine ex_iload 4 dL_areAll_192 rfl ?_
          refine ex_iconst (v := nI 3) dL_areAll_194 (by decide) ?_
          refine ex_per (j := m) (k := 3) (v := q m 3) vl_L_14 S wf hmn (by decide) rfl (by decide) (Nat.le_of_ble_eq_true rfl) (Nat.le_refl _) (Nat.le_refl _) dL_areAll_195 (fun h S => ?_)
          refine ex_if_lt (tgt := 206) dL_areAll_198 (by decide) (fun c_198 => absurd c_198 (b3)) (fun c_198 => ?_)
          refine ex_iload 3 dL_areAll_201 rfl ?_
          refine ex_if_ge (tgt := 208) dL_areAll_203 (by decide) (fun c_203 => ?_) (fun c_203 => absurd (b2) c_203)
          refine ex_iload 9 dL_areAll_208 rfl ?_
          refine ex_iload 2 dL_areAll_210 rfl ?_
          refine ex_if_eq (tgt := 219) dL_areAll_212 (by decide) (fun c_212 => ?_) (fun c_212 => absurd (by decide) c_212)
          refine ex_iconst (v := nI 0) dL_areAll_219 (by decide) ?_
          refine ex_iadd dL_areAll_220 ?_
          refine ex_istore (lv' := [(4, .int ((sumB u q m) + (nI 0))), (13, .int (nI 1)), (12, .int (((u 8) + ((nI 5) * (q m 0))) - ((nI 10) * (q m 2)))), (11, .int (nI 0)), (10, .int (q m 2)), (9, .int (nI m)), (8, .int (sF q 5 m)), (7, .int (sF q 2 m)), (6, .int (sF q 4 m)), (5, .int (sF q 3 m)), (3, .int (u 8)), (2, .int (nI i)), (1, .int (nI n)), (0, .ref b)]) dL_areAll_221 (by decide) rfl ?_
          refine ex_iload 9 dL_areAll_223 rfl ?_
          refine ex_aload_n 13 dL_areAll_225 rfl rfl ?_
          refine ex_iload 5 dL_areAll_226 rfl ?_
          refine ex_iconst (v := nI 3) dL_areAll_228 (by decide) ?_
          refine ex_per (j := m) (k := 3) (v := q m 3) vl_L_14 S wf hmn (by decide) rfl (by decide) (Nat.le_of_ble_eq_true rfl) (Nat.le_refl _) (Nat.le_refl _) dL_areAll_229 (fun h S => ?_)
          refine ex_iadd dL_areAll_232 ?_
          refine ex_istore (lv' := [(5, .int ((sF q 3 m) + (q m 3))), (4, .int ((sumB u q m) + (nI 0))), (13, .int (nI 1)), (12, .int (((u 8) + ((nI 5) * (q m 0))) - ((nI 10) * (q m 2)))), (11, .int (nI 0)), (10, .int (q m 2)), (9, .int (nI m)), (8, .int (sF q 5 m)), (7, .int (sF q 2 m)), (6, .int (sF q 4 m)), (3, .int (u 8)), (2, .int (nI i)), (1, .int (nI n)), (0, .ref b)]) dL_areAll_233 (by decide) rfl ?_
          refine ex_iload 8 dL_areAll_235 rfl ?_
          refine ex_iload 5 dL_areAll_237 rfl ?_
          refine ex_iadd dL_areAll_239 ?_
          refine ex_istore (lv' := [(7, .int ((sF q 2 m) + (q m 2))), (5, .int ((sF q 3 m) + (q m 3))), (4, .int ((sumB u q m) + (nI 0))), (13, .int (nI 1)), (12, .int (((u 8) + ((nI 5) * (q m 0))) - ((nI 10) * (q m 2)))), (11, .int (nI 0)), (10, .int (q m 2)), (9, .int (nI m)), (8, .int (sF q 5 m)), (6, .int (sF q 4 m)), (3, .int (u 8)), (2, .int (nI i)), (1, .int (nI n)), (0, .ref b)]) dL_areAll_240 (by decide) rfl ?_
          refine ex_iload 9 dL_areAll_242 rfl ?_
          refine ex_aload_n 13 dL_areAll_244 rfl rfl ?_
          refine ex_iload 7 dL_areAll_245 rfl ?_
          refine ex_bipush (v := nI 6) dL_areAll_247 (by decide) ?_
          refine ex_per (j := m) (k := 6) (v := q m 4) vl_L_14 S wf hmn (by decide) rfl (by decide) (Nat.le_of_ble_eq_true rfl) (Nat.le_refl _) (Nat.le_refl _) dL_areAll_249 (fun h S => ?_)
          refine ex_iadd dL_areAll_252 ?_
          refine ex_istore (lv' := [(6, .int ((sF q 4 m) + (q m 4))), (7, .int ((sF q 2 m) + (q m 2))), (5, .int ((sF q 3 m) + (q m 3))), (4, .int ((sumB u q m) + (nI 0))), (13, .int (nI 1)), (12, .int (((u 8) + ((nI 5) * (q m 0))) - ((nI 10) * (q m 2)))), (11, .int (nI 0)), (10, .int (q m 2)), (9, .int (nI m)), (8, .int (sF q 5 m)), (3, .int (u 8)), (2, .int (nI i)), (1, .int (nI n)), (0, .ref b)]) dL_areAll_253 (by decide) rfl ?_
          refine ex_iload 9 dL_areAll_255 rfl ?_
          refine ex_aload_n 13 dL_areAll_257 rfl rfl ?_
          refine ex_iload 8 dL_areAll_258 rfl ?_
          refine ex_bipush (v := nI 7) dL_areAll_260 (by decide) ?_
          refine ex_per (j := m) (k := 7) (v := q m 5) vl_L_14 S wf hmn (by decide) rfl (by decide) (Nat.le_of_ble_eq_true rfl) (Nat.le_refl _) (Nat.le_refl _) dL_areAll_262 (fun h S => ?_)
          refine ex_iadd dL_areAll_265 ?_
          refine ex_istore (lv' := [(8, .int ((sF q 5 m) + (q m 5))), (6, .int ((sF q 4 m) + (q m 4))), (7, .int ((sF q 2 m) + (q m 2))), (5, .int ((sF q 3 m) + (q m 3))), (4, .int ((sumB u q m) + (nI 0))), (13, .int (nI 1)), (12, .int (((u 8) + ((nI 5) * (q m 0))) - ((nI 10) * (q m 2)))), (11, .int (nI 0)), (10, .int (q m 2)), (9, .int (nI m)), (3, .int (u 8)), (2, .int (nI i)), (1, .int (nI n)), (0, .ref b)]) dL_areAll_266 (by decide) rfl ?_
          refine ex_iinc (v := nI (m + 1)) (lv' := [(9, .int (nI (m + 1))), (8, .int ((sF q 5 m) + (q m 5))), (6, .int ((sF q 4 m) + (q m 4))), (7, .int ((sF q 2 m) + (q m 2))), (5, .int ((sF q 3 m) + (q m 3))), (4, .int ((sumB u q m) + (nI 0))), (13, .int (nI 1)), (12, .int (((u 8) + ((nI 5) * (q m 0))) - ((nI 10) * (q m 2)))), (11, .int (nI 0)), (10, .int (q m 2)), (3, .int (u 8)), (2, .int (nI i)), (1, .int (nI n)), (0, .ref b)]) 9 dL_areAll_268 rfl (nI_1 m) (by decide) rfl ?_
          refine ex_goto (tgt := 39) dL_areAll_271 (by decide) ?_
          have e2 := ih (m + 1) h (by omega) S
          have e3 : sumB u q (m + 1) = (sumB u q m) + (nI 0) := by rw [sumB, if_pos hb, show nI 0 = 0 from rfl, Int32.add_zero]
          rw [e3] at e2
          refine ex_lv (lv2 := [(9, .int (nI (m + 1))), (8, .int ((sF q 5 m) + (q m 5))), (7, .int ((sF q 2 m) + (q m 2))), (6, .int ((sF q 4 m) + (q m 4))), (5, .int ((sF q 3 m) + (q m 3))), (4, .int ((sumB u q m) + (nI 0))), (3, .int (u 8)), (2, .int (nI i)), (1, .int (nI n)), (0, .ref b)]) [0, 1, 3, 2, 4, 5, 10, 11, 12, 13] rfl ?_
          exact e2
    · refine ex_iload 0 dL_areAll_39 rfl ?_
      refine ex_iload_n 8 dL_areAll_41 rfl rfl ?_
      refine ex_icmp_ge (tgt := 274) dL_areAll_42 (by decide) (fun c_42 => absurd c_42 (fun q9 => absurd ((nI_leI (by omega) (by omega)).mp q9) (by omega))) (fun c_42 => ?_)
      refine ex_iload 0 dL_areAll_45 rfl ?_
      refine ex_bipush (v := nI 8) dL_areAll_47 (by decide) ?_
      refine ex_icmp_ge (tgt := 274) dL_areAll_49 (by decide) (fun c_49 => absurd c_49 (fun q9 => absurd ((nI_leI (by omega) (by omega)).mp q9) (by omega))) (fun c_49 => ?_)
      refine ex_aload_n 9 dL_areAll_52 rfl rfl ?_
      refine ex_iload 0 dL_areAll_53 rfl ?_
      refine ex_iconst (v := nI 2) dL_areAll_55 (by decide) ?_
      refine ex_per (j := m) (k := 2) (v := q m 2) vl_L_14 S wf hmn (by decide) rfl (by decide) (Nat.le_of_ble_eq_true rfl) (Nat.le_refl _) (Nat.le_refl _) dL_areAll_56 (fun h S => ?_)
      refine ex_istore (lv' := [(10, .int (q m 2)), (9, .int (nI m)), (8, .int (sF q 5 m)), (7, .int (sF q 2 m)), (6, .int (sF q 4 m)), (5, .int (sF q 3 m)), (4, .int (sumB u q m)), (3, .int (u 8)), (2, .int (nI i)), (1, .int (nI n)), (0, .ref b)]) dL_areAll_59 (by decide) rfl ?_
      refine ex_iload 0 dL_areAll_61 rfl ?_
      refine ex_aload_n 10 dL_areAll_63 rfl rfl ?_
      refine ex_iconst (v := nI 4) dL_areAll_64 (by decide) ?_
      refine ex_cnt (k := 4) (v := u 4) vl_L_8 S wf (by decide) rfl (by decide) (Nat.le_of_ble_eq_true rfl) (Nat.le_refl _) (Nat.le_refl _) dL_areAll_65 (fun h S => ?_)
      refine ex_icmp_lt (tgt := 75) dL_areAll_68 (by decide) (fun c_68 => absurd c_68 (hb)) (fun c_68 => ?_)
      refine ex_iconst (v := nI 1) dL_areAll_71 (by decide) ?_
      refine ex_goto (tgt := 76) dL_areAll_72 (by decide) ?_
      refine ex_istore (lv' := [(11, .int (nI 1)), (10, .int (q m 2)), (9, .int (nI m)), (8, .int (sF q 5 m)), (7, .int (sF q 2 m)), (6, .int (sF q 4 m)), (5, .int (sF q 3 m)), (4, .int (sumB u q m)), (3, .int (u 8)), (2, .int (nI i)), (1, .int (nI n)), (0, .ref b)]) dL_areAll_76 (by decide) rfl ?_
      refine ex_iload_n 8 dL_areAll_78 rfl rfl ?_
      refine ex_iconst (v := nI 5) dL_areAll_79 (by decide) ?_
      refine ex_aload_n 11 dL_areAll_80 rfl rfl ?_
      refine ex_iload 2 dL_areAll_81 rfl ?_
      refine ex_iconst (v := nI 0) dL_areAll_83 (by decide) ?_
      refine ex_per (j := m) (k := 0) (v := q m 0) vl_L_14 S wf hmn (by decide) rfl (by decide) (Nat.le_of_ble_eq_true rfl) (Nat.le_refl _) (Nat.le_refl _) dL_areAll_84 (fun h S => ?_)
      refine ex_imul dL_areAll_87 ?_
      refine ex_iadd dL_areAll_88 ?_
      refine ex_bipush (v := nI 10) dL_areAll_89 (by decide) ?_
      refine ex_iload 1 dL_areAll_91 rfl ?_
      refine ex_imul dL_areAll_93 ?_
      refine ex_isub dL_areAll_94 ?_
      refine ex_istore (lv' := [(12, .int (((u 8) + ((nI 5) * (q m 0))) - ((nI 10) * (q m 2)))), (11, .int (nI 1)), (10, .int (q m 2)), (9, .int (nI m)), (8, .int (sF q 5 m)), (7, .int (sF q 2 m)), (6, .int (sF q 4 m)), (5, .int (sF q 3 m)), (4, .int (sumB u q m)), (3, .int (u 8)), (2, .int (nI i)), (1, .int (nI n)), (0, .ref b)]) dL_areAll_95 (by decide) rfl ?_
      refine ex_iload_n 10 dL_areAll_97 rfl rfl ?_
      refine ex_if_lt (tgt := 131) dL_areAll_98 (by decide) (fun c_98 => absurd c_98 (nI_pos (by omega))) (fun c_98 => ?_)
      refine ex_iload_n 10 dL_areAll_101 rfl rfl ?_
      refine ex_iload 3 dL_areAll_102 rfl ?_
      refine ex_icmp_eq (tgt := 131) dL_areAll_104 (by decide) (fun c_104 => ?_) (fun c_104 => ?_)
      · have n_104 : i = m := (nI_eq (by omega) (by omega)).mp c_104
        refine ex_iconst (v := nI 0) dL_areAll_131 (by decide) ?_
        refine ex_istore (lv' := [(13, .int (nI 0)), (12, .int (((u 8) + ((nI 5) * (q m 0))) - ((nI 10) * (q m 2)))), (11, .int (nI 1)), (10, .int (q m 2)), (9, .int (nI m)), (8, .int (sF q 5 m)), (7, .int (sF q 2 m)), (6, .int (sF q 4 m)), (5, .int (sF q 3 m)), (4, .int (sumB u q m)), (3, .int (u 8)), (2, .int (nI i)), (1, .int (nI n)), (0, .ref b)]) dL_areAll_132 (by decide) rfl ?_
        refine ex_aload_n 13 dL_areAll_134 rfl rfl ?_
        refine ex_iload 4 dL_areAll_135 rfl ?_
        refine ex_iconst (v := nI 4) dL_areAll_137 (by decide) ?_
        refine ex_per (j := m) (k := 4) (v := bB u q m) vl_L_14 S wf hmn (by decide) rfl (by decide) (Nat.le_of_ble_eq_true rfl) (Nat.le_refl _) (Nat.le_refl _) dL_areAll_138 (fun h S => ?_)
        refine ex_iload 2 dL_areAll_141 rfl ?_
        refine ex_if_eq (tgt := 150) dL_areAll_143 (by decide) (fun c_143 => absurd c_143 (by decide)) (fun c_143 => ?_)
        refine ex_iconst (v := nI 1) dL_areAll_146 (by decide) ?_
        refine ex_goto (tgt := 151) dL_areAll_147 (by decide) ?_
        refine ex_icmp_ne (tgt := 206) dL_areAll_151 (by decide) (fun c_151 => absurd (by unfold bB; rw [if_neg hb]) c_151) (fun c_151 => ?_)
        refine ex_aload_n 13 dL_areAll_154 rfl rfl ?_
        refine ex_iload 4 dL_areAll_155 rfl ?_
        refine ex_iconst (v := nI 5) dL_areAll_157 (by decide) ?_
        refine ex_per (j := m) (k := 5) (v := scI u q m + nI 1000) vl_L_14 S wf hmn (by decide) rfl (by decide) (Nat.le_of_ble_eq_true rfl) (Nat.le_refl _) (Nat.le_refl _) dL_areAll_158 (fun h S => ?_)
        refine ex_iload 1 dL_areAll_161 rfl ?_
        refine ex_sipush (v := nI 1000) dL_areAll_163 (by decide) ?_
        refine ex_iadd dL_areAll_166 ?_
        refine ex_icmp_ne (tgt := 206) dL_areAll_167 (by decide) (fun c_167 => absurd (rfl) c_167) (fun c_167 => ?_)
        refine ex_aload_n 13 dL_areAll_170 rfl rfl ?_
        refine ex_iload 4 dL_areAll_171 rfl ?_
        refine ex_bipush (v := nI 8) dL_areAll_173 (by decide) ?_
        refine ex_per (j := m) (k := 8) (v := mayI n (some i) u q m) vl_L_14 S wf hmn (by decide) rfl (by decide) (Nat.le_of_ble_eq_true rfl) (Nat.le_refl _) (Nat.le_refl _) dL_areAll_175 (fun h S => ?_)
        refine ex_iload 0 dL_areAll_178 rfl ?_
        refine ex_if_eq (tgt := 187) dL_areAll_180 (by decide) (fun c_180 => ?_) (fun c_180 => absurd (by decide) c_180)
        refine ex_iconst (v := nI 0) dL_areAll_187 (by decide) ?_
        refine ex_icmp_ne (tgt := 206) dL_areAll_188 (by decide) (fun c_188 => absurd (by unfold mayI; rw [if_neg (fun q9 => hb q9.2.2.1)]) c_188) (fun c_188 => ?_)
        refine ex_aload_n 13 dL_areAll_191 rfl rfl ?_
        refine ex_iload 4 dL_areAll_192 rfl ?_
        refine ex_iconst (v := nI 3) dL_areAll_194 (by decide) ?_
        refine ex_per (j := m) (k := 3) (v := q m 3) vl_L_14 S wf hmn (by decide) rfl (by decide) (Nat.le_of_ble_eq_true rfl) (Nat.le_refl _) (Nat.le_refl _) dL_areAll_195 (fun h S => ?_)
        refine ex_if_lt (tgt := 206) dL_areAll_198 (by decide) (fun c_198 => absurd c_198 (b3)) (fun c_198 => ?_)
        refine ex_iload 3 dL_areAll_201 rfl ?_
        refine ex_if_ge (tgt := 208) dL_areAll_203 (by decide) (fun c_203 => ?_) (fun c_203 => absurd (b2) c_203)
        refine ex_iload 9 dL_areAll_208 rfl ?_
        refine ex_iload 2 dL_areAll_210 rfl ?_
        refine ex_if_eq (tgt := 219) dL_areAll_212 (by decide) (fun c_212 => absurd c_212 (by decide)) (fun c_212 => ?_)
        refine ex_iconst (v := nI 1) dL_areAll_215 (by decide) ?_
        refine ex_goto (tgt := 220) dL_areAll_216 (by decide) ?_
        refine ex_iadd dL_areAll_220 ?_
        refine ex_istore (lv' := [(4, .int ((sumB u q m) + (nI 1))), (13, .int (nI 0)), (12, .int (((u 8) + ((nI 5) * (q m 0))) - ((nI 10) * (q m 2)))), (11, .int (nI 1)), (10, .int (q m 2)), (9, .int (nI m)), (8, .int (sF q 5 m)), (7, .int (sF q 2 m)), (6, .int (sF q 4 m)), (5, .int (sF q 3 m)), (3, .int (u 8)), (2, .int (nI i)), (1, .int (nI n)), (0, .ref b)]) dL_areAll_221 (by decide) rfl ?_
        refine ex_iload 9 dL_areAll_223 rfl ?_
        refine ex_aload_n 13 dL_areAll_225 rfl rfl ?_
        refine ex_iload 5 dL_areAll_226 rfl ?_
        refine ex_iconst (v := nI 3) dL_areAll_228 (by decide) ?_
        refine ex_per (j := m) (k := 3) (v := q m 3) vl_L_14 S wf hmn (by decide) rfl (by decide) (Nat.le_of_ble_eq_true rfl) (Nat.le_refl _) (Nat.le_refl _) dL_areAll_229 (fun h S => ?_)
        refine ex_iadd dL_areAll_232 ?_
        refine ex_istore (lv' := [(5, .int ((sF q 3 m) + (q m 3))), (4, .int ((sumB u q m) + (nI 1))), (13, .int (nI 0)), (12, .int (((u 8) + ((nI 5) * (q m 0))) - ((nI 10) * (q m 2)))), (11, .int (nI 1)), (10, .int (q m 2)), (9, .int (nI m)), (8, .int (sF q 5 m)), (7, .int (sF q 2 m)), (6, .int (sF q 4 m)), (3, .int (u 8)), (2, .int (nI i)), (1, .int (nI n)), (0, .ref b)]) dL_areAll_233 (by decide) rfl ?_
        refine ex_iload 8 dL_areAll_235 rfl ?_
        refine ex_iload 5 dL_areAll_237 rfl ?_
        refine ex_iadd dL_areAll_239 ?_
        refine ex_istore (lv' := [(7, .int ((sF q 2 m) + (q m 2))), (5, .int ((sF q 3 m) + (q m 3))), (4, .int ((sumB u q m) + (nI 1))), (13, .int (nI 0)), (12, .int (((u 8) + ((nI 5) * (q m 0))) - ((nI 10) * (q m 2)))), (11, .int (nI 1)), (10, .int (q m 2)), (9, .int (nI m)), (8, .int (sF q 5 m)), (6, .int (sF q 4 m)), (3, .int (u 8)), (2, .int (nI i)), (1, .int (nI n)), (0, .ref b)]) dL_areAll_240 (by decide) rfl ?_
        refine ex_iload 9 dL_areAll_242 rfl ?_
        refine ex_aload_n 13 dL_areAll_244 rfl rfl ?_
        refine ex_iload 7 dL_areAll_245 rfl ?_
        refine ex_bipush (v := nI 6) dL_areAll_247 (by decide) ?_
        refine ex_per (j := m) (k := 6) (v := q m 4) vl_L_14 S wf hmn (by decide) rfl (by decide) (Nat.le_of_ble_eq_true rfl) (Nat.le_refl _) (Nat.le_refl _) dL_areAll_249 (fun h S => ?_)
        refine ex_iadd dL_areAll_252 ?_
        refine ex_istore (lv' := [(6, .int ((sF q 4 m) + (q m 4))), (7, .int ((sF q 2 m) + (q m 2))), (5, .int ((sF q 3 m) + (q m 3))), (4, .int ((sumB u q m) + (nI 1))), (13, .int (nI 0)), (12, .int (((u 8) + ((nI 5) * (q m 0))) - ((nI 10) * (q m 2)))), (11, .int (nI 1)), (10, .int (q m 2)), (9, .int (nI m)), (8, .int (sF q 5 m)), (3, .int (u 8)), (2, .int (nI i)), (1, .int (nI n)), (0, .ref b)]) dL_areAll_253 (by decide) rfl ?_
        refine ex_iload 9 dL_areAll_255 rfl ?_
        refine ex_aload_n 13 dL_areAll_257 rfl rfl ?_
        refine ex_iload 8 dL_areAll_258 rfl ?_
        refine ex_bipush (v := nI 7) dL_areAll_260 (by decide) ?_
        refine ex_per (j := m) (k := 7) (v := q m 5) vl_L_14 S wf hmn (by decide) rfl (by decide) (Nat.le_of_ble_eq_true rfl) (Nat.le_refl _) (Nat.le_refl _) dL_areAll_262 (fun h S => ?_)
        refine ex_iadd dL_areAll_265 ?_
        refine ex_istore (lv' := [(8, .int ((sF q 5 m) + (q m 5))), (6, .int ((sF q 4 m) + (q m 4))), (7, .int ((sF q 2 m) + (q m 2))), (5, .int ((sF q 3 m) + (q m 3))), (4, .int ((sumB u q m) + (nI 1))), (13, .int (nI 0)), (12, .int (((u 8) + ((nI 5) * (q m 0))) - ((nI 10) * (q m 2)))), (11, .int (nI 1)), (10, .int (q m 2)), (9, .int (nI m)), (3, .int (u 8)), (2, .int (nI i)), (1, .int (nI n)), (0, .ref b)]) dL_areAll_266 (by decide) rfl ?_
        refine ex_iinc (v := nI (m + 1)) (lv' := [(9, .int (nI (m + 1))), (8, .int ((sF q 5 m) + (q m 5))), (6, .int ((sF q 4 m) + (q m 4))), (7, .int ((sF q 2 m) + (q m 2))), (5, .int ((sF q 3 m) + (q m 3))), (4, .int ((sumB u q m) + (nI 1))), (13, .int (nI 0)), (12, .int (((u 8) + ((nI 5) * (q m 0))) - ((nI 10) * (q m 2)))), (11, .int (nI 1)), (10, .int (q m 2)), (3, .int (u 8)), (2, .int (nI i)), (1, .int (nI n)), (0, .ref b)]) 9 dL_areAll_268 rfl (nI_1 m) (by decide) rfl ?_
        refine ex_goto (tgt := 39) dL_areAll_271 (by decide) ?_
        have e2 := ih (m + 1) h (by omega) S
        have e3 : sumB u q (m + 1) = (sumB u q m) + (nI 1) := by rw [sumB, if_neg hb]; rfl
        rw [e3] at e2
        refine ex_lv (lv2 := [(9, .int (nI (m + 1))), (8, .int ((sF q 5 m) + (q m 5))), (7, .int ((sF q 2 m) + (q m 2))), (6, .int ((sF q 4 m) + (q m 4))), (5, .int ((sF q 3 m) + (q m 3))), (4, .int ((sumB u q m) + (nI 1))), (3, .int (u 8)), (2, .int (nI i)), (1, .int (nI n)), (0, .ref b)]) [0, 1, 3, 2, 4, 5, 10, 11, 12, 13] rfl ?_
        exact e2
      · have n_104 : ¬ (i = m) := fun q9 => c_104 ((nI_eq (by omega) (by omega)).mpr q9)
        refine ex_iload 1 dL_areAll_107 rfl ?_
        refine ex_if_ne (tgt := 131) dL_areAll_109 (by decide) (fun c_109 => ?_) (fun c_109 => absurd c_109 (by decide))
        refine ex_iconst (v := nI 0) dL_areAll_131 (by decide) ?_
        refine ex_istore (lv' := [(13, .int (nI 0)), (12, .int (((u 8) + ((nI 5) * (q m 0))) - ((nI 10) * (q m 2)))), (11, .int (nI 1)), (10, .int (q m 2)), (9, .int (nI m)), (8, .int (sF q 5 m)), (7, .int (sF q 2 m)), (6, .int (sF q 4 m)), (5, .int (sF q 3 m)), (4, .int (sumB u q m)), (3, .int (u 8)), (2, .int (nI i)), (1, .int (nI n)), (0, .ref b)]) dL_areAll_132 (by decide) rfl ?_
        refine ex_aload_n 13 dL_areAll_134 rfl rfl ?_
        refine ex_iload 4 dL_areAll_135 rfl ?_
        refine ex_iconst (v := nI 4) dL_areAll_137 (by decide) ?_
        refine ex_per (j := m) (k := 4) (v := bB u q m) vl_L_14 S wf hmn (by decide) rfl (by decide) (Nat.le_of_ble_eq_true rfl) (Nat.le_refl _) (Nat.le_refl _) dL_areAll_138 (fun h S => ?_)
        refine ex_iload 2 dL_areAll_141 rfl ?_
        refine ex_if_eq (tgt := 150) dL_areAll_143 (by decide) (fun c_143 => absurd c_143 (by decide)) (fun c_143 => ?_)
        refine ex_iconst (v := nI 1) dL_areAll_146 (by decide) ?_
        refine ex_goto (tgt := 151) dL_areAll_147 (by decide) ?_
        refine ex_icmp_ne (tgt := 206) dL_areAll_151 (by decide) (fun c_151 => absurd (by unfold bB; rw [if_neg hb]) c_151) (fun c_151 => ?_)
        refine ex_aload_n 13 dL_areAll_154 rfl rfl ?_
        refine ex_iload 4 dL_areAll_155 rfl ?_
        refine ex_iconst (v := nI 5) dL_areAll_157 (by decide) ?_
        refine ex_per (j := m) (k := 5) (v := scI u q m + nI 1000) vl_L_14 S wf hmn (by decide) rfl (by decide) (Nat.le_of_ble_eq_true rfl) (Nat.le_refl _) (Nat.le_refl _) dL_areAll_158 (fun h S => ?_)
        refine ex_iload 1 dL_areAll_161 rfl ?_
        refine ex_sipush (v := nI 1000) dL_areAll_163 (by decide) ?_
        refine ex_iadd dL_areAll_166 ?_
        refine ex_icmp_ne (tgt := 206) dL_areAll_167 (by decide) (fun c_167 => absurd (rfl) c_167) (fun c_167 => ?_)
        refine ex_aload_n 13 dL_areAll_170 rfl rfl ?_
        refine ex_iload 4 dL_areAll_171 rfl ?_
        refine ex_bipush (v := nI 8) dL_areAll_173 (by decide) ?_
        refine ex_per (j := m) (k := 8) (v := mayI n (some i) u q m) vl_L_14 S wf hmn (by decide) rfl (by decide) (Nat.le_of_ble_eq_true rfl) (Nat.le_refl _) (Nat.le_refl _) dL_areAll_175 (fun h S => ?_)
        refine ex_iload 0 dL_areAll_178 rfl ?_
        refine ex_if_eq (tgt := 187) dL_areAll_180 (by decide) (fun c_180 => ?_) (fun c_180 => absurd (by decide) c_180)
        refine ex_iconst (v := nI 0) dL_areAll_187 (by decide) ?_
        refine ex_icmp_ne (tgt := 206) dL_areAll_188 (by decide) (fun c_188 => absurd (by unfold mayI; rw [if_neg (fun q9 => hb q9.2.2.1)]) c_188) (fun c_188 => ?_)
        refine ex_aload_n 13 dL_areAll_191 rfl rfl ?_
        refine ex_iload 4 dL_areAll_192 rfl ?_
        refine ex_iconst (v := nI 3) dL_areAll_194 (by decide) ?_
        refine ex_per (j := m) (k := 3) (v := q m 3) vl_L_14 S wf hmn (by decide) rfl (by decide) (Nat.le_of_ble_eq_true rfl) (Nat.le_refl _) (Nat.le_refl _) dL_areAll_195 (fun h S => ?_)
        refine ex_if_lt (tgt := 206) dL_areAll_198 (by decide) (fun c_198 => absurd c_198 (b3)) (fun c_198 => ?_)
        refine ex_iload 3 dL_areAll_201 rfl ?_
        refine ex_if_ge (tgt := 208) dL_areAll_203 (by decide) (fun c_203 => ?_) (fun c_203 => absurd (b2) c_203)
        refine ex_iload 9 dL_areAll_208 rfl ?_
        refine ex_iload 2 dL_areAll_210 rfl ?_
        refine ex_if_eq (tgt := 219) dL_areAll_212 (by decide) (fun c_212 => absurd c_212 (by decide)) (fun c_212 => ?_)
        refine ex_iconst (v := nI 1) dL_areAll_215 (by decide) ?_
        refine ex_goto (tgt := 220) dL_areAll_216 (by decide) ?_
        refine ex_iadd dL_areAll_220 ?_
        refine ex_istore (lv' := [(4, .int ((sumB u q m) + (nI 1))), (13, .int (nI 0)), (12, .int (((u 8) + ((nI 5) * (q m 0))) - ((nI 10) * (q m 2)))), (11, .int (nI 1)), (10, .int (q m 2)), (9, .int (nI m)), (8, .int (sF q 5 m)), (7, .int (sF q 2 m)), (6, .int (sF q 4 m)), (5, .int (sF q 3 m)), (3, .int (u 8)), (2, .int (nI i)), (1, .int (nI n)), (0, .ref b)]) dL_areAll_221 (by decide) rfl ?_
        refine ex_iload 9 dL_areAll_223 rfl ?_
        refine ex_aload_n 13 dL_areAll_225 rfl rfl ?_
        refine ex_iload 5 dL_areAll_226 rfl ?_
        refine ex_iconst (v := nI 3) dL_areAll_228 (by decide) ?_
        refine ex_per (j := m) (k := 3) (v := q m 3) vl_L_14 S wf hmn (by decide) rfl (by decide) (Nat.le_of_ble_eq_true rfl) (Nat.le_refl _) (Nat.le_refl _) dL_areAll_229 (fun h S => ?_)
        refine ex_iadd dL_areAll_232 ?_
        refine ex_istore (lv' := [(5, .int ((sF q 3 m) + (q m 3))), (4, .int ((sumB u q m) + (nI 1))), (13, .int (nI 0)), (12, .int (((u 8) + ((nI 5) * (q m 0))) - ((nI 10) * (q m 2)))), (11, .int (nI 1)), (10, .int (q m 2)), (9, .int (nI m)), (8, .int (sF q 5 m)), (7, .int (sF q 2 m)), (6, .int (sF q 4 m)), (3, .int (u 8)), (2, .int (nI i)), (1, .int (nI n)), (0, .ref b)]) dL_areAll_233 (by decide) rfl ?_
        refine ex_iload 8 dL_areAll_235 rfl ?_
        refine ex_iload 5 dL_areAll_237 rfl ?_
        refine ex_iadd dL_areAll_239 ?_
        refine ex_istore (lv' := [(7, .int ((sF q 2 m) + (q m 2))), (5, .int ((sF q 3 m) + (q m 3))), (4, .int ((sumB u q m) + (nI 1))), (13, .int (nI 0)), (12, .int (((u 8) + ((nI 5) * (q m 0))) - ((nI 10) * (q m 2)))), (11, .int (nI 1)), (10, .int (q m 2)), (9, .int (nI m)), (8, .int (sF q 5 m)), (6, .int (sF q 4 m)), (3, .int (u 8)), (2, .int (nI i)), (1, .int (nI n)), (0, .ref b)]) dL_areAll_240 (by decide) rfl ?_
        refine ex_iload 9 dL_areAll_242 rfl ?_
        refine ex_aload_n 13 dL_areAll_244 rfl rfl ?_
        refine ex_iload 7 dL_areAll_245 rfl ?_
        refine ex_bipush (v := nI 6) dL_areAll_247 (by decide) ?_
        refine ex_per (j := m) (k := 6) (v := q m 4) vl_L_14 S wf hmn (by decide) rfl (by decide) (Nat.le_of_ble_eq_true rfl) (Nat.le_refl _) (Nat.le_refl _) dL_areAll_249 (fun h S => ?_)
        refine ex_iadd dL_areAll_252 ?_
        refine ex_istore (lv' := [(6, .int ((sF q 4 m) + (q m 4))), (7, .int ((sF q 2 m) + (q m 2))), (5, .int ((sF q 3 m) + (q m 3))), (4, .int ((sumB u q m) + (nI 1))), (13, .int (nI 0)), (12, .int (((u 8) + ((nI 5) * (q m 0))) - ((nI 10) * (q m 2)))), (11, .int (nI 1)), (10, .int (q m 2)), (9, .int (nI m)), (8, .int (sF q 5 m)), (3, .int (u 8)), (2, .int (nI i)), (1, .int (nI n)), (0, .ref b)]) dL_areAll_253 (by decide) rfl ?_
        refine ex_iload 9 dL_areAll_255 rfl ?_
        refine ex_aload_n 13 dL_areAll_257 rfl rfl ?_
        refine ex_iload 8 dL_areAll_258 rfl ?_
        refine ex_bipush (v := nI 7) dL_areAll_260 (by decide) ?_
        refine ex_per (j := m) (k := 7) (v := q m 5) vl_L_14 S wf hmn (by decide) rfl (by decide) (Nat.le_of_ble_eq_true rfl) (Nat.le_refl _) (Nat.le_refl _) dL_areAll_262 (fun h S => ?_)
        refine ex_iadd dL_areAll_265 ?_
        refine ex_istore (lv' := [(8, .int ((sF q 5 m) + (q m 5))), (6, .int ((sF q 4 m) + (q m 4))), (7, .int ((sF q 2 m) + (q m 2))), (5, .int ((sF q 3 m) + (q m 3))), (4, .int ((sumB u q m) + (nI 1))), (13, .int (nI 0)), (12, .int (((u 8) + ((nI 5) * (q m 0))) - ((nI 10) * (q m 2)))), (11, .int (nI 1)), (10, .int (q m 2)), (9, .int (nI m)), (3, .int (u 8)), (2, .int (nI i)), (1, .int (nI n)), (0, .ref b)]) dL_areAll_266 (by decide) rfl ?_
        refine ex_iinc (v := nI (m + 1)) (lv' := [(9, .int (nI (m + 1))), (8, .int ((sF q 5 m) + (q m 5))), (6, .int ((sF q 4 m) + (q m 4))), (7, .int ((sF q 2 m) + (q m 2))), (5, .int ((sF q 3 m) + (q m 3))), (4, .int ((sumB u q m) + (nI 1))), (13, .int (nI 0)), (12, .int (((u 8) + ((nI 5) * (q m 0))) - ((nI 10) * (q m 2)))), (11, .int (nI 1)), (10, .int (q m 2)), (3, .int (u 8)), (2, .int (nI i)), (1, .int (nI n)), (0, .ref b)]) 9 dL_areAll_268 rfl (nI_1 m) (by decide) rfl ?_
        refine ex_goto (tgt := 39) dL_areAll_271 (by decide) ?_
        have e2 := ih (m + 1) h (by omega) S
        have e3 : sumB u q (m + 1) = (sumB u q m) + (nI 1) := by rw [sumB, if_neg hb]; rfl
        rw [e3] at e2
        refine ex_lv (lv2 := [(9, .int (nI (m + 1))), (8, .int ((sF q 5 m) + (q m 5))), (7, .int ((sF q 2 m) + (q m 2))), (6, .int ((sF q 4 m) + (q m 4))), (5, .int ((sF q 3 m) + (q m 3))), (4, .int ((sumB u q m) + (nI 1))), (3, .int (u 8)), (2, .int (nI i)), (1, .int (nI n)), (0, .ref b)]) [0, 1, 3, 2, 4, 5, 10, 11, 12, 13] rfl ?_
        exact e2

theorem c_areAll {G : GG} {l : Launch} {h0 : HP} {z b K : Nat} {x : CX} (S0 : PP G h0 z b x) (ok : iv K x.1) (hK : K < 2 ^ 23) : Ct G l 3 0 0 yL_areAll cL_areAll 14 (some .boolean) [.ref b] h0 z (pL G b z x) := by
  obtain ⟨⟨n, _ | i, t, u, q⟩, R⟩ := x
  · exact c_areAllN S0 ok hK
  · exact c_areAllS S0 ok hK
end
