section
-- ===== PART A: goes FIRST, ahead of the names: the tables' words, and 'selects' of the private methods out of them =====
/-- a private method of a class that the tables say can be made, by its rows of tables_1 -/
def lw_okq (q : MethodName × Nat) : Prop := (q.1.cls ≠ "java/lang/invoke/MethodHandle" ∧ q.1.cls ≠ "java/lang/invoke/VarHandle") ∧ Cond.instantiable q.1.cls q.2 ∈ tables_1 ∧ Cond.privateMethod q.1 ∈ tables_1 ∧ Cond.instanceMethod q.1 ∈ tables_1
theorem lw_p0 : lw_okq (⟨"PurrProbates", "daysAsGuardianIfMoved", "(II)I"⟩, 5) := ⟨⟨by decide +kernel, by decide +kernel⟩, List.mem_of_getElem? (i := 11) (by decide +kernel), List.mem_of_getElem? (i := 393) (by decide +kernel), List.mem_of_getElem? (i := 394) (by decide +kernel)⟩
theorem lw_p1 : lw_okq (⟨"PurrProbatesModel", "remembers", "()V"⟩, 7) := ⟨⟨by decide +kernel, by decide +kernel⟩, List.mem_of_getElem? (i := 438) (by decide +kernel), List.mem_of_getElem? (i := 480) (by decide +kernel), List.mem_of_getElem? (i := 481) (by decide +kernel)⟩
theorem lw_p2 : lw_okq (⟨"PurrProbatesModel", "comes", "(II)V"⟩, 7) := ⟨⟨by decide +kernel, by decide +kernel⟩, List.mem_of_getElem? (i := 438) (by decide +kernel), List.mem_of_getElem? (i := 488) (by decide +kernel), List.mem_of_getElem? (i := 489) (by decide +kernel)⟩
theorem lw_p3 : lw_okq (⟨"PurrProbatesModel", "isPerson", "(I)Z"⟩, 7) := ⟨⟨by decide +kernel, by decide +kernel⟩, List.mem_of_getElem? (i := 438) (by decide +kernel), List.mem_of_getElem? (i := 499) (by decide +kernel), List.mem_of_getElem? (i := 500) (by decide +kernel)⟩
theorem lw_p4 : lw_okq (⟨"PurrProbatesModel", "moves", "(III)V"⟩, 7) := ⟨⟨by decide +kernel, by decide +kernel⟩, List.mem_of_getElem? (i := 438) (by decide +kernel), List.mem_of_getElem? (i := 503) (by decide +kernel), List.mem_of_getElem? (i := 504) (by decide +kernel)⟩
theorem lw_p5 : lw_okq (⟨"PurrProbatesModel", "changesPlaces", "(III)V"⟩, 7) := ⟨⟨by decide +kernel, by decide +kernel⟩, List.mem_of_getElem? (i := 438) (by decide +kernel), List.mem_of_getElem? (i := 507) (by decide +kernel), List.mem_of_getElem? (i := 508) (by decide +kernel)⟩
theorem lw_p6 : lw_okq (⟨"PurrProbatesModel", "behind", "(II)I"⟩, 7) := ⟨⟨by decide +kernel, by decide +kernel⟩, List.mem_of_getElem? (i := 438) (by decide +kernel), List.mem_of_getElem? (i := 518) (by decide +kernel), List.mem_of_getElem? (i := 519) (by decide +kernel)⟩
theorem lw_p7 : lw_okq (⟨"PurrProbatesModel", "canAppeal", "(I)Z"⟩, 7) := ⟨⟨by decide +kernel, by decide +kernel⟩, List.mem_of_getElem? (i := 438) (by decide +kernel), List.mem_of_getElem? (i := 526) (by decide +kernel), List.mem_of_getElem? (i := 527) (by decide +kernel)⟩
theorem lw_p8 : lw_okq (⟨"PurrProbatesModel", "isBarred", "(II)Z"⟩, 7) := ⟨⟨by decide +kernel, by decide +kernel⟩, List.mem_of_getElem? (i := 438) (by decide +kernel), List.mem_of_getElem? (i := 530) (by decide +kernel), List.mem_of_getElem? (i := 531) (by decide +kernel)⟩
theorem lw_p9 : lw_okq (⟨"PurrProbatesModel", "score", "(II)I"⟩, 7) := ⟨⟨by decide +kernel, by decide +kernel⟩, List.mem_of_getElem? (i := 438) (by decide +kernel), List.mem_of_getElem? (i := 534) (by decide +kernel), List.mem_of_getElem? (i := 535) (by decide +kernel)⟩
theorem lw_p10 : lw_okq (⟨"PurrProbatesModel", "deposes", "(II)V"⟩, 7) := ⟨⟨by decide +kernel, by decide +kernel⟩, List.mem_of_getElem? (i := 438) (by decide +kernel), List.mem_of_getElem? (i := 538) (by decide +kernel), List.mem_of_getElem? (i := 539) (by decide +kernel)⟩
theorem lw_p11 : lw_okq (⟨"PurrProbatesModel", "scratches", "(II)V"⟩, 7) := ⟨⟨by decide +kernel, by decide +kernel⟩, List.mem_of_getElem? (i := 438) (by decide +kernel), List.mem_of_getElem? (i := 542) (by decide +kernel), List.mem_of_getElem? (i := 543) (by decide +kernel)⟩
theorem lw_p12 : lw_okq (⟨"PurrProbatesModel", "passes", "(II)I"⟩, 7) := ⟨⟨by decide +kernel, by decide +kernel⟩, List.mem_of_getElem? (i := 438) (by decide +kernel), List.mem_of_getElem? (i := 555) (by decide +kernel), List.mem_of_getElem? (i := 556) (by decide +kernel)⟩
theorem lw_p13 : lw_okq (⟨"PurrProbatesModel", "passesOne", "(I)Z"⟩, 7) := ⟨⟨by decide +kernel, by decide +kernel⟩, List.mem_of_getElem? (i := 438) (by decide +kernel), List.mem_of_getElem? (i := 559) (by decide +kernel), List.mem_of_getElem? (i := 560) (by decide +kernel)⟩
theorem lw_p14 : lw_okq (⟨"PurrProbatesModel", "purrs", "(I)Z"⟩, 7) := ⟨⟨by decide +kernel, by decide +kernel⟩, List.mem_of_getElem? (i := 438) (by decide +kernel), List.mem_of_getElem? (i := 563) (by decide +kernel), List.mem_of_getElem? (i := 564) (by decide +kernel)⟩
theorem lw_p15 : lw_okq (⟨"PurrProbatesModel", "hand", "(I)I"⟩, 7) := ⟨⟨by decide +kernel, by decide +kernel⟩, List.mem_of_getElem? (i := 438) (by decide +kernel), List.mem_of_getElem? (i := 567) (by decide +kernel), List.mem_of_getElem? (i := 568) (by decide +kernel)⟩
def lw_privs_1 : List (MethodName × Nat) := [(⟨"PurrProbates", "daysAsGuardianIfMoved", "(II)I"⟩, 5), (⟨"PurrProbatesModel", "remembers", "()V"⟩, 7), (⟨"PurrProbatesModel", "comes", "(II)V"⟩, 7), (⟨"PurrProbatesModel", "isPerson", "(I)Z"⟩, 7), (⟨"PurrProbatesModel", "moves", "(III)V"⟩, 7), (⟨"PurrProbatesModel", "changesPlaces", "(III)V"⟩, 7), (⟨"PurrProbatesModel", "behind", "(II)I"⟩, 7), (⟨"PurrProbatesModel", "canAppeal", "(I)Z"⟩, 7), (⟨"PurrProbatesModel", "isBarred", "(II)Z"⟩, 7), (⟨"PurrProbatesModel", "score", "(II)I"⟩, 7), (⟨"PurrProbatesModel", "deposes", "(II)V"⟩, 7), (⟨"PurrProbatesModel", "scratches", "(II)V"⟩, 7), (⟨"PurrProbatesModel", "passes", "(II)I"⟩, 7), (⟨"PurrProbatesModel", "passesOne", "(I)Z"⟩, 7), (⟨"PurrProbatesModel", "purrs", "(I)Z"⟩, 7), (⟨"PurrProbatesModel", "hand", "(I)I"⟩, 7)]
theorem lw_r1 : ∀ q ∈ lw_privs_1, lw_okq q := List.forall_mem_cons.mpr ⟨lw_p0, List.forall_mem_cons.mpr ⟨lw_p1, List.forall_mem_cons.mpr ⟨lw_p2, List.forall_mem_cons.mpr ⟨lw_p3, List.forall_mem_cons.mpr ⟨lw_p4, List.forall_mem_cons.mpr ⟨lw_p5, List.forall_mem_cons.mpr ⟨lw_p6, List.forall_mem_cons.mpr ⟨lw_p7, List.forall_mem_cons.mpr ⟨lw_p8, List.forall_mem_cons.mpr ⟨lw_p9, List.forall_mem_cons.mpr ⟨lw_p10, List.forall_mem_cons.mpr ⟨lw_p11, List.forall_mem_cons.mpr ⟨lw_p12, List.forall_mem_cons.mpr ⟨lw_p13, List.forall_mem_cons.mpr ⟨lw_p14, List.forall_mem_cons.mpr ⟨lw_p15, fun _ h => absurd h List.not_mem_nil⟩⟩⟩⟩⟩⟩⟩⟩⟩⟩⟩⟩⟩⟩⟩⟩
theorem lw_p16 : lw_okq (⟨"PurrProbatesModel", "pays", "(I)V"⟩, 7) := ⟨⟨by decide +kernel, by decide +kernel⟩, List.mem_of_getElem? (i := 438) (by decide +kernel), List.mem_of_getElem? (i := 571) (by decide +kernel), List.mem_of_getElem? (i := 572) (by decide +kernel)⟩
theorem lw_p17 : lw_okq (⟨"PurrProbatesModel", "ofAll", "(I)I"⟩, 7) := ⟨⟨by decide +kernel, by decide +kernel⟩, List.mem_of_getElem? (i := 438) (by decide +kernel), List.mem_of_getElem? (i := 586) (by decide +kernel), List.mem_of_getElem? (i := 587) (by decide +kernel)⟩
theorem lw_p18 : lw_okq (⟨"PurrProbatesModel", "copies", "()V"⟩, 7) := ⟨⟨by decide +kernel, by decide +kernel⟩, List.mem_of_getElem? (i := 438) (by decide +kernel), List.mem_of_getElem? (i := 594) (by decide +kernel), List.mem_of_getElem? (i := 595) (by decide +kernel)⟩
theorem lw_p19 : lw_okq (⟨"PurrProbatesModel", "personEnd", "(I)I"⟩, 7) := ⟨⟨by decide +kernel, by decide +kernel⟩, List.mem_of_getElem? (i := 438) (by decide +kernel), List.mem_of_getElem? (i := 623) (by decide +kernel), List.mem_of_getElem? (i := 624) (by decide +kernel)⟩
theorem lw_p20 : lw_okq (⟨"PurrProbatesModel", "digit", "(I)I"⟩, 7) := ⟨⟨by decide +kernel, by decide +kernel⟩, List.mem_of_getElem? (i := 438) (by decide +kernel), List.mem_of_getElem? (i := 627) (by decide +kernel), List.mem_of_getElem? (i := 628) (by decide +kernel)⟩
theorem lw_p21 : lw_okq (⟨"PurrProbatesModel", "sign", "(I)I"⟩, 7) := ⟨⟨by decide +kernel, by decide +kernel⟩, List.mem_of_getElem? (i := 438) (by decide +kernel), List.mem_of_getElem? (i := 631) (by decide +kernel), List.mem_of_getElem? (i := 632) (by decide +kernel)⟩
theorem lw_p22 : lw_okq (⟨"PurrProbatesModel", "shareEnd", "(I)I"⟩, 7) := ⟨⟨by decide +kernel, by decide +kernel⟩, List.mem_of_getElem? (i := 438) (by decide +kernel), List.mem_of_getElem? (i := 635) (by decide +kernel), List.mem_of_getElem? (i := 636) (by decide +kernel)⟩
theorem lw_p23 : lw_okq (⟨"PurrProbatesModel", "peopleOfPad", "()I"⟩, 7) := ⟨⟨by decide +kernel, by decide +kernel⟩, List.mem_of_getElem? (i := 438) (by decide +kernel), List.mem_of_getElem? (i := 644) (by decide +kernel), List.mem_of_getElem? (i := 645) (by decide +kernel)⟩
theorem lw_p24 : lw_okq (⟨"PurrProbatesModel", "shareAt", "(I)I"⟩, 7) := ⟨⟨by decide +kernel, by decide +kernel⟩, List.mem_of_getElem? (i := 438) (by decide +kernel), List.mem_of_getElem? (i := 648) (by decide +kernel), List.mem_of_getElem? (i := 649) (by decide +kernel)⟩
def lw_privs_2 : List (MethodName × Nat) := [(⟨"PurrProbatesModel", "pays", "(I)V"⟩, 7), (⟨"PurrProbatesModel", "ofAll", "(I)I"⟩, 7), (⟨"PurrProbatesModel", "copies", "()V"⟩, 7), (⟨"PurrProbatesModel", "personEnd", "(I)I"⟩, 7), (⟨"PurrProbatesModel", "digit", "(I)I"⟩, 7), (⟨"PurrProbatesModel", "sign", "(I)I"⟩, 7), (⟨"PurrProbatesModel", "shareEnd", "(I)I"⟩, 7), (⟨"PurrProbatesModel", "peopleOfPad", "()I"⟩, 7), (⟨"PurrProbatesModel", "shareAt", "(I)I"⟩, 7)]
theorem lw_r2 : ∀ q ∈ lw_privs_2, lw_okq q := List.forall_mem_cons.mpr ⟨lw_p16, List.forall_mem_cons.mpr ⟨lw_p17, List.forall_mem_cons.mpr ⟨lw_p18, List.forall_mem_cons.mpr ⟨lw_p19, List.forall_mem_cons.mpr ⟨lw_p20, List.forall_mem_cons.mpr ⟨lw_p21, List.forall_mem_cons.mpr ⟨lw_p22, List.forall_mem_cons.mpr ⟨lw_p23, List.forall_mem_cons.mpr ⟨lw_p24, fun _ h => absurd h List.not_mem_nil⟩⟩⟩⟩⟩⟩⟩⟩⟩
def lw_privs : List (MethodName × Nat) := lw_privs_1 ++ (lw_privs_2)
def lw_tbl : List Cond := k2_sels lw_privs ++ tables_1
theorem lw_privs_ok : ∀ q ∈ lw_privs, lw_okq q := by
  show ∀ q ∈ lw_privs_1 ++ (lw_privs_2), lw_okq q
  exact List.forall_mem_append.mpr ⟨lw_r1, lw_r2⟩
/-! ===== BEGIN words of one list among another's, by their places ===== -/
theorem goodIn_r {big : List Cond} (ws : List Cond) (ps : List Nat) (hp : ws = ps.filterMap (fun i => big[i]?)) (h : ws.all goodWord = true) : GoodIn big ws := by
  intro w hw
  have h1 := List.all_eq_true.mp h w hw
  rw [hp] at hw
  obtain ⟨i, -, hi⟩ := List.mem_filterMap.mp hw
  have hm : w ∈ big := by first | exact List.mem_of_getElem? hi | exact List.getElem?_mem hi
  exact ⟨hm, good_of_word h1⟩
theorem goodIn_app {big a b : List Cond} (ha : GoodIn big a) (hb : GoodIn big b) : GoodIn big (a ++ b) := fun w h => (List.mem_append.mp h).elim (ha w) (hb w)
theorem goodIn_ca {big a b : List Cond} {c : Cond} (ha : GoodIn big (c :: a)) (hb : GoodIn big b) : GoodIn big (c :: (a ++ b)) := fun w h => (List.mem_cons.mp h).elim (fun e => ha w (List.mem_cons.mpr (Or.inl e))) (fun h => (List.mem_append.mp h).elim (fun h => ha w (List.mem_cons.mpr (Or.inr h))) (hb w))
theorem goodIn_sub {big ws : List Cond} (hm : ∀ w ∈ ws, w ∈ big) (h : ws.all goodWord = true) : GoodIn big ws := fun w hw => ⟨hm w hw, good_of_word (List.all_eq_true.mp h w hw)⟩
/-! ===== END ===== -/

/-! ===== BEGIN printed: names, fields, word lists, decode rows ===== -/
def RX0 : String := "PurrProbates$History"
def TX0 : u_T := fun k => match k with
  | 0 => ("PurrProbates$History", "states", "[LPurrProbates$State;", true)
  | _ => ("PurrProbates$History", "length", "I", false)
def tyX0 : Nat → FieldType := fun k => match k with
  | 0 => .array (.object "PurrProbates$State")
  | _ => .int
abbrev wsX00 : List Cond := u_ws RX0 TX0 2
theorem nmX0 : ∀ a, a < 2 → ∀ b, b < 2 → a ≠ b → (TX0 a).2.1 ≠ (TX0 b).2.1 := by decide +kernel
theorem tyX0_ok : ∀ k, k < 2 → parseFieldDescriptor (TX0 k).2.2.1 = some (tyX0 k) := by decide +kernel
abbrev cX0_init : ByteArray := prog_2_method_1_code
def yX0_init : MethodName := ⟨RX0, "<init>", "()V"⟩
abbrev cX0_record : ByteArray := prog_2_method_2_code
def yX0_record : MethodName := ⟨RX0, "record", "(LPurrProbates$State;)V"⟩
abbrev cX0_dropOldest : ByteArray := prog_2_method_3_code
def yX0_dropOldest : MethodName := ⟨RX0, "dropOldest", "()V"⟩
abbrev cX0_takeBack : ByteArray := prog_2_method_4_code
def yX0_takeBack : MethodName := ⟨RX0, "takeBack", "(LPurrProbates$State;)V"⟩
def RX1 : String := "PurrProbates$Pad"
def TX1 : u_T := fun k => match k with
  | 0 => ("PurrProbates$Pad", "characters", "[C", true)
  | _ => ("PurrProbates$Pad", "length", "I", false)
def tyX1 : Nat → FieldType := fun k => match k with
  | 0 => .array .char
  | _ => .int
abbrev wsX10 : List Cond := u_ws RX1 TX1 2
theorem nmX1 : ∀ a, a < 2 → ∀ b, b < 2 → a ≠ b → (TX1 a).2.1 ≠ (TX1 b).2.1 := by decide +kernel
theorem tyX1_ok : ∀ k, k < 2 → parseFieldDescriptor (TX1 k).2.2.1 = some (tyX1 k) := by decide +kernel
abbrev cX1_init : ByteArray := prog_3_method_1_code
def yX1_init : MethodName := ⟨RX1, "<init>", "()V"⟩
abbrev cX1_append : ByteArray := prog_3_method_2_code
def yX1_append : MethodName := ⟨RX1, "append", "(C)V"⟩
abbrev cX1_character : ByteArray := prog_3_method_3_code
def yX1_character : MethodName := ⟨RX1, "character", "(I)C"⟩
abbrev cX1_firstFault : ByteArray := prog_3_method_4_code
def yX1_firstFault : MethodName := ⟨RX1, "firstFault", "()I"⟩
abbrev cX1_canStand : ByteArray := prog_3_method_5_code
def yX1_canStand : MethodName := ⟨RX1, "canStand", "(IIC)Z"⟩
abbrev cX1_dueBehind : ByteArray := prog_3_method_6_code
def yX1_dueBehind : MethodName := ⟨RX1, "dueBehind", "(IC)I"⟩
abbrev cX1_isDigit : ByteArray := prog_3_method_7_code
def yX1_isDigit : MethodName := ⟨RX1, "isDigit", "(C)Z"⟩
abbrev cX1_shareWith : ByteArray := prog_3_method_8_code
def yX1_shareWith : MethodName := ⟨RX1, "shareWith", "(IC)I"⟩
abbrev cX1_people : ByteArray := prog_3_method_9_code
def yX1_people : MethodName := ⟨RX1, "people", "()I"⟩
abbrev cX1_admitPeopleTo : ByteArray := prog_3_method_10_code
def yX1_admitPeopleTo : MethodName := ⟨RX1, "admitPeopleTo", "(LPurrProbates$State;)V"⟩
def RX2 : String := "PurrProbates$Person"
def TX2 : u_T := fun k => match k with
  | 0 => ("PurrProbates$Person", "warmth", "I", false)
  | 1 => ("PurrProbates$Person", "share", "I", false)
  | 2 => ("PurrProbates$Person", "scratches", "I", false)
  | 3 => ("PurrProbates$Person", "purse", "I", false)
  | 4 => ("PurrProbates$Person", "purrs", "I", false)
  | _ => ("PurrProbates$Person", "daysAsGuardian", "I", false)
def tyX2 : Nat → FieldType := fun k => match k with
  | 0 => .int
  | 1 => .int
  | 2 => .int
  | 3 => .int
  | 4 => .int
  | _ => .int
abbrev wsX20 : List Cond := u_ws RX2 TX2 6
theorem nmX2 : ∀ a, a < 6 → ∀ b, b < 6 → a ≠ b → (TX2 a).2.1 ≠ (TX2 b).2.1 := by decide +kernel
theorem tyX2_ok : ∀ k, k < 6 → parseFieldDescriptor (TX2 k).2.2.1 = some (tyX2 k) := by decide +kernel
abbrev cX2_init : ByteArray := prog_4_method_1_code
def yX2_init : MethodName := ⟨RX2, "<init>", "()V"⟩
abbrev cX2_copyFrom : ByteArray := prog_4_method_2_code
def yX2_copyFrom : MethodName := ⟨RX2, "copyFrom", "(LPurrProbates$Person;)V"⟩
abbrev cX2_begin : ByteArray := prog_4_method_3_code
def yX2_begin : MethodName := ⟨RX2, "begin", "(II)V"⟩
def RX3 : String := "PurrProbates$State"
def TX3 : u_T := fun k => match k with
  | 0 => ("PurrProbates$State", "settings", "[I", true)
  | 1 => ("PurrProbates$State", "people", "[LPurrProbates$Person;", true)
  | 2 => ("PurrProbates$State", "size", "I", false)
  | 3 => ("PurrProbates$State", "mood", "I", false)
  | 4 => ("PurrProbates$State", "guardian", "I", false)
  | 5 => ("PurrProbates$State", "turn", "I", false)
  | 6 => ("PurrProbates$State", "estate", "I", false)
  | 7 => ("PurrProbates$State", "days", "I", false)
  | 8 => ("PurrProbates$State", "scratches", "I", false)
  | 9 => ("PurrProbates$State", "purrs", "I", false)
  | 10 => ("PurrProbates$State", "deposed", "I", false)
  | 11 => ("PurrProbates$State", "fed", "I", false)
  | _ => ("PurrProbates$State", "given", "I", false)
def tyX3 : Nat → FieldType := fun k => match k with
  | 0 => .array .int
  | 1 => .array (.object "PurrProbates$Person")
  | 2 => .int
  | 3 => .int
  | 4 => .int
  | 5 => .int
  | 6 => .int
  | 7 => .int
  | 8 => .int
  | 9 => .int
  | 10 => .int
  | 11 => .int
  | _ => .int
abbrev wsX30 : List Cond := u_ws RX3 TX3 13
theorem nmX3 : ∀ a, a < 13 → ∀ b, b < 13 → a ≠ b → (TX3 a).2.1 ≠ (TX3 b).2.1 := by decide +kernel
theorem tyX3_ok : ∀ k, k < 13 → parseFieldDescriptor (TX3 k).2.2.1 = some (tyX3 k) := by decide +kernel
abbrev cX3_init : ByteArray := prog_5_method_1_code
def yX3_init : MethodName := ⟨RX3, "<init>", "()V"⟩
abbrev cX3_copyFrom : ByteArray := prog_5_method_2_code
def yX3_copyFrom : MethodName := ⟨RX3, "copyFrom", "(LPurrProbates$State;)V"⟩
abbrev cX3_at : ByteArray := prog_5_method_3_code
def yX3_at : MethodName := ⟨RX3, "at", "(I)LPurrProbates$Person;"⟩
abbrev cX3_behind : ByteArray := prog_5_method_4_code
def yX3_behind : MethodName := ⟨RX3, "behind", "(I)I"⟩
abbrev cX3_isBarred : ByteArray := prog_5_method_5_code
def yX3_isBarred : MethodName := ⟨RX3, "isBarred", "(LPurrProbates$Person;)Z"⟩
abbrev cX3_score : ByteArray := prog_5_method_6_code
def yX3_score : MethodName := ⟨RX3, "score", "(LPurrProbates$Person;)I"⟩
abbrev cX3_barredPeople : ByteArray := prog_5_method_7_code
def yX3_barredPeople : MethodName := ⟨RX3, "barredPeople", "()I"⟩
abbrev cX3_allPurses : ByteArray := prog_5_method_8_code
def yX3_allPurses : MethodName := ⟨RX3, "allPurses", "()I"⟩
abbrev cX3_admit : ByteArray := prog_5_method_9_code
def yX3_admit : MethodName := ⟨RX3, "admit", "(II)V"⟩
abbrev cX3_relocate : ByteArray := prog_5_method_10_code
def yX3_relocate : MethodName := ⟨RX3, "relocate", "(II)V"⟩
abbrev cX3_placeAfterMove : ByteArray := prog_5_method_11_code
def yX3_placeAfterMove : MethodName := ⟨RX3, "placeAfterMove", "(III)I"⟩
abbrev cX3_leaveWithoutGuardian : ByteArray := prog_5_method_12_code
def yX3_leaveWithoutGuardian : MethodName := ⟨RX3, "leaveWithoutGuardian", "(I)V"⟩
abbrev cX3_depose : ByteArray := prog_5_method_13_code
def yX3_depose : MethodName := ⟨RX3, "depose", "(I)V"⟩
abbrev cX3_scratch : ByteArray := prog_5_method_14_code
def yX3_scratch : MethodName := ⟨RX3, "scratch", "(LPurrProbates$Person;)V"⟩
abbrev cX3_mayAppeal : ByteArray := prog_5_method_15_code
def yX3_mayAppeal : MethodName := ⟨RX3, "mayAppeal", "(I)Z"⟩
abbrev cX3_hearAppeal : ByteArray := prog_5_method_16_code
def yX3_hearAppeal : MethodName := ⟨RX3, "hearAppeal", "(I)Z"⟩
abbrev cX3_liveDays : ByteArray := prog_5_method_17_code
def yX3_liveDays : MethodName := ⟨RX3, "liveDays", "(I)V"⟩
abbrev cX3_liveDay : ByteArray := prog_5_method_18_code
def yX3_liveDay : MethodName := ⟨RX3, "liveDay", "()I"⟩
abbrev cX3_holdOutHand : ByteArray := prog_5_method_19_code
def yX3_holdOutHand : MethodName := ⟨RX3, "holdOutHand", "()I"⟩
abbrev cX3_nextHand : ByteArray := prog_5_method_20_code
def yX3_nextHand : MethodName := ⟨RX3, "nextHand", "()I"⟩
abbrev cX3_endMonth : ByteArray := prog_5_method_21_code
def yX3_endMonth : MethodName := ⟨RX3, "endMonth", "()V"⟩
abbrev cX3_draw : ByteArray := prog_5_method_22_code
def yX3_draw : MethodName := ⟨RX3, "draw", "(I)I"⟩
def RX4 : String := "PurrProbates"
def TX4 : u_T := fun k => match k with
  | 0 => ("PurrProbates", "now", "LPurrProbates$State;", true)
  | 1 => ("PurrProbates", "trial", "LPurrProbates$State;", true)
  | 2 => ("PurrProbates", "history", "LPurrProbates$History;", true)
  | 3 => ("PurrProbates", "slots", "[LPurrProbates$State;", true)
  | _ => ("PurrProbates", "pad", "LPurrProbates$Pad;", true)
def tyX4 : Nat → FieldType := fun k => match k with
  | 0 => .object "PurrProbates$State"
  | 1 => .object "PurrProbates$State"
  | 2 => .object "PurrProbates$History"
  | 3 => .array (.object "PurrProbates$State")
  | _ => .object "PurrProbates$Pad"
abbrev wsX40 : List Cond := u_ws RX4 TX4 5
theorem nmX4 : ∀ a, a < 5 → ∀ b, b < 5 → a ≠ b → (TX4 a).2.1 ≠ (TX4 b).2.1 := by decide +kernel
theorem tyX4_ok : ∀ k, k < 5 → parseFieldDescriptor (TX4 k).2.2.1 = some (tyX4 k) := by decide +kernel
abbrev cX4_init : ByteArray := prog_1_method_1_code
def yX4_init : MethodName := ⟨RX4, "<init>", "()V"⟩
abbrev cX4_set : ByteArray := prog_1_method_2_code
def yX4_set : MethodName := ⟨RX4, "set", "(II)I"⟩
abbrev cX4_add : ByteArray := prog_1_method_3_code
def yX4_add : MethodName := ⟨RX4, "add", "(II)I"⟩
abbrev cX4_read : ByteArray := prog_1_method_4_code
def yX4_read : MethodName := ⟨RX4, "read", "()I"⟩
abbrev cX4_move : ByteArray := prog_1_method_5_code
def yX4_move : MethodName := ⟨RX4, "move", "(II)I"⟩
abbrev cX4_stepDown : ByteArray := prog_1_method_6_code
def yX4_stepDown : MethodName := ⟨RX4, "stepDown", "()I"⟩
abbrev cX4_appeal : ByteArray := prog_1_method_7_code
def yX4_appeal : MethodName := ⟨RX4, "appeal", "(I)I"⟩
abbrev cX4_give : ByteArray := prog_1_method_8_code
def yX4_give : MethodName := ⟨RX4, "give", "(I)I"⟩
abbrev cX4_pass : ByteArray := prog_1_method_9_code
def yX4_pass : MethodName := ⟨RX4, "pass", "(I)I"⟩
abbrev cX4_person : ByteArray := prog_1_method_10_code
def yX4_person : MethodName := ⟨RX4, "person", "(II)I"⟩
abbrev cX4_count : ByteArray := prog_1_method_11_code
def yX4_count : MethodName := ⟨RX4, "count", "(I)I"⟩
abbrev cX4_next : ByteArray := prog_1_method_12_code
def yX4_next : MethodName := ⟨RX4, "next", "(I)I"⟩
abbrev cX4_untilEmpty : ByteArray := prog_1_method_13_code
def yX4_untilEmpty : MethodName := ⟨RX4, "untilEmpty", "()I"⟩
abbrev cX4_ifPassed : ByteArray := prog_1_method_14_code
def yX4_ifPassed : MethodName := ⟨RX4, "ifPassed", "(II)I"⟩
abbrev cX4_bestPlace : ByteArray := prog_1_method_15_code
def yX4_bestPlace : MethodName := ⟨RX4, "bestPlace", "(II)I"⟩
abbrev cX4_put : ByteArray := prog_1_method_16_code
def yX4_put : MethodName := ⟨RX4, "put", "(J)I"⟩
abbrev cX4_wipe : ByteArray := prog_1_method_17_code
def yX4_wipe : MethodName := ⟨RX4, "wipe", "()I"⟩
abbrev cX4_fault : ByteArray := prog_1_method_18_code
def yX4_fault : MethodName := ⟨RX4, "fault", "()I"⟩
abbrev cX4_undo : ByteArray := prog_1_method_19_code
def yX4_undo : MethodName := ⟨RX4, "undo", "()I"⟩
abbrev cX4_save : ByteArray := prog_1_method_20_code
def yX4_save : MethodName := ⟨RX4, "save", "(I)I"⟩
abbrev cX4_restore : ByteArray := prog_1_method_21_code
def yX4_restore : MethodName := ⟨RX4, "restore", "(I)I"⟩
abbrev cX4_isSetting : ByteArray := prog_1_method_22_code
def yX4_isSetting : MethodName := ⟨RX4, "isSetting", "(I)Z"⟩
abbrev cX4_isSlot : ByteArray := prog_1_method_23_code
def yX4_isSlot : MethodName := ⟨RX4, "isSlot", "(I)Z"⟩
abbrev cX4_daysAsGuardianIfMoved : ByteArray := prog_1_method_24_code
def yX4_daysAsGuardianIfMoved : MethodName := ⟨RX4, "daysAsGuardianIfMoved", "(II)I"⟩
abbrev cX4_codesIn : ByteArray := prog_1_method_25_code
def yX4_codesIn : MethodName := ⟨RX4, "codesIn", "(J)I"⟩
def RX5 : String := "PurrProbatesModel"
def TX5 : u_T := fun k => match k with
  | 0 => ("PurrProbatesModel", "s", "[I", true)
  | 1 => ("PurrProbatesModel", "past", "[I", true)
  | 2 => ("PurrProbatesModel", "known", "I", false)
  | 3 => ("PurrProbatesModel", "slots", "[I", true)
  | 4 => ("PurrProbatesModel", "isSaved", "[Z", true)
  | 5 => ("PurrProbatesModel", "pad", "[I", true)
  | _ => ("PurrProbatesModel", "length", "I", false)
def tyX5 : Nat → FieldType := fun k => match k with
  | 0 => .array .int
  | 1 => .array .int
  | 2 => .int
  | 3 => .array .int
  | 4 => .array .boolean
  | 5 => .array .int
  | _ => .int
abbrev wsX50 : List Cond := u_ws RX5 TX5 7
theorem nmX5 : ∀ a, a < 7 → ∀ b, b < 7 → a ≠ b → (TX5 a).2.1 ≠ (TX5 b).2.1 := by decide +kernel
theorem tyX5_ok : ∀ k, k < 7 → parseFieldDescriptor (TX5 k).2.2.1 = some (tyX5 k) := by decide +kernel
abbrev cX5_init : ByteArray := prog_7_method_1_code
def yX5_init : MethodName := ⟨RX5, "<init>", "()V"⟩
abbrev cX5_in : ByteArray := prog_7_method_3_code
def yX5_in : MethodName := ⟨RX5, "in", "(III)Z"⟩
abbrev cX5_less : ByteArray := prog_7_method_4_code
def yX5_less : MethodName := ⟨RX5, "less", "(II)I"⟩
abbrev cX5_at : ByteArray := prog_7_method_5_code
def yX5_at : MethodName := ⟨RX5, "at", "(II)I"⟩
abbrev cX5_isPerson : ByteArray := prog_7_method_6_code
def yX5_isPerson : MethodName := ⟨RX5, "isPerson", "(I)Z"⟩
abbrev cX5_remembers : ByteArray := prog_7_method_7_code
def yX5_remembers : MethodName := ⟨RX5, "remembers", "()V"⟩
abbrev cX5_copies : ByteArray := prog_7_method_8_code
def yX5_copies : MethodName := ⟨RX5, "copies", "()V"⟩
abbrev cX5_isBarred : ByteArray := prog_7_method_9_code
def yX5_isBarred : MethodName := ⟨RX5, "isBarred", "(II)Z"⟩
abbrev cX5_score : ByteArray := prog_7_method_10_code
def yX5_score : MethodName := ⟨RX5, "score", "(II)I"⟩
abbrev cX5_scratches : ByteArray := prog_7_method_11_code
def yX5_scratches : MethodName := ⟨RX5, "scratches", "(II)V"⟩
abbrev cX5_behind : ByteArray := prog_7_method_12_code
def yX5_behind : MethodName := ⟨RX5, "behind", "(II)I"⟩
abbrev cX5_hand : ByteArray := prog_7_method_13_code
def yX5_hand : MethodName := ⟨RX5, "hand", "(I)I"⟩
abbrev cX5_purrs : ByteArray := prog_7_method_14_code
def yX5_purrs : MethodName := ⟨RX5, "purrs", "(I)Z"⟩
abbrev cX5_deposes : ByteArray := prog_7_method_15_code
def yX5_deposes : MethodName := ⟨RX5, "deposes", "(II)V"⟩
abbrev cX5_pays : ByteArray := prog_7_method_16_code
def yX5_pays : MethodName := ⟨RX5, "pays", "(I)V"⟩
abbrev cX5_passesOne : ByteArray := prog_7_method_17_code
def yX5_passesOne : MethodName := ⟨RX5, "passesOne", "(I)Z"⟩
abbrev cX5_passes : ByteArray := prog_7_method_18_code
def yX5_passes : MethodName := ⟨RX5, "passes", "(II)I"⟩
abbrev cX5_moved : ByteArray := prog_7_method_19_code
def yX5_moved : MethodName := ⟨RX5, "moved", "(III)I"⟩
abbrev cX5_changesPlaces : ByteArray := prog_7_method_20_code
def yX5_changesPlaces : MethodName := ⟨RX5, "changesPlaces", "(III)V"⟩
abbrev cX5_moves : ByteArray := prog_7_method_21_code
def yX5_moves : MethodName := ⟨RX5, "moves", "(III)V"⟩
abbrev cX5_lowOf : ByteArray := prog_7_method_22_code
def yX5_lowOf : MethodName := ⟨RX5, "lowOf", "(I)I"⟩
abbrev cX5_highOf : ByteArray := prog_7_method_23_code
def yX5_highOf : MethodName := ⟨RX5, "highOf", "(I)I"⟩
abbrev cX5_set : ByteArray := prog_7_method_24_code
def yX5_set : MethodName := ⟨RX5, "set", "(II)I"⟩
abbrev cX5_comes : ByteArray := prog_7_method_25_code
def yX5_comes : MethodName := ⟨RX5, "comes", "(II)V"⟩
abbrev cX5_add : ByteArray := prog_7_method_26_code
def yX5_add : MethodName := ⟨RX5, "add", "(II)I"⟩
abbrev cX5_move : ByteArray := prog_7_method_27_code
def yX5_move : MethodName := ⟨RX5, "move", "(II)I"⟩
abbrev cX5_stepDown : ByteArray := prog_7_method_28_code
def yX5_stepDown : MethodName := ⟨RX5, "stepDown", "()I"⟩
abbrev cX5_canAppeal : ByteArray := prog_7_method_29_code
def yX5_canAppeal : MethodName := ⟨RX5, "canAppeal", "(I)Z"⟩
abbrev cX5_appeal : ByteArray := prog_7_method_30_code
def yX5_appeal : MethodName := ⟨RX5, "appeal", "(I)I"⟩
abbrev cX5_give : ByteArray := prog_7_method_31_code
def yX5_give : MethodName := ⟨RX5, "give", "(I)I"⟩
abbrev cX5_pass : ByteArray := prog_7_method_32_code
def yX5_pass : MethodName := ⟨RX5, "pass", "(I)I"⟩
abbrev cX5_person : ByteArray := prog_7_method_33_code
def yX5_person : MethodName := ⟨RX5, "person", "(II)I"⟩
abbrev cX5_ofAll : ByteArray := prog_7_method_34_code
def yX5_ofAll : MethodName := ⟨RX5, "ofAll", "(I)I"⟩
abbrev cX5_count : ByteArray := prog_7_method_35_code
def yX5_count : MethodName := ⟨RX5, "count", "(I)I"⟩
abbrev cX5_next : ByteArray := prog_7_method_36_code
def yX5_next : MethodName := ⟨RX5, "next", "(I)I"⟩
abbrev cX5_untilEmpty : ByteArray := prog_7_method_37_code
def yX5_untilEmpty : MethodName := ⟨RX5, "untilEmpty", "()I"⟩
abbrev cX5_ifPassed : ByteArray := prog_7_method_38_code
def yX5_ifPassed : MethodName := ⟨RX5, "ifPassed", "(II)I"⟩
abbrev cX5_bestPlace : ByteArray := prog_7_method_39_code
def yX5_bestPlace : MethodName := ⟨RX5, "bestPlace", "(II)I"⟩
abbrev cX5_put : ByteArray := prog_7_method_40_code
def yX5_put : MethodName := ⟨RX5, "put", "(J)I"⟩
abbrev cX5_wipe : ByteArray := prog_7_method_41_code
def yX5_wipe : MethodName := ⟨RX5, "wipe", "()I"⟩
abbrev cX5_sign : ByteArray := prog_7_method_42_code
def yX5_sign : MethodName := ⟨RX5, "sign", "(I)I"⟩
abbrev cX5_digit : ByteArray := prog_7_method_43_code
def yX5_digit : MethodName := ⟨RX5, "digit", "(I)I"⟩
abbrev cX5_shareEnd : ByteArray := prog_7_method_44_code
def yX5_shareEnd : MethodName := ⟨RX5, "shareEnd", "(I)I"⟩
abbrev cX5_shareAt : ByteArray := prog_7_method_45_code
def yX5_shareAt : MethodName := ⟨RX5, "shareAt", "(I)I"⟩
abbrev cX5_personEnd : ByteArray := prog_7_method_46_code
def yX5_personEnd : MethodName := ⟨RX5, "personEnd", "(I)I"⟩
abbrev cX5_fault : ByteArray := prog_7_method_47_code
def yX5_fault : MethodName := ⟨RX5, "fault", "()I"⟩
abbrev cX5_peopleOfPad : ByteArray := prog_7_method_48_code
def yX5_peopleOfPad : MethodName := ⟨RX5, "peopleOfPad", "()I"⟩
abbrev cX5_read : ByteArray := prog_7_method_49_code
def yX5_read : MethodName := ⟨RX5, "read", "()I"⟩
abbrev cX5_undo : ByteArray := prog_7_method_50_code
def yX5_undo : MethodName := ⟨RX5, "undo", "()I"⟩
abbrev cX5_save : ByteArray := prog_7_method_51_code
def yX5_save : MethodName := ⟨RX5, "save", "(I)I"⟩
abbrev cX5_restore : ByteArray := prog_7_method_52_code
def yX5_restore : MethodName := ⟨RX5, "restore", "(I)I"⟩
def RJx8e188 : String := "java/lang/Cloneable"
def TJx8e188 : u_T := fun k => match k with
  | _ => ("", "", "", false)
def tyJx8e188 : Nat → FieldType := fun k => match k with
  | _ => .int
abbrev wsJx8e1880 : List Cond := u_ws RJx8e188 TJx8e188 0
theorem nmJx8e188 : ∀ a, a < 0 → ∀ b, b < 0 → a ≠ b → (TJx8e188 a).2.1 ≠ (TJx8e188 b).2.1 := by decide +kernel
theorem tyJx8e188_ok : ∀ k, k < 0 → parseFieldDescriptor (TJx8e188 k).2.2.1 = some (tyJx8e188 k) := by decide +kernel
def RJ6 : String := "java/lang/Integer"
def TJ6 : u_T := fun k => match k with
  | _ => ("", "", "", false)
def tyJ6 : Nat → FieldType := fun k => match k with
  | _ => .int
abbrev wsJ60 : List Cond := u_ws RJ6 TJ6 0
theorem nmJ6 : ∀ a, a < 0 → ∀ b, b < 0 → a ≠ b → (TJ6 a).2.1 ≠ (TJ6 b).2.1 := by decide +kernel
theorem tyJ6_ok : ∀ k, k < 0 → parseFieldDescriptor (TJ6 k).2.2.1 = some (tyJ6 k) := by decide +kernel
abbrev cJ6_compare_7cf53 : ByteArray := prog_9_method_40_code
def yJ6_compare_7cf53 : MethodName := ⟨RJ6, "compare", "(II)I"⟩
def RJ9 : String := "java/lang/Math"
def TJ9 : u_T := fun k => match k with
  | _ => ("", "", "", false)
def tyJ9 : Nat → FieldType := fun k => match k with
  | _ => .int
abbrev wsJ90 : List Cond := u_ws RJ9 TJ9 0
theorem nmJ9 : ∀ a, a < 0 → ∀ b, b < 0 → a ≠ b → (TJ9 a).2.1 ≠ (TJ9 b).2.1 := by decide +kernel
theorem tyJ9_ok : ∀ k, k < 0 → parseFieldDescriptor (TJ9 k).2.2.1 = some (tyJ9 k) := by decide +kernel
abbrev cJ9_abs_0f7a4 : ByteArray := prog_10_method_59_code
def yJ9_abs_0f7a4 : MethodName := ⟨RJ9, "abs", "(I)I"⟩
abbrev cJ9_max_7cf53 : ByteArray := prog_10_method_65_code
def yJ9_max_7cf53 : MethodName := ⟨RJ9, "max", "(II)I"⟩
abbrev cJ9_min_7cf53 : ByteArray := prog_10_method_69_code
def yJ9_min_7cf53 : MethodName := ⟨RJ9, "min", "(II)I"⟩
def RJ10 : String := "java/lang/System"
def TJ10 : u_T := fun k => match k with
  | _ => ("", "", "", false)
def tyJ10 : Nat → FieldType := fun k => match k with
  | _ => .int
abbrev wsJ100 : List Cond := u_ws RJ10 TJ10 0
theorem nmJ10 : ∀ a, a < 0 → ∀ b, b < 0 → a ≠ b → (TJ10 a).2.1 ≠ (TJ10 b).2.1 := by decide +kernel
theorem tyJ10_ok : ∀ k, k < 0 → parseFieldDescriptor (TJ10 k).2.2.1 = some (tyJ10 k) := by decide +kernel
def RL : String := "PurrProbatesLaw"
abbrev cL_law : ByteArray := code
def yL_law : MethodName := ⟨RL, "law", "([I)Z"⟩
abbrev vwCl : List vw_C := [(RX0, TX0, 2), (RX1, TX1, 2), (RX2, TX2, 6), (RX3, TX3, 13), (RX4, TX4, 5), (RX5, TX5, 7)]
end
section
theorem dX0_init_0 : decode cX0_init 0 = .ok (.aload_n 0, 1) := by decide +kernel
theorem dX0_init_1 : decode cX0_init 1 = .ok (.invokespecial 3, 3) := by decide +kernel
theorem dX0_init_4 : decode cX0_init 4 = .ok (.aload_n 0, 1) := by decide +kernel
theorem dX0_init_5 : decode cX0_init 5 = .ok (.bipush 6, 2) := by decide +kernel
theorem dX0_init_7 : decode cX0_init 7 = .ok (.anewarray 9, 3) := by decide +kernel
theorem dX0_init_10 : decode cX0_init 10 = .ok (.putfield 11, 3) := by decide +kernel
theorem dX0_init_13 : decode cX0_init 13 = .ok (.aload_n 0, 1) := by decide +kernel
theorem dX0_init_14 : decode cX0_init 14 = .ok (.iconst 0, 1) := by decide +kernel
theorem dX0_init_15 : decode cX0_init 15 = .ok (.putfield 17, 3) := by decide +kernel
theorem dX0_init_18 : decode cX0_init 18 = .ok (.iconst 0, 1) := by decide +kernel
theorem dX0_init_19 : decode cX0_init 19 = .ok (.istore_n 1, 1) := by decide +kernel
theorem dX0_init_20 : decode cX0_init 20 = .ok (.iload_n 1, 1) := by decide +kernel
theorem dX0_init_21 : decode cX0_init 21 = .ok (.bipush 6, 2) := by decide +kernel
theorem dX0_init_23 : decode cX0_init 23 = .ok (.if_icmp .ge 22, 3) := by decide +kernel
theorem dX0_init_26 : decode cX0_init 26 = .ok (.aload_n 0, 1) := by decide +kernel
theorem dX0_init_27 : decode cX0_init 27 = .ok (.getfield 11, 3) := by decide +kernel
theorem dX0_init_30 : decode cX0_init 30 = .ok (.iload_n 1, 1) := by decide +kernel
theorem dX0_init_31 : decode cX0_init 31 = .ok (.new 9, 3) := by decide +kernel
theorem dX0_init_34 : decode cX0_init 34 = .ok (.dup, 1) := by decide +kernel
theorem dX0_init_35 : decode cX0_init 35 = .ok (.invokespecial 21, 3) := by decide +kernel
theorem dX0_init_38 : decode cX0_init 38 = .ok (.aastore, 1) := by decide +kernel
theorem dX0_init_39 : decode cX0_init 39 = .ok (.iinc 1 1, 3) := by decide +kernel
theorem dX0_init_42 : decode cX0_init 42 = .ok (.goto (-22), 3) := by decide +kernel
theorem dX0_init_45 : decode cX0_init 45 = .ok (.return_, 1) := by decide +kernel
theorem dX0_record_0 : decode cX0_record 0 = .ok (.aload_n 0, 1) := by decide +kernel
theorem dX0_record_1 : decode cX0_record 1 = .ok (.getfield 17, 3) := by decide +kernel
theorem dX0_record_4 : decode cX0_record 4 = .ok (.bipush 6, 2) := by decide +kernel
theorem dX0_record_6 : decode cX0_record 6 = .ok (.if_icmp .lt 7, 3) := by decide +kernel
theorem dX0_record_9 : decode cX0_record 9 = .ok (.aload_n 0, 1) := by decide +kernel
theorem dX0_record_10 : decode cX0_record 10 = .ok (.invokevirtual 22, 3) := by decide +kernel
theorem dX0_record_13 : decode cX0_record 13 = .ok (.aload_n 0, 1) := by decide +kernel
theorem dX0_record_14 : decode cX0_record 14 = .ok (.getfield 17, 3) := by decide +kernel
theorem dX0_record_17 : decode cX0_record 17 = .ok (.ifCond .lt 47, 3) := by decide +kernel
theorem dX0_record_20 : decode cX0_record 20 = .ok (.aload_n 0, 1) := by decide +kernel
theorem dX0_record_21 : decode cX0_record 21 = .ok (.getfield 17, 3) := by decide +kernel
theorem dX0_record_24 : decode cX0_record 24 = .ok (.bipush 6, 2) := by decide +kernel
theorem dX0_record_26 : decode cX0_record 26 = .ok (.if_icmp .ge 38, 3) := by decide +kernel
theorem dX0_record_29 : decode cX0_record 29 = .ok (.aload_n 0, 1) := by decide +kernel
theorem dX0_record_30 : decode cX0_record 30 = .ok (.getfield 11, 3) := by decide +kernel
theorem dX0_record_33 : decode cX0_record 33 = .ok (.aload_n 0, 1) := by decide +kernel
theorem dX0_record_34 : decode cX0_record 34 = .ok (.getfield 17, 3) := by decide +kernel
theorem dX0_record_37 : decode cX0_record 37 = .ok (.aaload, 1) := by decide +kernel
theorem dX0_record_38 : decode cX0_record 38 = .ok (.ifnull 26, 3) := by decide +kernel
theorem dX0_record_41 : decode cX0_record 41 = .ok (.aload_n 0, 1) := by decide +kernel
theorem dX0_record_42 : decode cX0_record 42 = .ok (.getfield 11, 3) := by decide +kernel
theorem dX0_record_45 : decode cX0_record 45 = .ok (.aload_n 0, 1) := by decide +kernel
theorem dX0_record_46 : decode cX0_record 46 = .ok (.getfield 17, 3) := by decide +kernel
theorem dX0_record_49 : decode cX0_record 49 = .ok (.aaload, 1) := by decide +kernel
theorem dX0_record_50 : decode cX0_record 50 = .ok (.aload_n 1, 1) := by decide +kernel
theorem dX0_record_51 : decode cX0_record 51 = .ok (.invokevirtual 25, 3) := by decide +kernel
theorem dX0_record_54 : decode cX0_record 54 = .ok (.aload_n 0, 1) := by decide +kernel
theorem dX0_record_55 : decode cX0_record 55 = .ok (.dup, 1) := by decide +kernel
theorem dX0_record_56 : decode cX0_record 56 = .ok (.getfield 17, 3) := by decide +kernel
theorem dX0_record_59 : decode cX0_record 59 = .ok (.iconst 1, 1) := by decide +kernel
theorem dX0_record_60 : decode cX0_record 60 = .ok (.iadd, 1) := by decide +kernel
theorem dX0_record_61 : decode cX0_record 61 = .ok (.putfield 17, 3) := by decide +kernel
theorem dX0_record_64 : decode cX0_record 64 = .ok (.return_, 1) := by decide +kernel
theorem dX0_dropOldest_0 : decode cX0_dropOldest 0 = .ok (.aload_n 0, 1) := by decide +kernel
theorem dX0_dropOldest_1 : decode cX0_dropOldest 1 = .ok (.getfield 11, 3) := by decide +kernel
theorem dX0_dropOldest_4 : decode cX0_dropOldest 4 = .ok (.iconst 0, 1) := by decide +kernel
theorem dX0_dropOldest_5 : decode cX0_dropOldest 5 = .ok (.aaload, 1) := by decide +kernel
theorem dX0_dropOldest_6 : decode cX0_dropOldest 6 = .ok (.astore_n 1, 1) := by decide +kernel
theorem dX0_dropOldest_7 : decode cX0_dropOldest 7 = .ok (.iconst 1, 1) := by decide +kernel
theorem dX0_dropOldest_8 : decode cX0_dropOldest 8 = .ok (.istore_n 2, 1) := by decide +kernel
theorem dX0_dropOldest_9 : decode cX0_dropOldest 9 = .ok (.iload_n 2, 1) := by decide +kernel
theorem dX0_dropOldest_10 : decode cX0_dropOldest 10 = .ok (.bipush 6, 2) := by decide +kernel
theorem dX0_dropOldest_12 : decode cX0_dropOldest 12 = .ok (.if_icmp .ge 23, 3) := by decide +kernel
theorem dX0_dropOldest_15 : decode cX0_dropOldest 15 = .ok (.aload_n 0, 1) := by decide +kernel
theorem dX0_dropOldest_16 : decode cX0_dropOldest 16 = .ok (.getfield 11, 3) := by decide +kernel
theorem dX0_dropOldest_19 : decode cX0_dropOldest 19 = .ok (.iload_n 2, 1) := by decide +kernel
theorem dX0_dropOldest_20 : decode cX0_dropOldest 20 = .ok (.iconst 1, 1) := by decide +kernel
theorem dX0_dropOldest_21 : decode cX0_dropOldest 21 = .ok (.isub, 1) := by decide +kernel
theorem dX0_dropOldest_22 : decode cX0_dropOldest 22 = .ok (.aload_n 0, 1) := by decide +kernel
theorem dX0_dropOldest_23 : decode cX0_dropOldest 23 = .ok (.getfield 11, 3) := by decide +kernel
theorem dX0_dropOldest_26 : decode cX0_dropOldest 26 = .ok (.iload_n 2, 1) := by decide +kernel
theorem dX0_dropOldest_27 : decode cX0_dropOldest 27 = .ok (.aaload, 1) := by decide +kernel
theorem dX0_dropOldest_28 : decode cX0_dropOldest 28 = .ok (.aastore, 1) := by decide +kernel
theorem dX0_dropOldest_29 : decode cX0_dropOldest 29 = .ok (.iinc 2 1, 3) := by decide +kernel
theorem dX0_dropOldest_32 : decode cX0_dropOldest 32 = .ok (.goto (-23), 3) := by decide +kernel
theorem dX0_dropOldest_35 : decode cX0_dropOldest 35 = .ok (.aload_n 0, 1) := by decide +kernel
theorem dX0_dropOldest_36 : decode cX0_dropOldest 36 = .ok (.getfield 11, 3) := by decide +kernel
theorem dX0_dropOldest_39 : decode cX0_dropOldest 39 = .ok (.iconst 5, 1) := by decide +kernel
theorem dX0_dropOldest_40 : decode cX0_dropOldest 40 = .ok (.aload_n 1, 1) := by decide +kernel
theorem dX0_dropOldest_41 : decode cX0_dropOldest 41 = .ok (.aastore, 1) := by decide +kernel
theorem dX0_dropOldest_42 : decode cX0_dropOldest 42 = .ok (.aload_n 0, 1) := by decide +kernel
theorem dX0_dropOldest_43 : decode cX0_dropOldest 43 = .ok (.iconst 5, 1) := by decide +kernel
theorem dX0_dropOldest_44 : decode cX0_dropOldest 44 = .ok (.putfield 17, 3) := by decide +kernel
theorem dX0_dropOldest_47 : decode cX0_dropOldest 47 = .ok (.return_, 1) := by decide +kernel
theorem dX0_takeBack_0 : decode cX0_takeBack 0 = .ok (.aload_n 0, 1) := by decide +kernel
theorem dX0_takeBack_1 : decode cX0_takeBack 1 = .ok (.getfield 17, 3) := by decide +kernel
theorem dX0_takeBack_4 : decode cX0_takeBack 4 = .ok (.iconst 1, 1) := by decide +kernel
theorem dX0_takeBack_5 : decode cX0_takeBack 5 = .ok (.if_icmp .lt 26, 3) := by decide +kernel
theorem dX0_takeBack_8 : decode cX0_takeBack 8 = .ok (.aload_n 0, 1) := by decide +kernel
theorem dX0_takeBack_9 : decode cX0_takeBack 9 = .ok (.getfield 17, 3) := by decide +kernel
theorem dX0_takeBack_12 : decode cX0_takeBack 12 = .ok (.bipush 6, 2) := by decide +kernel
theorem dX0_takeBack_14 : decode cX0_takeBack 14 = .ok (.if_icmp .gt 17, 3) := by decide +kernel
theorem dX0_takeBack_17 : decode cX0_takeBack 17 = .ok (.aload_n 0, 1) := by decide +kernel
theorem dX0_takeBack_18 : decode cX0_takeBack 18 = .ok (.getfield 11, 3) := by decide +kernel
theorem dX0_takeBack_21 : decode cX0_takeBack 21 = .ok (.aload_n 0, 1) := by decide +kernel
theorem dX0_takeBack_22 : decode cX0_takeBack 22 = .ok (.getfield 17, 3) := by decide +kernel
theorem dX0_takeBack_25 : decode cX0_takeBack 25 = .ok (.iconst 1, 1) := by decide +kernel
theorem dX0_takeBack_26 : decode cX0_takeBack 26 = .ok (.isub, 1) := by decide +kernel
theorem dX0_takeBack_27 : decode cX0_takeBack 27 = .ok (.aaload, 1) := by decide +kernel
theorem dX0_takeBack_28 : decode cX0_takeBack 28 = .ok (.ifnonnull 4, 3) := by decide +kernel
theorem dX0_takeBack_31 : decode cX0_takeBack 31 = .ok (.return_, 1) := by decide +kernel
theorem dX0_takeBack_32 : decode cX0_takeBack 32 = .ok (.aload_n 0, 1) := by decide +kernel
theorem dX0_takeBack_33 : decode cX0_takeBack 33 = .ok (.dup, 1) := by decide +kernel
theorem dX0_takeBack_34 : decode cX0_takeBack 34 = .ok (.getfield 17, 3) := by decide +kernel
theorem dX0_takeBack_37 : decode cX0_takeBack 37 = .ok (.iconst 1, 1) := by decide +kernel
theorem dX0_takeBack_38 : decode cX0_takeBack 38 = .ok (.isub, 1) := by decide +kernel
theorem dX0_takeBack_39 : decode cX0_takeBack 39 = .ok (.putfield 17, 3) := by decide +kernel
theorem dX0_takeBack_42 : decode cX0_takeBack 42 = .ok (.aload_n 1, 1) := by decide +kernel
theorem dX0_takeBack_43 : decode cX0_takeBack 43 = .ok (.aload_n 0, 1) := by decide +kernel
theorem dX0_takeBack_44 : decode cX0_takeBack 44 = .ok (.getfield 11, 3) := by decide +kernel
theorem dX0_takeBack_47 : decode cX0_takeBack 47 = .ok (.aload_n 0, 1) := by decide +kernel
theorem dX0_takeBack_48 : decode cX0_takeBack 48 = .ok (.getfield 17, 3) := by decide +kernel
theorem dX0_takeBack_51 : decode cX0_takeBack 51 = .ok (.aaload, 1) := by decide +kernel
theorem dX0_takeBack_52 : decode cX0_takeBack 52 = .ok (.invokevirtual 25, 3) := by decide +kernel
theorem dX0_takeBack_55 : decode cX0_takeBack 55 = .ok (.return_, 1) := by decide +kernel
theorem dX1_init_0 : decode cX1_init 0 = .ok (.aload_n 0, 1) := by decide +kernel
theorem dX1_init_1 : decode cX1_init 1 = .ok (.invokespecial 3, 3) := by decide +kernel
theorem dX1_init_4 : decode cX1_init 4 = .ok (.aload_n 0, 1) := by decide +kernel
theorem dX1_init_5 : decode cX1_init 5 = .ok (.bipush 60, 2) := by decide +kernel
theorem dX1_init_7 : decode cX1_init 7 = .ok (.newarray .char, 2) := by decide +kernel
theorem dX1_init_9 : decode cX1_init 9 = .ok (.putfield 9, 3) := by decide +kernel
theorem dX1_init_12 : decode cX1_init 12 = .ok (.aload_n 0, 1) := by decide +kernel
theorem dX1_init_13 : decode cX1_init 13 = .ok (.iconst 0, 1) := by decide +kernel
theorem dX1_init_14 : decode cX1_init 14 = .ok (.putfield 15, 3) := by decide +kernel
theorem dX1_init_17 : decode cX1_init 17 = .ok (.return_, 1) := by decide +kernel
theorem dX1_append_0 : decode cX1_append 0 = .ok (.aload_n 0, 1) := by decide +kernel
theorem dX1_append_1 : decode cX1_append 1 = .ok (.getfield 15, 3) := by decide +kernel
theorem dX1_append_4 : decode cX1_append 4 = .ok (.ifCond .lt 32, 3) := by decide +kernel
theorem dX1_append_7 : decode cX1_append 7 = .ok (.aload_n 0, 1) := by decide +kernel
theorem dX1_append_8 : decode cX1_append 8 = .ok (.getfield 15, 3) := by decide +kernel
theorem dX1_append_11 : decode cX1_append 11 = .ok (.bipush 60, 2) := by decide +kernel
theorem dX1_append_13 : decode cX1_append 13 = .ok (.if_icmp .ge 23, 3) := by decide +kernel
theorem dX1_append_16 : decode cX1_append 16 = .ok (.aload_n 0, 1) := by decide +kernel
theorem dX1_append_17 : decode cX1_append 17 = .ok (.getfield 9, 3) := by decide +kernel
theorem dX1_append_20 : decode cX1_append 20 = .ok (.aload_n 0, 1) := by decide +kernel
theorem dX1_append_21 : decode cX1_append 21 = .ok (.getfield 15, 3) := by decide +kernel
theorem dX1_append_24 : decode cX1_append 24 = .ok (.iload_n 1, 1) := by decide +kernel
theorem dX1_append_25 : decode cX1_append 25 = .ok (.castore, 1) := by decide +kernel
theorem dX1_append_26 : decode cX1_append 26 = .ok (.aload_n 0, 1) := by decide +kernel
theorem dX1_append_27 : decode cX1_append 27 = .ok (.dup, 1) := by decide +kernel
theorem dX1_append_28 : decode cX1_append 28 = .ok (.getfield 15, 3) := by decide +kernel
theorem dX1_append_31 : decode cX1_append 31 = .ok (.iconst 1, 1) := by decide +kernel
theorem dX1_append_32 : decode cX1_append 32 = .ok (.iadd, 1) := by decide +kernel
theorem dX1_append_33 : decode cX1_append 33 = .ok (.putfield 15, 3) := by decide +kernel
theorem dX1_append_36 : decode cX1_append 36 = .ok (.return_, 1) := by decide +kernel
theorem dX1_character_0 : decode cX1_character 0 = .ok (.iload_n 1, 1) := by decide +kernel
theorem dX1_character_1 : decode cX1_character 1 = .ok (.ifCond .lt 26, 3) := by decide +kernel
theorem dX1_character_4 : decode cX1_character 4 = .ok (.iload_n 1, 1) := by decide +kernel
theorem dX1_character_5 : decode cX1_character 5 = .ok (.aload_n 0, 1) := by decide +kernel
theorem dX1_character_6 : decode cX1_character 6 = .ok (.getfield 15, 3) := by decide +kernel
theorem dX1_character_9 : decode cX1_character 9 = .ok (.if_icmp .ge 18, 3) := by decide +kernel
theorem dX1_character_12 : decode cX1_character 12 = .ok (.iload_n 1, 1) := by decide +kernel
theorem dX1_character_13 : decode cX1_character 13 = .ok (.bipush 60, 2) := by decide +kernel
theorem dX1_character_15 : decode cX1_character 15 = .ok (.if_icmp .ge 12, 3) := by decide +kernel
theorem dX1_character_18 : decode cX1_character 18 = .ok (.aload_n 0, 1) := by decide +kernel
theorem dX1_character_19 : decode cX1_character 19 = .ok (.getfield 9, 3) := by decide +kernel
theorem dX1_character_22 : decode cX1_character 22 = .ok (.iload_n 1, 1) := by decide +kernel
theorem dX1_character_23 : decode cX1_character 23 = .ok (.caload, 1) := by decide +kernel
theorem dX1_character_24 : decode cX1_character 24 = .ok (.goto 5, 3) := by decide +kernel
theorem dX1_character_27 : decode cX1_character 27 = .ok (.bipush 44, 2) := by decide +kernel
theorem dX1_character_29 : decode cX1_character 29 = .ok (.ireturn, 1) := by decide +kernel
theorem dX1_firstFault_0 : decode cX1_firstFault 0 = .ok (.iconst 0, 1) := by decide +kernel
theorem dX1_firstFault_1 : decode cX1_firstFault 1 = .ok (.istore_n 1, 1) := by decide +kernel
theorem dX1_firstFault_2 : decode cX1_firstFault 2 = .ok (.iconst 0, 1) := by decide +kernel
theorem dX1_firstFault_3 : decode cX1_firstFault 3 = .ok (.istore_n 2, 1) := by decide +kernel
theorem dX1_firstFault_4 : decode cX1_firstFault 4 = .ok (.iconst 0, 1) := by decide +kernel
theorem dX1_firstFault_5 : decode cX1_firstFault 5 = .ok (.istore_n 3, 1) := by decide +kernel
theorem dX1_firstFault_6 : decode cX1_firstFault 6 = .ok (.iload_n 3, 1) := by decide +kernel
theorem dX1_firstFault_7 : decode cX1_firstFault 7 = .ok (.aload_n 0, 1) := by decide +kernel
theorem dX1_firstFault_8 : decode cX1_firstFault 8 = .ok (.getfield 15, 3) := by decide +kernel
theorem dX1_firstFault_11 : decode cX1_firstFault 11 = .ok (.if_icmp .ge 62, 3) := by decide +kernel
theorem dX1_firstFault_14 : decode cX1_firstFault 14 = .ok (.aload_n 0, 1) := by decide +kernel
theorem dX1_firstFault_15 : decode cX1_firstFault 15 = .ok (.iload_n 3, 1) := by decide +kernel
theorem dX1_firstFault_16 : decode cX1_firstFault 16 = .ok (.invokevirtual 19, 3) := by decide +kernel
theorem dX1_firstFault_19 : decode cX1_firstFault 19 = .ok (.istore 4, 2) := by decide +kernel
theorem dX1_firstFault_21 : decode cX1_firstFault 21 = .ok (.aload_n 0, 1) := by decide +kernel
theorem dX1_firstFault_22 : decode cX1_firstFault 22 = .ok (.iload_n 1, 1) := by decide +kernel
theorem dX1_firstFault_23 : decode cX1_firstFault 23 = .ok (.iload_n 2, 1) := by decide +kernel
theorem dX1_firstFault_24 : decode cX1_firstFault 24 = .ok (.iload 4, 2) := by decide +kernel
theorem dX1_firstFault_26 : decode cX1_firstFault 26 = .ok (.invokevirtual 23, 3) := by decide +kernel
theorem dX1_firstFault_29 : decode cX1_firstFault 29 = .ok (.ifCond .ne 5, 3) := by decide +kernel
theorem dX1_firstFault_32 : decode cX1_firstFault 32 = .ok (.iload_n 3, 1) := by decide +kernel
theorem dX1_firstFault_33 : decode cX1_firstFault 33 = .ok (.ireturn, 1) := by decide +kernel
theorem dX1_firstFault_34 : decode cX1_firstFault 34 = .ok (.iload_n 1, 1) := by decide +kernel
theorem dX1_firstFault_35 : decode cX1_firstFault 35 = .ok (.ifCond .eq 22, 3) := by decide +kernel
theorem dX1_firstFault_38 : decode cX1_firstFault 38 = .ok (.aload_n 0, 1) := by decide +kernel
theorem dX1_firstFault_39 : decode cX1_firstFault 39 = .ok (.iload 4, 2) := by decide +kernel
theorem dX1_firstFault_41 : decode cX1_firstFault 41 = .ok (.invokevirtual 27, 3) := by decide +kernel
theorem dX1_firstFault_44 : decode cX1_firstFault 44 = .ok (.ifCond .eq 13, 3) := by decide +kernel
theorem dX1_firstFault_47 : decode cX1_firstFault 47 = .ok (.aload_n 0, 1) := by decide +kernel
theorem dX1_firstFault_48 : decode cX1_firstFault 48 = .ok (.iload_n 2, 1) := by decide +kernel
theorem dX1_firstFault_49 : decode cX1_firstFault 49 = .ok (.iload 4, 2) := by decide +kernel
theorem dX1_firstFault_51 : decode cX1_firstFault 51 = .ok (.invokevirtual 31, 3) := by decide +kernel
theorem dX1_firstFault_54 : decode cX1_firstFault 54 = .ok (.goto 4, 3) := by decide +kernel
theorem dX1_firstFault_57 : decode cX1_firstFault 57 = .ok (.iconst 0, 1) := by decide +kernel
theorem dX1_firstFault_58 : decode cX1_firstFault 58 = .ok (.istore_n 2, 1) := by decide +kernel
theorem dX1_firstFault_59 : decode cX1_firstFault 59 = .ok (.aload_n 0, 1) := by decide +kernel
theorem dX1_firstFault_60 : decode cX1_firstFault 60 = .ok (.iload_n 1, 1) := by decide +kernel
theorem dX1_firstFault_61 : decode cX1_firstFault 61 = .ok (.iload 4, 2) := by decide +kernel
theorem dX1_firstFault_63 : decode cX1_firstFault 63 = .ok (.invokevirtual 35, 3) := by decide +kernel
theorem dX1_firstFault_66 : decode cX1_firstFault 66 = .ok (.istore_n 1, 1) := by decide +kernel
theorem dX1_firstFault_67 : decode cX1_firstFault 67 = .ok (.iinc 3 1, 3) := by decide +kernel
theorem dX1_firstFault_70 : decode cX1_firstFault 70 = .ok (.goto (-64), 3) := by decide +kernel
theorem dX1_firstFault_73 : decode cX1_firstFault 73 = .ok (.iload_n 1, 1) := by decide +kernel
theorem dX1_firstFault_74 : decode cX1_firstFault 74 = .ok (.iconst 3, 1) := by decide +kernel
theorem dX1_firstFault_75 : decode cX1_firstFault 75 = .ok (.if_icmp .ne 8, 3) := by decide +kernel
theorem dX1_firstFault_78 : decode cX1_firstFault 78 = .ok (.bipush (-6), 2) := by decide +kernel
theorem dX1_firstFault_80 : decode cX1_firstFault 80 = .ok (.goto 7, 3) := by decide +kernel
theorem dX1_firstFault_83 : decode cX1_firstFault 83 = .ok (.aload_n 0, 1) := by decide +kernel
theorem dX1_firstFault_84 : decode cX1_firstFault 84 = .ok (.getfield 15, 3) := by decide +kernel
theorem dX1_firstFault_87 : decode cX1_firstFault 87 = .ok (.ireturn, 1) := by decide +kernel
theorem dX1_canStand_0 : decode cX1_canStand 0 = .ok (.iload_n 1, 1) := by decide +kernel
theorem dX1_canStand_1 : decode cX1_canStand 1 = .ok (.tableswitch 63 0 2 #[27, 45, 57], 27) := by decide +kernel
theorem dX1_canStand_28 : decode cX1_canStand 28 = .ok (.iload_n 3, 1) := by decide +kernel
theorem dX1_canStand_29 : decode cX1_canStand 29 = .ok (.bipush 49, 2) := by decide +kernel
theorem dX1_canStand_31 : decode cX1_canStand 31 = .ok (.if_icmp .lt 13, 3) := by decide +kernel
theorem dX1_canStand_34 : decode cX1_canStand 34 = .ok (.iload_n 3, 1) := by decide +kernel
theorem dX1_canStand_35 : decode cX1_canStand 35 = .ok (.bipush 57, 2) := by decide +kernel
theorem dX1_canStand_37 : decode cX1_canStand 37 = .ok (.if_icmp .gt 7, 3) := by decide +kernel
theorem dX1_canStand_40 : decode cX1_canStand 40 = .ok (.iconst 1, 1) := by decide +kernel
theorem dX1_canStand_41 : decode cX1_canStand 41 = .ok (.goto 4, 3) := by decide +kernel
theorem dX1_canStand_44 : decode cX1_canStand 44 = .ok (.iconst 0, 1) := by decide +kernel
theorem dX1_canStand_45 : decode cX1_canStand 45 = .ok (.ireturn, 1) := by decide +kernel
theorem dX1_canStand_46 : decode cX1_canStand 46 = .ok (.iload_n 3, 1) := by decide +kernel
theorem dX1_canStand_47 : decode cX1_canStand 47 = .ok (.bipush 102, 2) := by decide +kernel
theorem dX1_canStand_49 : decode cX1_canStand 49 = .ok (.if_icmp .ne 7, 3) := by decide +kernel
theorem dX1_canStand_52 : decode cX1_canStand 52 = .ok (.iconst 1, 1) := by decide +kernel
theorem dX1_canStand_53 : decode cX1_canStand 53 = .ok (.goto 4, 3) := by decide +kernel
theorem dX1_canStand_56 : decode cX1_canStand 56 = .ok (.iconst 0, 1) := by decide +kernel
theorem dX1_canStand_57 : decode cX1_canStand 57 = .ok (.ireturn, 1) := by decide +kernel
theorem dX1_canStand_58 : decode cX1_canStand 58 = .ok (.aload_n 0, 1) := by decide +kernel
theorem dX1_canStand_59 : decode cX1_canStand 59 = .ok (.iload_n 3, 1) := by decide +kernel
theorem dX1_canStand_60 : decode cX1_canStand 60 = .ok (.invokevirtual 27, 3) := by decide +kernel
theorem dX1_canStand_63 : decode cX1_canStand 63 = .ok (.ireturn, 1) := by decide +kernel
theorem dX1_canStand_64 : decode cX1_canStand 64 = .ok (.iload_n 3, 1) := by decide +kernel
theorem dX1_canStand_65 : decode cX1_canStand 65 = .ok (.bipush 44, 2) := by decide +kernel
theorem dX1_canStand_67 : decode cX1_canStand 67 = .ok (.if_icmp .eq 26, 3) := by decide +kernel
theorem dX1_canStand_70 : decode cX1_canStand 70 = .ok (.aload_n 0, 1) := by decide +kernel
theorem dX1_canStand_71 : decode cX1_canStand 71 = .ok (.iload_n 3, 1) := by decide +kernel
theorem dX1_canStand_72 : decode cX1_canStand 72 = .ok (.invokevirtual 27, 3) := by decide +kernel
theorem dX1_canStand_75 : decode cX1_canStand 75 = .ok (.ifCond .eq 22, 3) := by decide +kernel
theorem dX1_canStand_78 : decode cX1_canStand 78 = .ok (.iload_n 2, 1) := by decide +kernel
theorem dX1_canStand_79 : decode cX1_canStand 79 = .ok (.ifCond .le 18, 3) := by decide +kernel
theorem dX1_canStand_82 : decode cX1_canStand 82 = .ok (.aload_n 0, 1) := by decide +kernel
theorem dX1_canStand_83 : decode cX1_canStand 83 = .ok (.iload_n 2, 1) := by decide +kernel
theorem dX1_canStand_84 : decode cX1_canStand 84 = .ok (.iload_n 3, 1) := by decide +kernel
theorem dX1_canStand_85 : decode cX1_canStand 85 = .ok (.invokevirtual 31, 3) := by decide +kernel
theorem dX1_canStand_88 : decode cX1_canStand 88 = .ok (.bipush 100, 2) := by decide +kernel
theorem dX1_canStand_90 : decode cX1_canStand 90 = .ok (.if_icmp .gt 7, 3) := by decide +kernel
theorem dX1_canStand_93 : decode cX1_canStand 93 = .ok (.iconst 1, 1) := by decide +kernel
theorem dX1_canStand_94 : decode cX1_canStand 94 = .ok (.goto 4, 3) := by decide +kernel
theorem dX1_canStand_97 : decode cX1_canStand 97 = .ok (.iconst 0, 1) := by decide +kernel
theorem dX1_canStand_98 : decode cX1_canStand 98 = .ok (.ireturn, 1) := by decide +kernel
theorem dX1_dueBehind_0 : decode cX1_dueBehind 0 = .ok (.iload_n 1, 1) := by decide +kernel
theorem dX1_dueBehind_1 : decode cX1_dueBehind 1 = .ok (.tableswitch 33 0 2 #[27, 29, 31], 27) := by decide +kernel
theorem dX1_dueBehind_28 : decode cX1_dueBehind 28 = .ok (.iconst 1, 1) := by decide +kernel
theorem dX1_dueBehind_29 : decode cX1_dueBehind 29 = .ok (.ireturn, 1) := by decide +kernel
theorem dX1_dueBehind_30 : decode cX1_dueBehind 30 = .ok (.iconst 2, 1) := by decide +kernel
theorem dX1_dueBehind_31 : decode cX1_dueBehind 31 = .ok (.ireturn, 1) := by decide +kernel
theorem dX1_dueBehind_32 : decode cX1_dueBehind 32 = .ok (.iconst 3, 1) := by decide +kernel
theorem dX1_dueBehind_33 : decode cX1_dueBehind 33 = .ok (.ireturn, 1) := by decide +kernel
theorem dX1_dueBehind_34 : decode cX1_dueBehind 34 = .ok (.iload_n 2, 1) := by decide +kernel
theorem dX1_dueBehind_35 : decode cX1_dueBehind 35 = .ok (.bipush 44, 2) := by decide +kernel
theorem dX1_dueBehind_37 : decode cX1_dueBehind 37 = .ok (.if_icmp .ne 7, 3) := by decide +kernel
theorem dX1_dueBehind_40 : decode cX1_dueBehind 40 = .ok (.iconst 0, 1) := by decide +kernel
theorem dX1_dueBehind_41 : decode cX1_dueBehind 41 = .ok (.goto 4, 3) := by decide +kernel
theorem dX1_dueBehind_44 : decode cX1_dueBehind 44 = .ok (.iconst 3, 1) := by decide +kernel
theorem dX1_dueBehind_45 : decode cX1_dueBehind 45 = .ok (.ireturn, 1) := by decide +kernel
theorem dX1_isDigit_0 : decode cX1_isDigit 0 = .ok (.iload_n 1, 1) := by decide +kernel
theorem dX1_isDigit_1 : decode cX1_isDigit 1 = .ok (.bipush 48, 2) := by decide +kernel
theorem dX1_isDigit_3 : decode cX1_isDigit 3 = .ok (.if_icmp .lt 13, 3) := by decide +kernel
theorem dX1_isDigit_6 : decode cX1_isDigit 6 = .ok (.iload_n 1, 1) := by decide +kernel
theorem dX1_isDigit_7 : decode cX1_isDigit 7 = .ok (.bipush 57, 2) := by decide +kernel
theorem dX1_isDigit_9 : decode cX1_isDigit 9 = .ok (.if_icmp .gt 7, 3) := by decide +kernel
theorem dX1_isDigit_12 : decode cX1_isDigit 12 = .ok (.iconst 1, 1) := by decide +kernel
theorem dX1_isDigit_13 : decode cX1_isDigit 13 = .ok (.goto 4, 3) := by decide +kernel
theorem dX1_isDigit_16 : decode cX1_isDigit 16 = .ok (.iconst 0, 1) := by decide +kernel
theorem dX1_isDigit_17 : decode cX1_isDigit 17 = .ok (.ireturn, 1) := by decide +kernel
theorem dX1_shareWith_0 : decode cX1_shareWith 0 = .ok (.bipush 10, 2) := by decide +kernel
theorem dX1_shareWith_2 : decode cX1_shareWith 2 = .ok (.iload_n 1, 1) := by decide +kernel
theorem dX1_shareWith_3 : decode cX1_shareWith 3 = .ok (.imul, 1) := by decide +kernel
theorem dX1_shareWith_4 : decode cX1_shareWith 4 = .ok (.iload_n 2, 1) := by decide +kernel
theorem dX1_shareWith_5 : decode cX1_shareWith 5 = .ok (.iadd, 1) := by decide +kernel
theorem dX1_shareWith_6 : decode cX1_shareWith 6 = .ok (.bipush 48, 2) := by decide +kernel
theorem dX1_shareWith_8 : decode cX1_shareWith 8 = .ok (.isub, 1) := by decide +kernel
theorem dX1_shareWith_9 : decode cX1_shareWith 9 = .ok (.ireturn, 1) := by decide +kernel
theorem dX1_people_0 : decode cX1_people 0 = .ok (.iconst 1, 1) := by decide +kernel
theorem dX1_people_1 : decode cX1_people 1 = .ok (.istore_n 1, 1) := by decide +kernel
theorem dX1_people_2 : decode cX1_people 2 = .ok (.iconst 0, 1) := by decide +kernel
theorem dX1_people_3 : decode cX1_people 3 = .ok (.istore_n 2, 1) := by decide +kernel
theorem dX1_people_4 : decode cX1_people 4 = .ok (.iload_n 2, 1) := by decide +kernel
theorem dX1_people_5 : decode cX1_people 5 = .ok (.aload_n 0, 1) := by decide +kernel
theorem dX1_people_6 : decode cX1_people 6 = .ok (.getfield 15, 3) := by decide +kernel
theorem dX1_people_9 : decode cX1_people 9 = .ok (.if_icmp .ge 22, 3) := by decide +kernel
theorem dX1_people_12 : decode cX1_people 12 = .ok (.aload_n 0, 1) := by decide +kernel
theorem dX1_people_13 : decode cX1_people 13 = .ok (.iload_n 2, 1) := by decide +kernel
theorem dX1_people_14 : decode cX1_people 14 = .ok (.invokevirtual 19, 3) := by decide +kernel
theorem dX1_people_17 : decode cX1_people 17 = .ok (.bipush 44, 2) := by decide +kernel
theorem dX1_people_19 : decode cX1_people 19 = .ok (.if_icmp .ne 6, 3) := by decide +kernel
theorem dX1_people_22 : decode cX1_people 22 = .ok (.iinc 1 1, 3) := by decide +kernel
theorem dX1_people_25 : decode cX1_people 25 = .ok (.iinc 2 1, 3) := by decide +kernel
theorem dX1_people_28 : decode cX1_people 28 = .ok (.goto (-24), 3) := by decide +kernel
theorem dX1_people_31 : decode cX1_people 31 = .ok (.iload_n 1, 1) := by decide +kernel
theorem dX1_people_32 : decode cX1_people 32 = .ok (.ireturn, 1) := by decide +kernel
theorem dX1_admitPeopleTo_0 : decode cX1_admitPeopleTo 0 = .ok (.iconst 0, 1) := by decide +kernel
theorem dX1_admitPeopleTo_1 : decode cX1_admitPeopleTo 1 = .ok (.istore_n 2, 1) := by decide +kernel
theorem dX1_admitPeopleTo_2 : decode cX1_admitPeopleTo 2 = .ok (.iconst 0, 1) := by decide +kernel
theorem dX1_admitPeopleTo_3 : decode cX1_admitPeopleTo 3 = .ok (.istore_n 3, 1) := by decide +kernel
theorem dX1_admitPeopleTo_4 : decode cX1_admitPeopleTo 4 = .ok (.iconst 0, 1) := by decide +kernel
theorem dX1_admitPeopleTo_5 : decode cX1_admitPeopleTo 5 = .ok (.istore 4, 2) := by decide +kernel
theorem dX1_admitPeopleTo_7 : decode cX1_admitPeopleTo 7 = .ok (.iload 4, 2) := by decide +kernel
theorem dX1_admitPeopleTo_9 : decode cX1_admitPeopleTo 9 = .ok (.aload_n 0, 1) := by decide +kernel
theorem dX1_admitPeopleTo_10 : decode cX1_admitPeopleTo 10 = .ok (.getfield 15, 3) := by decide +kernel
theorem dX1_admitPeopleTo_13 : decode cX1_admitPeopleTo 13 = .ok (.if_icmp .gt 65, 3) := by decide +kernel
theorem dX1_admitPeopleTo_16 : decode cX1_admitPeopleTo 16 = .ok (.aload_n 0, 1) := by decide +kernel
theorem dX1_admitPeopleTo_17 : decode cX1_admitPeopleTo 17 = .ok (.iload 4, 2) := by decide +kernel
theorem dX1_admitPeopleTo_19 : decode cX1_admitPeopleTo 19 = .ok (.invokevirtual 19, 3) := by decide +kernel
theorem dX1_admitPeopleTo_22 : decode cX1_admitPeopleTo 22 = .ok (.istore 5, 2) := by decide +kernel
theorem dX1_admitPeopleTo_24 : decode cX1_admitPeopleTo 24 = .ok (.iload 5, 2) := by decide +kernel
theorem dX1_admitPeopleTo_26 : decode cX1_admitPeopleTo 26 = .ok (.bipush 44, 2) := by decide +kernel
theorem dX1_admitPeopleTo_28 : decode cX1_admitPeopleTo 28 = .ok (.if_icmp .ne 16, 3) := by decide +kernel
theorem dX1_admitPeopleTo_31 : decode cX1_admitPeopleTo 31 = .ok (.aload_n 1, 1) := by decide +kernel
theorem dX1_admitPeopleTo_32 : decode cX1_admitPeopleTo 32 = .ok (.iload_n 2, 1) := by decide +kernel
theorem dX1_admitPeopleTo_33 : decode cX1_admitPeopleTo 33 = .ok (.iload_n 3, 1) := by decide +kernel
theorem dX1_admitPeopleTo_34 : decode cX1_admitPeopleTo 34 = .ok (.invokevirtual 38, 3) := by decide +kernel
theorem dX1_admitPeopleTo_37 : decode cX1_admitPeopleTo 37 = .ok (.iconst 0, 1) := by decide +kernel
theorem dX1_admitPeopleTo_38 : decode cX1_admitPeopleTo 38 = .ok (.istore_n 2, 1) := by decide +kernel
theorem dX1_admitPeopleTo_39 : decode cX1_admitPeopleTo 39 = .ok (.iconst 0, 1) := by decide +kernel
theorem dX1_admitPeopleTo_40 : decode cX1_admitPeopleTo 40 = .ok (.istore_n 3, 1) := by decide +kernel
theorem dX1_admitPeopleTo_41 : decode cX1_admitPeopleTo 41 = .ok (.goto 31, 3) := by decide +kernel
theorem dX1_admitPeopleTo_44 : decode cX1_admitPeopleTo 44 = .ok (.iload_n 2, 1) := by decide +kernel
theorem dX1_admitPeopleTo_45 : decode cX1_admitPeopleTo 45 = .ok (.ifCond .ne 12, 3) := by decide +kernel
theorem dX1_admitPeopleTo_48 : decode cX1_admitPeopleTo 48 = .ok (.iload 5, 2) := by decide +kernel
theorem dX1_admitPeopleTo_50 : decode cX1_admitPeopleTo 50 = .ok (.bipush 48, 2) := by decide +kernel
theorem dX1_admitPeopleTo_52 : decode cX1_admitPeopleTo 52 = .ok (.isub, 1) := by decide +kernel
theorem dX1_admitPeopleTo_53 : decode cX1_admitPeopleTo 53 = .ok (.istore_n 2, 1) := by decide +kernel
theorem dX1_admitPeopleTo_54 : decode cX1_admitPeopleTo 54 = .ok (.goto 18, 3) := by decide +kernel
theorem dX1_admitPeopleTo_57 : decode cX1_admitPeopleTo 57 = .ok (.iload 5, 2) := by decide +kernel
theorem dX1_admitPeopleTo_59 : decode cX1_admitPeopleTo 59 = .ok (.bipush 102, 2) := by decide +kernel
theorem dX1_admitPeopleTo_61 : decode cX1_admitPeopleTo 61 = .ok (.if_icmp .eq 11, 3) := by decide +kernel
theorem dX1_admitPeopleTo_64 : decode cX1_admitPeopleTo 64 = .ok (.aload_n 0, 1) := by decide +kernel
theorem dX1_admitPeopleTo_65 : decode cX1_admitPeopleTo 65 = .ok (.iload_n 3, 1) := by decide +kernel
theorem dX1_admitPeopleTo_66 : decode cX1_admitPeopleTo 66 = .ok (.iload 5, 2) := by decide +kernel
theorem dX1_admitPeopleTo_68 : decode cX1_admitPeopleTo 68 = .ok (.invokevirtual 31, 3) := by decide +kernel
theorem dX1_admitPeopleTo_71 : decode cX1_admitPeopleTo 71 = .ok (.istore_n 3, 1) := by decide +kernel
theorem dX1_admitPeopleTo_72 : decode cX1_admitPeopleTo 72 = .ok (.iinc 4 1, 3) := by decide +kernel
theorem dX1_admitPeopleTo_75 : decode cX1_admitPeopleTo 75 = .ok (.goto (-68), 3) := by decide +kernel
theorem dX1_admitPeopleTo_78 : decode cX1_admitPeopleTo 78 = .ok (.return_, 1) := by decide +kernel
theorem dX2_init_0 : decode cX2_init 0 = .ok (.aload_n 0, 1) := by decide +kernel
theorem dX2_init_1 : decode cX2_init 1 = .ok (.invokespecial 1, 3) := by decide +kernel
theorem dX2_init_4 : decode cX2_init 4 = .ok (.return_, 1) := by decide +kernel
theorem dX2_copyFrom_0 : decode cX2_copyFrom 0 = .ok (.aload_n 0, 1) := by decide +kernel
theorem dX2_copyFrom_1 : decode cX2_copyFrom 1 = .ok (.aload_n 1, 1) := by decide +kernel
theorem dX2_copyFrom_2 : decode cX2_copyFrom 2 = .ok (.getfield 7, 3) := by decide +kernel
theorem dX2_copyFrom_5 : decode cX2_copyFrom 5 = .ok (.putfield 7, 3) := by decide +kernel
theorem dX2_copyFrom_8 : decode cX2_copyFrom 8 = .ok (.aload_n 0, 1) := by decide +kernel
theorem dX2_copyFrom_9 : decode cX2_copyFrom 9 = .ok (.aload_n 1, 1) := by decide +kernel
theorem dX2_copyFrom_10 : decode cX2_copyFrom 10 = .ok (.getfield 13, 3) := by decide +kernel
theorem dX2_copyFrom_13 : decode cX2_copyFrom 13 = .ok (.putfield 13, 3) := by decide +kernel
theorem dX2_copyFrom_16 : decode cX2_copyFrom 16 = .ok (.aload_n 0, 1) := by decide +kernel
theorem dX2_copyFrom_17 : decode cX2_copyFrom 17 = .ok (.aload_n 1, 1) := by decide +kernel
theorem dX2_copyFrom_18 : decode cX2_copyFrom 18 = .ok (.getfield 16, 3) := by decide +kernel
theorem dX2_copyFrom_21 : decode cX2_copyFrom 21 = .ok (.putfield 16, 3) := by decide +kernel
theorem dX2_copyFrom_24 : decode cX2_copyFrom 24 = .ok (.aload_n 0, 1) := by decide +kernel
theorem dX2_copyFrom_25 : decode cX2_copyFrom 25 = .ok (.aload_n 1, 1) := by decide +kernel
theorem dX2_copyFrom_26 : decode cX2_copyFrom 26 = .ok (.getfield 19, 3) := by decide +kernel
theorem dX2_copyFrom_29 : decode cX2_copyFrom 29 = .ok (.putfield 19, 3) := by decide +kernel
theorem dX2_copyFrom_32 : decode cX2_copyFrom 32 = .ok (.aload_n 0, 1) := by decide +kernel
theorem dX2_copyFrom_33 : decode cX2_copyFrom 33 = .ok (.aload_n 1, 1) := by decide +kernel
theorem dX2_copyFrom_34 : decode cX2_copyFrom 34 = .ok (.getfield 22, 3) := by decide +kernel
theorem dX2_copyFrom_37 : decode cX2_copyFrom 37 = .ok (.putfield 22, 3) := by decide +kernel
theorem dX2_copyFrom_40 : decode cX2_copyFrom 40 = .ok (.aload_n 0, 1) := by decide +kernel
theorem dX2_copyFrom_41 : decode cX2_copyFrom 41 = .ok (.aload_n 1, 1) := by decide +kernel
theorem dX2_copyFrom_42 : decode cX2_copyFrom 42 = .ok (.getfield 25, 3) := by decide +kernel
theorem dX2_copyFrom_45 : decode cX2_copyFrom 45 = .ok (.putfield 25, 3) := by decide +kernel
theorem dX2_copyFrom_48 : decode cX2_copyFrom 48 = .ok (.return_, 1) := by decide +kernel
theorem dX2_begin_0 : decode cX2_begin 0 = .ok (.aload_n 0, 1) := by decide +kernel
theorem dX2_begin_1 : decode cX2_begin 1 = .ok (.iload_n 1, 1) := by decide +kernel
theorem dX2_begin_2 : decode cX2_begin 2 = .ok (.putfield 7, 3) := by decide +kernel
theorem dX2_begin_5 : decode cX2_begin 5 = .ok (.aload_n 0, 1) := by decide +kernel
theorem dX2_begin_6 : decode cX2_begin 6 = .ok (.iload_n 2, 1) := by decide +kernel
theorem dX2_begin_7 : decode cX2_begin 7 = .ok (.putfield 13, 3) := by decide +kernel
theorem dX2_begin_10 : decode cX2_begin 10 = .ok (.aload_n 0, 1) := by decide +kernel
theorem dX2_begin_11 : decode cX2_begin 11 = .ok (.iconst 0, 1) := by decide +kernel
theorem dX2_begin_12 : decode cX2_begin 12 = .ok (.putfield 16, 3) := by decide +kernel
theorem dX2_begin_15 : decode cX2_begin 15 = .ok (.aload_n 0, 1) := by decide +kernel
theorem dX2_begin_16 : decode cX2_begin 16 = .ok (.iconst 0, 1) := by decide +kernel
theorem dX2_begin_17 : decode cX2_begin 17 = .ok (.putfield 19, 3) := by decide +kernel
theorem dX2_begin_20 : decode cX2_begin 20 = .ok (.aload_n 0, 1) := by decide +kernel
theorem dX2_begin_21 : decode cX2_begin 21 = .ok (.iconst 0, 1) := by decide +kernel
theorem dX2_begin_22 : decode cX2_begin 22 = .ok (.putfield 22, 3) := by decide +kernel
theorem dX2_begin_25 : decode cX2_begin 25 = .ok (.aload_n 0, 1) := by decide +kernel
theorem dX2_begin_26 : decode cX2_begin 26 = .ok (.iconst 0, 1) := by decide +kernel
theorem dX2_begin_27 : decode cX2_begin 27 = .ok (.putfield 25, 3) := by decide +kernel
theorem dX2_begin_30 : decode cX2_begin 30 = .ok (.return_, 1) := by decide +kernel
theorem dX3_init_0 : decode cX3_init 0 = .ok (.aload_n 0, 1) := by decide +kernel
theorem dX3_init_1 : decode cX3_init 1 = .ok (.invokespecial 3, 3) := by decide +kernel
theorem dX3_init_4 : decode cX3_init 4 = .ok (.aload_n 0, 1) := by decide +kernel
theorem dX3_init_5 : decode cX3_init 5 = .ok (.getstatic 9, 3) := by decide +kernel
theorem dX3_init_8 : decode cX3_init 8 = .ok (.invokevirtual 13, 3) := by decide +kernel
theorem dX3_init_11 : decode cX3_init 11 = .ok (.checkcast 14, 3) := by decide +kernel
theorem dX3_init_14 : decode cX3_init 14 = .ok (.putfield 18, 3) := by decide +kernel
theorem dX3_init_17 : decode cX3_init 17 = .ok (.aload_n 0, 1) := by decide +kernel
theorem dX3_init_18 : decode cX3_init 18 = .ok (.bipush 8, 2) := by decide +kernel
theorem dX3_init_20 : decode cX3_init 20 = .ok (.anewarray 23, 3) := by decide +kernel
theorem dX3_init_23 : decode cX3_init 23 = .ok (.putfield 25, 3) := by decide +kernel
theorem dX3_init_26 : decode cX3_init 26 = .ok (.aload_n 0, 1) := by decide +kernel
theorem dX3_init_27 : decode cX3_init 27 = .ok (.iconst 0, 1) := by decide +kernel
theorem dX3_init_28 : decode cX3_init 28 = .ok (.putfield 29, 3) := by decide +kernel
theorem dX3_init_31 : decode cX3_init 31 = .ok (.aload_n 0, 1) := by decide +kernel
theorem dX3_init_32 : decode cX3_init 32 = .ok (.bipush 50, 2) := by decide +kernel
theorem dX3_init_34 : decode cX3_init 34 = .ok (.putfield 33, 3) := by decide +kernel
theorem dX3_init_37 : decode cX3_init 37 = .ok (.aload_n 0, 1) := by decide +kernel
theorem dX3_init_38 : decode cX3_init 38 = .ok (.bipush (-6), 2) := by decide +kernel
theorem dX3_init_40 : decode cX3_init 40 = .ok (.putfield 36, 3) := by decide +kernel
theorem dX3_init_43 : decode cX3_init 43 = .ok (.aload_n 0, 1) := by decide +kernel
theorem dX3_init_44 : decode cX3_init 44 = .ok (.iconst 0, 1) := by decide +kernel
theorem dX3_init_45 : decode cX3_init 45 = .ok (.putfield 39, 3) := by decide +kernel
theorem dX3_init_48 : decode cX3_init 48 = .ok (.aload_n 0, 1) := by decide +kernel
theorem dX3_init_49 : decode cX3_init 49 = .ok (.sipush 1000, 3) := by decide +kernel
theorem dX3_init_52 : decode cX3_init 52 = .ok (.putfield 42, 3) := by decide +kernel
theorem dX3_init_55 : decode cX3_init 55 = .ok (.aload_n 0, 1) := by decide +kernel
theorem dX3_init_56 : decode cX3_init 56 = .ok (.iconst 0, 1) := by decide +kernel
theorem dX3_init_57 : decode cX3_init 57 = .ok (.putfield 45, 3) := by decide +kernel
theorem dX3_init_60 : decode cX3_init 60 = .ok (.aload_n 0, 1) := by decide +kernel
theorem dX3_init_61 : decode cX3_init 61 = .ok (.iconst 0, 1) := by decide +kernel
theorem dX3_init_62 : decode cX3_init 62 = .ok (.putfield 48, 3) := by decide +kernel
theorem dX3_init_65 : decode cX3_init 65 = .ok (.aload_n 0, 1) := by decide +kernel
theorem dX3_init_66 : decode cX3_init 66 = .ok (.iconst 0, 1) := by decide +kernel
theorem dX3_init_67 : decode cX3_init 67 = .ok (.putfield 51, 3) := by decide +kernel
theorem dX3_init_70 : decode cX3_init 70 = .ok (.aload_n 0, 1) := by decide +kernel
theorem dX3_init_71 : decode cX3_init 71 = .ok (.iconst 0, 1) := by decide +kernel
theorem dX3_init_72 : decode cX3_init 72 = .ok (.putfield 54, 3) := by decide +kernel
theorem dX3_init_75 : decode cX3_init 75 = .ok (.aload_n 0, 1) := by decide +kernel
theorem dX3_init_76 : decode cX3_init 76 = .ok (.iconst 0, 1) := by decide +kernel
theorem dX3_init_77 : decode cX3_init 77 = .ok (.putfield 57, 3) := by decide +kernel
theorem dX3_init_80 : decode cX3_init 80 = .ok (.aload_n 0, 1) := by decide +kernel
theorem dX3_init_81 : decode cX3_init 81 = .ok (.iconst 0, 1) := by decide +kernel
theorem dX3_init_82 : decode cX3_init 82 = .ok (.putfield 60, 3) := by decide +kernel
theorem dX3_init_85 : decode cX3_init 85 = .ok (.iconst 0, 1) := by decide +kernel
theorem dX3_init_86 : decode cX3_init 86 = .ok (.istore_n 1, 1) := by decide +kernel
theorem dX3_init_87 : decode cX3_init 87 = .ok (.iload_n 1, 1) := by decide +kernel
theorem dX3_init_88 : decode cX3_init 88 = .ok (.bipush 8, 2) := by decide +kernel
theorem dX3_init_90 : decode cX3_init 90 = .ok (.if_icmp .ge 22, 3) := by decide +kernel
theorem dX3_init_93 : decode cX3_init 93 = .ok (.aload_n 0, 1) := by decide +kernel
theorem dX3_init_94 : decode cX3_init 94 = .ok (.getfield 25, 3) := by decide +kernel
theorem dX3_init_97 : decode cX3_init 97 = .ok (.iload_n 1, 1) := by decide +kernel
theorem dX3_init_98 : decode cX3_init 98 = .ok (.new 23, 3) := by decide +kernel
theorem dX3_init_101 : decode cX3_init 101 = .ok (.dup, 1) := by decide +kernel
theorem dX3_init_102 : decode cX3_init 102 = .ok (.invokespecial 63, 3) := by decide +kernel
theorem dX3_init_105 : decode cX3_init 105 = .ok (.aastore, 1) := by decide +kernel
theorem dX3_init_106 : decode cX3_init 106 = .ok (.iinc 1 1, 3) := by decide +kernel
theorem dX3_init_109 : decode cX3_init 109 = .ok (.goto (-22), 3) := by decide +kernel
theorem dX3_init_112 : decode cX3_init 112 = .ok (.return_, 1) := by decide +kernel
theorem dX3_copyFrom_0 : decode cX3_copyFrom 0 = .ok (.aload_n 1, 1) := by decide +kernel
theorem dX3_copyFrom_1 : decode cX3_copyFrom 1 = .ok (.getfield 18, 3) := by decide +kernel
theorem dX3_copyFrom_4 : decode cX3_copyFrom 4 = .ok (.iconst 0, 1) := by decide +kernel
theorem dX3_copyFrom_5 : decode cX3_copyFrom 5 = .ok (.aload_n 0, 1) := by decide +kernel
theorem dX3_copyFrom_6 : decode cX3_copyFrom 6 = .ok (.getfield 18, 3) := by decide +kernel
theorem dX3_copyFrom_9 : decode cX3_copyFrom 9 = .ok (.iconst 0, 1) := by decide +kernel
theorem dX3_copyFrom_10 : decode cX3_copyFrom 10 = .ok (.getstatic 9, 3) := by decide +kernel
theorem dX3_copyFrom_13 : decode cX3_copyFrom 13 = .ok (.arraylength, 1) := by decide +kernel
theorem dX3_copyFrom_14 : decode cX3_copyFrom 14 = .ok (.invokestatic 64, 3) := by decide +kernel
theorem dX3_copyFrom_17 : decode cX3_copyFrom 17 = .ok (.aload_n 0, 1) := by decide +kernel
theorem dX3_copyFrom_18 : decode cX3_copyFrom 18 = .ok (.aload_n 1, 1) := by decide +kernel
theorem dX3_copyFrom_19 : decode cX3_copyFrom 19 = .ok (.getfield 29, 3) := by decide +kernel
theorem dX3_copyFrom_22 : decode cX3_copyFrom 22 = .ok (.putfield 29, 3) := by decide +kernel
theorem dX3_copyFrom_25 : decode cX3_copyFrom 25 = .ok (.iconst 0, 1) := by decide +kernel
theorem dX3_copyFrom_26 : decode cX3_copyFrom 26 = .ok (.istore_n 2, 1) := by decide +kernel
theorem dX3_copyFrom_27 : decode cX3_copyFrom 27 = .ok (.iload_n 2, 1) := by decide +kernel
theorem dX3_copyFrom_28 : decode cX3_copyFrom 28 = .ok (.bipush 8, 2) := by decide +kernel
theorem dX3_copyFrom_30 : decode cX3_copyFrom 30 = .ok (.if_icmp .ge 37, 3) := by decide +kernel
theorem dX3_copyFrom_33 : decode cX3_copyFrom 33 = .ok (.aload_n 0, 1) := by decide +kernel
theorem dX3_copyFrom_34 : decode cX3_copyFrom 34 = .ok (.iload_n 2, 1) := by decide +kernel
theorem dX3_copyFrom_35 : decode cX3_copyFrom 35 = .ok (.invokevirtual 70, 3) := by decide +kernel
theorem dX3_copyFrom_38 : decode cX3_copyFrom 38 = .ok (.astore_n 3, 1) := by decide +kernel
theorem dX3_copyFrom_39 : decode cX3_copyFrom 39 = .ok (.aload_n 1, 1) := by decide +kernel
theorem dX3_copyFrom_40 : decode cX3_copyFrom 40 = .ok (.iload_n 2, 1) := by decide +kernel
theorem dX3_copyFrom_41 : decode cX3_copyFrom 41 = .ok (.invokevirtual 70, 3) := by decide +kernel
theorem dX3_copyFrom_44 : decode cX3_copyFrom 44 = .ok (.astore 4, 2) := by decide +kernel
theorem dX3_copyFrom_46 : decode cX3_copyFrom 46 = .ok (.aload_n 3, 1) := by decide +kernel
theorem dX3_copyFrom_47 : decode cX3_copyFrom 47 = .ok (.ifnull 14, 3) := by decide +kernel
theorem dX3_copyFrom_50 : decode cX3_copyFrom 50 = .ok (.aload 4, 2) := by decide +kernel
theorem dX3_copyFrom_52 : decode cX3_copyFrom 52 = .ok (.ifnull 9, 3) := by decide +kernel
theorem dX3_copyFrom_55 : decode cX3_copyFrom 55 = .ok (.aload_n 3, 1) := by decide +kernel
theorem dX3_copyFrom_56 : decode cX3_copyFrom 56 = .ok (.aload 4, 2) := by decide +kernel
theorem dX3_copyFrom_58 : decode cX3_copyFrom 58 = .ok (.invokevirtual 74, 3) := by decide +kernel
theorem dX3_copyFrom_61 : decode cX3_copyFrom 61 = .ok (.iinc 2 1, 3) := by decide +kernel
theorem dX3_copyFrom_64 : decode cX3_copyFrom 64 = .ok (.goto (-37), 3) := by decide +kernel
theorem dX3_copyFrom_67 : decode cX3_copyFrom 67 = .ok (.aload_n 0, 1) := by decide +kernel
theorem dX3_copyFrom_68 : decode cX3_copyFrom 68 = .ok (.aload_n 1, 1) := by decide +kernel
theorem dX3_copyFrom_69 : decode cX3_copyFrom 69 = .ok (.getfield 33, 3) := by decide +kernel
theorem dX3_copyFrom_72 : decode cX3_copyFrom 72 = .ok (.putfield 33, 3) := by decide +kernel
theorem dX3_copyFrom_75 : decode cX3_copyFrom 75 = .ok (.aload_n 0, 1) := by decide +kernel
theorem dX3_copyFrom_76 : decode cX3_copyFrom 76 = .ok (.aload_n 1, 1) := by decide +kernel
theorem dX3_copyFrom_77 : decode cX3_copyFrom 77 = .ok (.getfield 36, 3) := by decide +kernel
theorem dX3_copyFrom_80 : decode cX3_copyFrom 80 = .ok (.putfield 36, 3) := by decide +kernel
theorem dX3_copyFrom_83 : decode cX3_copyFrom 83 = .ok (.aload_n 0, 1) := by decide +kernel
theorem dX3_copyFrom_84 : decode cX3_copyFrom 84 = .ok (.aload_n 1, 1) := by decide +kernel
theorem dX3_copyFrom_85 : decode cX3_copyFrom 85 = .ok (.getfield 39, 3) := by decide +kernel
theorem dX3_copyFrom_88 : decode cX3_copyFrom 88 = .ok (.putfield 39, 3) := by decide +kernel
theorem dX3_copyFrom_91 : decode cX3_copyFrom 91 = .ok (.aload_n 0, 1) := by decide +kernel
theorem dX3_copyFrom_92 : decode cX3_copyFrom 92 = .ok (.aload_n 1, 1) := by decide +kernel
theorem dX3_copyFrom_93 : decode cX3_copyFrom 93 = .ok (.getfield 42, 3) := by decide +kernel
theorem dX3_copyFrom_96 : decode cX3_copyFrom 96 = .ok (.putfield 42, 3) := by decide +kernel
theorem dX3_copyFrom_99 : decode cX3_copyFrom 99 = .ok (.aload_n 0, 1) := by decide +kernel
theorem dX3_copyFrom_100 : decode cX3_copyFrom 100 = .ok (.aload_n 1, 1) := by decide +kernel
theorem dX3_copyFrom_101 : decode cX3_copyFrom 101 = .ok (.getfield 45, 3) := by decide +kernel
theorem dX3_copyFrom_104 : decode cX3_copyFrom 104 = .ok (.putfield 45, 3) := by decide +kernel
theorem dX3_copyFrom_107 : decode cX3_copyFrom 107 = .ok (.aload_n 0, 1) := by decide +kernel
theorem dX3_copyFrom_108 : decode cX3_copyFrom 108 = .ok (.aload_n 1, 1) := by decide +kernel
theorem dX3_copyFrom_109 : decode cX3_copyFrom 109 = .ok (.getfield 48, 3) := by decide +kernel
theorem dX3_copyFrom_112 : decode cX3_copyFrom 112 = .ok (.putfield 48, 3) := by decide +kernel
theorem dX3_copyFrom_115 : decode cX3_copyFrom 115 = .ok (.aload_n 0, 1) := by decide +kernel
theorem dX3_copyFrom_116 : decode cX3_copyFrom 116 = .ok (.aload_n 1, 1) := by decide +kernel
theorem dX3_copyFrom_117 : decode cX3_copyFrom 117 = .ok (.getfield 51, 3) := by decide +kernel
theorem dX3_copyFrom_120 : decode cX3_copyFrom 120 = .ok (.putfield 51, 3) := by decide +kernel
theorem dX3_copyFrom_123 : decode cX3_copyFrom 123 = .ok (.aload_n 0, 1) := by decide +kernel
theorem dX3_copyFrom_124 : decode cX3_copyFrom 124 = .ok (.aload_n 1, 1) := by decide +kernel
theorem dX3_copyFrom_125 : decode cX3_copyFrom 125 = .ok (.getfield 54, 3) := by decide +kernel
theorem dX3_copyFrom_128 : decode cX3_copyFrom 128 = .ok (.putfield 54, 3) := by decide +kernel
theorem dX3_copyFrom_131 : decode cX3_copyFrom 131 = .ok (.aload_n 0, 1) := by decide +kernel
theorem dX3_copyFrom_132 : decode cX3_copyFrom 132 = .ok (.aload_n 1, 1) := by decide +kernel
theorem dX3_copyFrom_133 : decode cX3_copyFrom 133 = .ok (.getfield 57, 3) := by decide +kernel
theorem dX3_copyFrom_136 : decode cX3_copyFrom 136 = .ok (.putfield 57, 3) := by decide +kernel
theorem dX3_copyFrom_139 : decode cX3_copyFrom 139 = .ok (.aload_n 0, 1) := by decide +kernel
theorem dX3_copyFrom_140 : decode cX3_copyFrom 140 = .ok (.aload_n 1, 1) := by decide +kernel
theorem dX3_copyFrom_141 : decode cX3_copyFrom 141 = .ok (.getfield 60, 3) := by decide +kernel
theorem dX3_copyFrom_144 : decode cX3_copyFrom 144 = .ok (.putfield 60, 3) := by decide +kernel
theorem dX3_copyFrom_147 : decode cX3_copyFrom 147 = .ok (.return_, 1) := by decide +kernel
theorem dX3_at_0 : decode cX3_at 0 = .ok (.iload_n 1, 1) := by decide +kernel
theorem dX3_at_1 : decode cX3_at 1 = .ok (.ifCond .lt 26, 3) := by decide +kernel
theorem dX3_at_4 : decode cX3_at 4 = .ok (.iload_n 1, 1) := by decide +kernel
theorem dX3_at_5 : decode cX3_at 5 = .ok (.aload_n 0, 1) := by decide +kernel
theorem dX3_at_6 : decode cX3_at 6 = .ok (.getfield 29, 3) := by decide +kernel
theorem dX3_at_9 : decode cX3_at 9 = .ok (.if_icmp .ge 18, 3) := by decide +kernel
theorem dX3_at_12 : decode cX3_at 12 = .ok (.iload_n 1, 1) := by decide +kernel
theorem dX3_at_13 : decode cX3_at 13 = .ok (.bipush 8, 2) := by decide +kernel
theorem dX3_at_15 : decode cX3_at 15 = .ok (.if_icmp .ge 12, 3) := by decide +kernel
theorem dX3_at_18 : decode cX3_at 18 = .ok (.aload_n 0, 1) := by decide +kernel
theorem dX3_at_19 : decode cX3_at 19 = .ok (.getfield 25, 3) := by decide +kernel
theorem dX3_at_22 : decode cX3_at 22 = .ok (.iload_n 1, 1) := by decide +kernel
theorem dX3_at_23 : decode cX3_at 23 = .ok (.aaload, 1) := by decide +kernel
theorem dX3_at_24 : decode cX3_at 24 = .ok (.goto 4, 3) := by decide +kernel
theorem dX3_at_27 : decode cX3_at 27 = .ok (.aconst_null, 1) := by decide +kernel
theorem dX3_at_28 : decode cX3_at 28 = .ok (.areturn, 1) := by decide +kernel
theorem dX3_behind_0 : decode cX3_behind 0 = .ok (.iload_n 1, 1) := by decide +kernel
theorem dX3_behind_1 : decode cX3_behind 1 = .ok (.iconst 1, 1) := by decide +kernel
theorem dX3_behind_2 : decode cX3_behind 2 = .ok (.iadd, 1) := by decide +kernel
theorem dX3_behind_3 : decode cX3_behind 3 = .ok (.aload_n 0, 1) := by decide +kernel
theorem dX3_behind_4 : decode cX3_behind 4 = .ok (.getfield 29, 3) := by decide +kernel
theorem dX3_behind_7 : decode cX3_behind 7 = .ok (.if_icmp .ge 9, 3) := by decide +kernel
theorem dX3_behind_10 : decode cX3_behind 10 = .ok (.iload_n 1, 1) := by decide +kernel
theorem dX3_behind_11 : decode cX3_behind 11 = .ok (.iconst 1, 1) := by decide +kernel
theorem dX3_behind_12 : decode cX3_behind 12 = .ok (.iadd, 1) := by decide +kernel
theorem dX3_behind_13 : decode cX3_behind 13 = .ok (.goto 4, 3) := by decide +kernel
theorem dX3_behind_16 : decode cX3_behind 16 = .ok (.iconst 0, 1) := by decide +kernel
theorem dX3_behind_17 : decode cX3_behind 17 = .ok (.ireturn, 1) := by decide +kernel
theorem dX3_isBarred_0 : decode cX3_isBarred 0 = .ok (.aload_n 1, 1) := by decide +kernel
theorem dX3_isBarred_1 : decode cX3_isBarred 1 = .ok (.getfield 78, 3) := by decide +kernel
theorem dX3_isBarred_4 : decode cX3_isBarred 4 = .ok (.aload_n 0, 1) := by decide +kernel
theorem dX3_isBarred_5 : decode cX3_isBarred 5 = .ok (.getfield 18, 3) := by decide +kernel
theorem dX3_isBarred_8 : decode cX3_isBarred 8 = .ok (.iconst 4, 1) := by decide +kernel
theorem dX3_isBarred_9 : decode cX3_isBarred 9 = .ok (.iaload, 1) := by decide +kernel
theorem dX3_isBarred_10 : decode cX3_isBarred 10 = .ok (.if_icmp .lt 7, 3) := by decide +kernel
theorem dX3_isBarred_13 : decode cX3_isBarred 13 = .ok (.iconst 1, 1) := by decide +kernel
theorem dX3_isBarred_14 : decode cX3_isBarred 14 = .ok (.goto 4, 3) := by decide +kernel
theorem dX3_isBarred_17 : decode cX3_isBarred 17 = .ok (.iconst 0, 1) := by decide +kernel
theorem dX3_isBarred_18 : decode cX3_isBarred 18 = .ok (.ireturn, 1) := by decide +kernel
theorem dX3_score_0 : decode cX3_score 0 = .ok (.aload_n 0, 1) := by decide +kernel
theorem dX3_score_1 : decode cX3_score 1 = .ok (.getfield 33, 3) := by decide +kernel
theorem dX3_score_4 : decode cX3_score 4 = .ok (.iconst 5, 1) := by decide +kernel
theorem dX3_score_5 : decode cX3_score 5 = .ok (.aload_n 1, 1) := by decide +kernel
theorem dX3_score_6 : decode cX3_score 6 = .ok (.getfield 79, 3) := by decide +kernel
theorem dX3_score_9 : decode cX3_score 9 = .ok (.imul, 1) := by decide +kernel
theorem dX3_score_10 : decode cX3_score 10 = .ok (.iadd, 1) := by decide +kernel
theorem dX3_score_11 : decode cX3_score 11 = .ok (.bipush 10, 2) := by decide +kernel
theorem dX3_score_13 : decode cX3_score 13 = .ok (.aload_n 1, 1) := by decide +kernel
theorem dX3_score_14 : decode cX3_score 14 = .ok (.getfield 78, 3) := by decide +kernel
theorem dX3_score_17 : decode cX3_score 17 = .ok (.imul, 1) := by decide +kernel
theorem dX3_score_18 : decode cX3_score 18 = .ok (.isub, 1) := by decide +kernel
theorem dX3_score_19 : decode cX3_score 19 = .ok (.ireturn, 1) := by decide +kernel
theorem dX3_barredPeople_0 : decode cX3_barredPeople 0 = .ok (.iconst 0, 1) := by decide +kernel
theorem dX3_barredPeople_1 : decode cX3_barredPeople 1 = .ok (.istore_n 1, 1) := by decide +kernel
theorem dX3_barredPeople_2 : decode cX3_barredPeople 2 = .ok (.iconst 0, 1) := by decide +kernel
theorem dX3_barredPeople_3 : decode cX3_barredPeople 3 = .ok (.istore_n 2, 1) := by decide +kernel
theorem dX3_barredPeople_4 : decode cX3_barredPeople 4 = .ok (.iload_n 2, 1) := by decide +kernel
theorem dX3_barredPeople_5 : decode cX3_barredPeople 5 = .ok (.aload_n 0, 1) := by decide +kernel
theorem dX3_barredPeople_6 : decode cX3_barredPeople 6 = .ok (.getfield 29, 3) := by decide +kernel
theorem dX3_barredPeople_9 : decode cX3_barredPeople 9 = .ok (.if_icmp .ge 30, 3) := by decide +kernel
theorem dX3_barredPeople_12 : decode cX3_barredPeople 12 = .ok (.aload_n 0, 1) := by decide +kernel
theorem dX3_barredPeople_13 : decode cX3_barredPeople 13 = .ok (.iload_n 2, 1) := by decide +kernel
theorem dX3_barredPeople_14 : decode cX3_barredPeople 14 = .ok (.invokevirtual 70, 3) := by decide +kernel
theorem dX3_barredPeople_17 : decode cX3_barredPeople 17 = .ok (.astore_n 3, 1) := by decide +kernel
theorem dX3_barredPeople_18 : decode cX3_barredPeople 18 = .ok (.aload_n 3, 1) := by decide +kernel
theorem dX3_barredPeople_19 : decode cX3_barredPeople 19 = .ok (.ifnull 14, 3) := by decide +kernel
theorem dX3_barredPeople_22 : decode cX3_barredPeople 22 = .ok (.aload_n 0, 1) := by decide +kernel
theorem dX3_barredPeople_23 : decode cX3_barredPeople 23 = .ok (.aload_n 3, 1) := by decide +kernel
theorem dX3_barredPeople_24 : decode cX3_barredPeople 24 = .ok (.invokevirtual 82, 3) := by decide +kernel
theorem dX3_barredPeople_27 : decode cX3_barredPeople 27 = .ok (.ifCond .eq 6, 3) := by decide +kernel
theorem dX3_barredPeople_30 : decode cX3_barredPeople 30 = .ok (.iinc 1 1, 3) := by decide +kernel
theorem dX3_barredPeople_33 : decode cX3_barredPeople 33 = .ok (.iinc 2 1, 3) := by decide +kernel
theorem dX3_barredPeople_36 : decode cX3_barredPeople 36 = .ok (.goto (-32), 3) := by decide +kernel
theorem dX3_barredPeople_39 : decode cX3_barredPeople 39 = .ok (.iload_n 1, 1) := by decide +kernel
theorem dX3_barredPeople_40 : decode cX3_barredPeople 40 = .ok (.ireturn, 1) := by decide +kernel
theorem dX3_allPurses_0 : decode cX3_allPurses 0 = .ok (.iconst 0, 1) := by decide +kernel
theorem dX3_allPurses_1 : decode cX3_allPurses 1 = .ok (.istore_n 1, 1) := by decide +kernel
theorem dX3_allPurses_2 : decode cX3_allPurses 2 = .ok (.iconst 0, 1) := by decide +kernel
theorem dX3_allPurses_3 : decode cX3_allPurses 3 = .ok (.istore_n 2, 1) := by decide +kernel
theorem dX3_allPurses_4 : decode cX3_allPurses 4 = .ok (.iload_n 2, 1) := by decide +kernel
theorem dX3_allPurses_5 : decode cX3_allPurses 5 = .ok (.aload_n 0, 1) := by decide +kernel
theorem dX3_allPurses_6 : decode cX3_allPurses 6 = .ok (.getfield 29, 3) := by decide +kernel
theorem dX3_allPurses_9 : decode cX3_allPurses 9 = .ok (.if_icmp .ge 26, 3) := by decide +kernel
theorem dX3_allPurses_12 : decode cX3_allPurses 12 = .ok (.aload_n 0, 1) := by decide +kernel
theorem dX3_allPurses_13 : decode cX3_allPurses 13 = .ok (.iload_n 2, 1) := by decide +kernel
theorem dX3_allPurses_14 : decode cX3_allPurses 14 = .ok (.invokevirtual 70, 3) := by decide +kernel
theorem dX3_allPurses_17 : decode cX3_allPurses 17 = .ok (.astore_n 3, 1) := by decide +kernel
theorem dX3_allPurses_18 : decode cX3_allPurses 18 = .ok (.aload_n 3, 1) := by decide +kernel
theorem dX3_allPurses_19 : decode cX3_allPurses 19 = .ok (.ifnull 10, 3) := by decide +kernel
theorem dX3_allPurses_22 : decode cX3_allPurses 22 = .ok (.iload_n 1, 1) := by decide +kernel
theorem dX3_allPurses_23 : decode cX3_allPurses 23 = .ok (.aload_n 3, 1) := by decide +kernel
theorem dX3_allPurses_24 : decode cX3_allPurses 24 = .ok (.getfield 86, 3) := by decide +kernel
theorem dX3_allPurses_27 : decode cX3_allPurses 27 = .ok (.iadd, 1) := by decide +kernel
theorem dX3_allPurses_28 : decode cX3_allPurses 28 = .ok (.istore_n 1, 1) := by decide +kernel
theorem dX3_allPurses_29 : decode cX3_allPurses 29 = .ok (.iinc 2 1, 3) := by decide +kernel
theorem dX3_allPurses_32 : decode cX3_allPurses 32 = .ok (.goto (-28), 3) := by decide +kernel
theorem dX3_allPurses_35 : decode cX3_allPurses 35 = .ok (.iload_n 1, 1) := by decide +kernel
theorem dX3_allPurses_36 : decode cX3_allPurses 36 = .ok (.ireturn, 1) := by decide +kernel
theorem dX3_admit_0 : decode cX3_admit 0 = .ok (.aload_n 0, 1) := by decide +kernel
theorem dX3_admit_1 : decode cX3_admit 1 = .ok (.getfield 29, 3) := by decide +kernel
theorem dX3_admit_4 : decode cX3_admit 4 = .ok (.bipush 8, 2) := by decide +kernel
theorem dX3_admit_6 : decode cX3_admit 6 = .ok (.if_icmp .lt 4, 3) := by decide +kernel
theorem dX3_admit_9 : decode cX3_admit 9 = .ok (.return_, 1) := by decide +kernel
theorem dX3_admit_10 : decode cX3_admit 10 = .ok (.aload_n 0, 1) := by decide +kernel
theorem dX3_admit_11 : decode cX3_admit 11 = .ok (.dup, 1) := by decide +kernel
theorem dX3_admit_12 : decode cX3_admit 12 = .ok (.getfield 29, 3) := by decide +kernel
theorem dX3_admit_15 : decode cX3_admit 15 = .ok (.iconst 1, 1) := by decide +kernel
theorem dX3_admit_16 : decode cX3_admit 16 = .ok (.iadd, 1) := by decide +kernel
theorem dX3_admit_17 : decode cX3_admit 17 = .ok (.putfield 29, 3) := by decide +kernel
theorem dX3_admit_20 : decode cX3_admit 20 = .ok (.aload_n 0, 1) := by decide +kernel
theorem dX3_admit_21 : decode cX3_admit 21 = .ok (.aload_n 0, 1) := by decide +kernel
theorem dX3_admit_22 : decode cX3_admit 22 = .ok (.getfield 29, 3) := by decide +kernel
theorem dX3_admit_25 : decode cX3_admit 25 = .ok (.iconst 1, 1) := by decide +kernel
theorem dX3_admit_26 : decode cX3_admit 26 = .ok (.isub, 1) := by decide +kernel
theorem dX3_admit_27 : decode cX3_admit 27 = .ok (.invokevirtual 70, 3) := by decide +kernel
theorem dX3_admit_30 : decode cX3_admit 30 = .ok (.astore_n 3, 1) := by decide +kernel
theorem dX3_admit_31 : decode cX3_admit 31 = .ok (.aload_n 3, 1) := by decide +kernel
theorem dX3_admit_32 : decode cX3_admit 32 = .ok (.ifnull 9, 3) := by decide +kernel
theorem dX3_admit_35 : decode cX3_admit 35 = .ok (.aload_n 3, 1) := by decide +kernel
theorem dX3_admit_36 : decode cX3_admit 36 = .ok (.iload_n 1, 1) := by decide +kernel
theorem dX3_admit_37 : decode cX3_admit 37 = .ok (.iload_n 2, 1) := by decide +kernel
theorem dX3_admit_38 : decode cX3_admit 38 = .ok (.invokevirtual 89, 3) := by decide +kernel
theorem dX3_admit_41 : decode cX3_admit 41 = .ok (.return_, 1) := by decide +kernel
theorem dX3_relocate_0 : decode cX3_relocate 0 = .ok (.aload_n 0, 1) := by decide +kernel
theorem dX3_relocate_1 : decode cX3_relocate 1 = .ok (.iload_n 1, 1) := by decide +kernel
theorem dX3_relocate_2 : decode cX3_relocate 2 = .ok (.invokevirtual 70, 3) := by decide +kernel
theorem dX3_relocate_5 : decode cX3_relocate 5 = .ok (.astore_n 3, 1) := by decide +kernel
theorem dX3_relocate_6 : decode cX3_relocate 6 = .ok (.aload_n 3, 1) := by decide +kernel
theorem dX3_relocate_7 : decode cX3_relocate 7 = .ok (.ifnull 11, 3) := by decide +kernel
theorem dX3_relocate_10 : decode cX3_relocate 10 = .ok (.aload_n 0, 1) := by decide +kernel
theorem dX3_relocate_11 : decode cX3_relocate 11 = .ok (.iload_n 2, 1) := by decide +kernel
theorem dX3_relocate_12 : decode cX3_relocate 12 = .ok (.invokevirtual 70, 3) := by decide +kernel
theorem dX3_relocate_15 : decode cX3_relocate 15 = .ok (.ifnonnull 4, 3) := by decide +kernel
theorem dX3_relocate_18 : decode cX3_relocate 18 = .ok (.return_, 1) := by decide +kernel
theorem dX3_relocate_19 : decode cX3_relocate 19 = .ok (.iload_n 1, 1) := by decide +kernel
theorem dX3_relocate_20 : decode cX3_relocate 20 = .ok (.istore 4, 2) := by decide +kernel
theorem dX3_relocate_22 : decode cX3_relocate 22 = .ok (.iload 4, 2) := by decide +kernel
theorem dX3_relocate_24 : decode cX3_relocate 24 = .ok (.iload_n 2, 1) := by decide +kernel
theorem dX3_relocate_25 : decode cX3_relocate 25 = .ok (.if_icmp .ge 25, 3) := by decide +kernel
theorem dX3_relocate_28 : decode cX3_relocate 28 = .ok (.aload_n 0, 1) := by decide +kernel
theorem dX3_relocate_29 : decode cX3_relocate 29 = .ok (.getfield 25, 3) := by decide +kernel
theorem dX3_relocate_32 : decode cX3_relocate 32 = .ok (.iload 4, 2) := by decide +kernel
theorem dX3_relocate_34 : decode cX3_relocate 34 = .ok (.aload_n 0, 1) := by decide +kernel
theorem dX3_relocate_35 : decode cX3_relocate 35 = .ok (.getfield 25, 3) := by decide +kernel
theorem dX3_relocate_38 : decode cX3_relocate 38 = .ok (.iload 4, 2) := by decide +kernel
theorem dX3_relocate_40 : decode cX3_relocate 40 = .ok (.iconst 1, 1) := by decide +kernel
theorem dX3_relocate_41 : decode cX3_relocate 41 = .ok (.iadd, 1) := by decide +kernel
theorem dX3_relocate_42 : decode cX3_relocate 42 = .ok (.aaload, 1) := by decide +kernel
theorem dX3_relocate_43 : decode cX3_relocate 43 = .ok (.aastore, 1) := by decide +kernel
theorem dX3_relocate_44 : decode cX3_relocate 44 = .ok (.iinc 4 1, 3) := by decide +kernel
theorem dX3_relocate_47 : decode cX3_relocate 47 = .ok (.goto (-25), 3) := by decide +kernel
theorem dX3_relocate_50 : decode cX3_relocate 50 = .ok (.iload_n 1, 1) := by decide +kernel
theorem dX3_relocate_51 : decode cX3_relocate 51 = .ok (.istore 4, 2) := by decide +kernel
theorem dX3_relocate_53 : decode cX3_relocate 53 = .ok (.iload 4, 2) := by decide +kernel
theorem dX3_relocate_55 : decode cX3_relocate 55 = .ok (.iload_n 2, 1) := by decide +kernel
theorem dX3_relocate_56 : decode cX3_relocate 56 = .ok (.if_icmp .le 25, 3) := by decide +kernel
theorem dX3_relocate_59 : decode cX3_relocate 59 = .ok (.aload_n 0, 1) := by decide +kernel
theorem dX3_relocate_60 : decode cX3_relocate 60 = .ok (.getfield 25, 3) := by decide +kernel
theorem dX3_relocate_63 : decode cX3_relocate 63 = .ok (.iload 4, 2) := by decide +kernel
theorem dX3_relocate_65 : decode cX3_relocate 65 = .ok (.aload_n 0, 1) := by decide +kernel
theorem dX3_relocate_66 : decode cX3_relocate 66 = .ok (.getfield 25, 3) := by decide +kernel
theorem dX3_relocate_69 : decode cX3_relocate 69 = .ok (.iload 4, 2) := by decide +kernel
theorem dX3_relocate_71 : decode cX3_relocate 71 = .ok (.iconst 1, 1) := by decide +kernel
theorem dX3_relocate_72 : decode cX3_relocate 72 = .ok (.isub, 1) := by decide +kernel
theorem dX3_relocate_73 : decode cX3_relocate 73 = .ok (.aaload, 1) := by decide +kernel
theorem dX3_relocate_74 : decode cX3_relocate 74 = .ok (.aastore, 1) := by decide +kernel
theorem dX3_relocate_75 : decode cX3_relocate 75 = .ok (.iinc 4 (-1), 3) := by decide +kernel
theorem dX3_relocate_78 : decode cX3_relocate 78 = .ok (.goto (-25), 3) := by decide +kernel
theorem dX3_relocate_81 : decode cX3_relocate 81 = .ok (.aload_n 0, 1) := by decide +kernel
theorem dX3_relocate_82 : decode cX3_relocate 82 = .ok (.getfield 25, 3) := by decide +kernel
theorem dX3_relocate_85 : decode cX3_relocate 85 = .ok (.iload_n 2, 1) := by decide +kernel
theorem dX3_relocate_86 : decode cX3_relocate 86 = .ok (.aload_n 3, 1) := by decide +kernel
theorem dX3_relocate_87 : decode cX3_relocate 87 = .ok (.aastore, 1) := by decide +kernel
theorem dX3_relocate_88 : decode cX3_relocate 88 = .ok (.aload_n 0, 1) := by decide +kernel
theorem dX3_relocate_89 : decode cX3_relocate 89 = .ok (.aload_n 0, 1) := by decide +kernel
theorem dX3_relocate_90 : decode cX3_relocate 90 = .ok (.aload_n 0, 1) := by decide +kernel
theorem dX3_relocate_91 : decode cX3_relocate 91 = .ok (.getfield 36, 3) := by decide +kernel
theorem dX3_relocate_94 : decode cX3_relocate 94 = .ok (.iload_n 1, 1) := by decide +kernel
theorem dX3_relocate_95 : decode cX3_relocate 95 = .ok (.iload_n 2, 1) := by decide +kernel
theorem dX3_relocate_96 : decode cX3_relocate 96 = .ok (.invokevirtual 93, 3) := by decide +kernel
theorem dX3_relocate_99 : decode cX3_relocate 99 = .ok (.putfield 36, 3) := by decide +kernel
theorem dX3_relocate_102 : decode cX3_relocate 102 = .ok (.aload_n 0, 1) := by decide +kernel
theorem dX3_relocate_103 : decode cX3_relocate 103 = .ok (.aload_n 0, 1) := by decide +kernel
theorem dX3_relocate_104 : decode cX3_relocate 104 = .ok (.aload_n 0, 1) := by decide +kernel
theorem dX3_relocate_105 : decode cX3_relocate 105 = .ok (.getfield 39, 3) := by decide +kernel
theorem dX3_relocate_108 : decode cX3_relocate 108 = .ok (.iload_n 1, 1) := by decide +kernel
theorem dX3_relocate_109 : decode cX3_relocate 109 = .ok (.iload_n 2, 1) := by decide +kernel
theorem dX3_relocate_110 : decode cX3_relocate 110 = .ok (.invokevirtual 93, 3) := by decide +kernel
theorem dX3_relocate_113 : decode cX3_relocate 113 = .ok (.putfield 39, 3) := by decide +kernel
theorem dX3_relocate_116 : decode cX3_relocate 116 = .ok (.return_, 1) := by decide +kernel
theorem dX3_placeAfterMove_0 : decode cX3_placeAfterMove 0 = .ok (.iload_n 1, 1) := by decide +kernel
theorem dX3_placeAfterMove_1 : decode cX3_placeAfterMove 1 = .ok (.iload_n 2, 1) := by decide +kernel
theorem dX3_placeAfterMove_2 : decode cX3_placeAfterMove 2 = .ok (.if_icmp .ne 5, 3) := by decide +kernel
theorem dX3_placeAfterMove_5 : decode cX3_placeAfterMove 5 = .ok (.iload_n 3, 1) := by decide +kernel
theorem dX3_placeAfterMove_6 : decode cX3_placeAfterMove 6 = .ok (.ireturn, 1) := by decide +kernel
theorem dX3_placeAfterMove_7 : decode cX3_placeAfterMove 7 = .ok (.iload_n 1, 1) := by decide +kernel
theorem dX3_placeAfterMove_8 : decode cX3_placeAfterMove 8 = .ok (.iload_n 2, 1) := by decide +kernel
theorem dX3_placeAfterMove_9 : decode cX3_placeAfterMove 9 = .ok (.if_icmp .le 12, 3) := by decide +kernel
theorem dX3_placeAfterMove_12 : decode cX3_placeAfterMove 12 = .ok (.iload_n 1, 1) := by decide +kernel
theorem dX3_placeAfterMove_13 : decode cX3_placeAfterMove 13 = .ok (.iload_n 3, 1) := by decide +kernel
theorem dX3_placeAfterMove_14 : decode cX3_placeAfterMove 14 = .ok (.if_icmp .gt 7, 3) := by decide +kernel
theorem dX3_placeAfterMove_17 : decode cX3_placeAfterMove 17 = .ok (.iload_n 1, 1) := by decide +kernel
theorem dX3_placeAfterMove_18 : decode cX3_placeAfterMove 18 = .ok (.iconst 1, 1) := by decide +kernel
theorem dX3_placeAfterMove_19 : decode cX3_placeAfterMove 19 = .ok (.isub, 1) := by decide +kernel
theorem dX3_placeAfterMove_20 : decode cX3_placeAfterMove 20 = .ok (.ireturn, 1) := by decide +kernel
theorem dX3_placeAfterMove_21 : decode cX3_placeAfterMove 21 = .ok (.iload_n 1, 1) := by decide +kernel
theorem dX3_placeAfterMove_22 : decode cX3_placeAfterMove 22 = .ok (.iload_n 2, 1) := by decide +kernel
theorem dX3_placeAfterMove_23 : decode cX3_placeAfterMove 23 = .ok (.if_icmp .ge 12, 3) := by decide +kernel
theorem dX3_placeAfterMove_26 : decode cX3_placeAfterMove 26 = .ok (.iload_n 1, 1) := by decide +kernel
theorem dX3_placeAfterMove_27 : decode cX3_placeAfterMove 27 = .ok (.iload_n 3, 1) := by decide +kernel
theorem dX3_placeAfterMove_28 : decode cX3_placeAfterMove 28 = .ok (.if_icmp .lt 7, 3) := by decide +kernel
theorem dX3_placeAfterMove_31 : decode cX3_placeAfterMove 31 = .ok (.iload_n 1, 1) := by decide +kernel
theorem dX3_placeAfterMove_32 : decode cX3_placeAfterMove 32 = .ok (.iconst 1, 1) := by decide +kernel
theorem dX3_placeAfterMove_33 : decode cX3_placeAfterMove 33 = .ok (.iadd, 1) := by decide +kernel
theorem dX3_placeAfterMove_34 : decode cX3_placeAfterMove 34 = .ok (.ireturn, 1) := by decide +kernel
theorem dX3_placeAfterMove_35 : decode cX3_placeAfterMove 35 = .ok (.iload_n 1, 1) := by decide +kernel
theorem dX3_placeAfterMove_36 : decode cX3_placeAfterMove 36 = .ok (.ireturn, 1) := by decide +kernel
theorem dX3_leaveWithoutGuardian_0 : decode cX3_leaveWithoutGuardian 0 = .ok (.aload_n 0, 1) := by decide +kernel
theorem dX3_leaveWithoutGuardian_1 : decode cX3_leaveWithoutGuardian 1 = .ok (.bipush (-6), 2) := by decide +kernel
theorem dX3_leaveWithoutGuardian_3 : decode cX3_leaveWithoutGuardian 3 = .ok (.putfield 36, 3) := by decide +kernel
theorem dX3_leaveWithoutGuardian_6 : decode cX3_leaveWithoutGuardian 6 = .ok (.aload_n 0, 1) := by decide +kernel
theorem dX3_leaveWithoutGuardian_7 : decode cX3_leaveWithoutGuardian 7 = .ok (.iload_n 1, 1) := by decide +kernel
theorem dX3_leaveWithoutGuardian_8 : decode cX3_leaveWithoutGuardian 8 = .ok (.putfield 39, 3) := by decide +kernel
theorem dX3_leaveWithoutGuardian_11 : decode cX3_leaveWithoutGuardian 11 = .ok (.return_, 1) := by decide +kernel
theorem dX3_depose_0 : decode cX3_depose 0 = .ok (.aload_n 0, 1) := by decide +kernel
theorem dX3_depose_1 : decode cX3_depose 1 = .ok (.iload_n 1, 1) := by decide +kernel
theorem dX3_depose_2 : decode cX3_depose 2 = .ok (.invokevirtual 97, 3) := by decide +kernel
theorem dX3_depose_5 : decode cX3_depose 5 = .ok (.aload_n 0, 1) := by decide +kernel
theorem dX3_depose_6 : decode cX3_depose 6 = .ok (.dup, 1) := by decide +kernel
theorem dX3_depose_7 : decode cX3_depose 7 = .ok (.getfield 54, 3) := by decide +kernel
theorem dX3_depose_10 : decode cX3_depose 10 = .ok (.iconst 1, 1) := by decide +kernel
theorem dX3_depose_11 : decode cX3_depose 11 = .ok (.iadd, 1) := by decide +kernel
theorem dX3_depose_12 : decode cX3_depose 12 = .ok (.putfield 54, 3) := by decide +kernel
theorem dX3_depose_15 : decode cX3_depose 15 = .ok (.return_, 1) := by decide +kernel
theorem dX3_scratch_0 : decode cX3_scratch 0 = .ok (.aload_n 1, 1) := by decide +kernel
theorem dX3_scratch_1 : decode cX3_scratch 1 = .ok (.dup, 1) := by decide +kernel
theorem dX3_scratch_2 : decode cX3_scratch 2 = .ok (.getfield 78, 3) := by decide +kernel
theorem dX3_scratch_5 : decode cX3_scratch 5 = .ok (.iconst 1, 1) := by decide +kernel
theorem dX3_scratch_6 : decode cX3_scratch 6 = .ok (.iadd, 1) := by decide +kernel
theorem dX3_scratch_7 : decode cX3_scratch 7 = .ok (.putfield 78, 3) := by decide +kernel
theorem dX3_scratch_10 : decode cX3_scratch 10 = .ok (.aload_n 0, 1) := by decide +kernel
theorem dX3_scratch_11 : decode cX3_scratch 11 = .ok (.dup, 1) := by decide +kernel
theorem dX3_scratch_12 : decode cX3_scratch 12 = .ok (.getfield 48, 3) := by decide +kernel
theorem dX3_scratch_15 : decode cX3_scratch 15 = .ok (.iconst 1, 1) := by decide +kernel
theorem dX3_scratch_16 : decode cX3_scratch 16 = .ok (.iadd, 1) := by decide +kernel
theorem dX3_scratch_17 : decode cX3_scratch 17 = .ok (.putfield 48, 3) := by decide +kernel
theorem dX3_scratch_20 : decode cX3_scratch 20 = .ok (.return_, 1) := by decide +kernel
theorem dX3_mayAppeal_0 : decode cX3_mayAppeal 0 = .ok (.aload_n 0, 1) := by decide +kernel
theorem dX3_mayAppeal_1 : decode cX3_mayAppeal 1 = .ok (.iload_n 1, 1) := by decide +kernel
theorem dX3_mayAppeal_2 : decode cX3_mayAppeal 2 = .ok (.invokevirtual 70, 3) := by decide +kernel
theorem dX3_mayAppeal_5 : decode cX3_mayAppeal 5 = .ok (.astore_n 2, 1) := by decide +kernel
theorem dX3_mayAppeal_6 : decode cX3_mayAppeal 6 = .ok (.aload_n 2, 1) := by decide +kernel
theorem dX3_mayAppeal_7 : decode cX3_mayAppeal 7 = .ok (.ifnull 45, 3) := by decide +kernel
theorem dX3_mayAppeal_10 : decode cX3_mayAppeal 10 = .ok (.aload_n 0, 1) := by decide +kernel
theorem dX3_mayAppeal_11 : decode cX3_mayAppeal 11 = .ok (.getfield 36, 3) := by decide +kernel
theorem dX3_mayAppeal_14 : decode cX3_mayAppeal 14 = .ok (.bipush (-6), 2) := by decide +kernel
theorem dX3_mayAppeal_16 : decode cX3_mayAppeal 16 = .ok (.if_icmp .eq 36, 3) := by decide +kernel
theorem dX3_mayAppeal_19 : decode cX3_mayAppeal 19 = .ok (.iload_n 1, 1) := by decide +kernel
theorem dX3_mayAppeal_20 : decode cX3_mayAppeal 20 = .ok (.aload_n 0, 1) := by decide +kernel
theorem dX3_mayAppeal_21 : decode cX3_mayAppeal 21 = .ok (.getfield 36, 3) := by decide +kernel
theorem dX3_mayAppeal_24 : decode cX3_mayAppeal 24 = .ok (.if_icmp .eq 28, 3) := by decide +kernel
theorem dX3_mayAppeal_27 : decode cX3_mayAppeal 27 = .ok (.aload_n 0, 1) := by decide +kernel
theorem dX3_mayAppeal_28 : decode cX3_mayAppeal 28 = .ok (.aload_n 2, 1) := by decide +kernel
theorem dX3_mayAppeal_29 : decode cX3_mayAppeal 29 = .ok (.invokevirtual 82, 3) := by decide +kernel
theorem dX3_mayAppeal_32 : decode cX3_mayAppeal 32 = .ok (.ifCond .ne 20, 3) := by decide +kernel
theorem dX3_mayAppeal_35 : decode cX3_mayAppeal 35 = .ok (.aload_n 2, 1) := by decide +kernel
theorem dX3_mayAppeal_36 : decode cX3_mayAppeal 36 = .ok (.getfield 86, 3) := by decide +kernel
theorem dX3_mayAppeal_39 : decode cX3_mayAppeal 39 = .ok (.aload_n 0, 1) := by decide +kernel
theorem dX3_mayAppeal_40 : decode cX3_mayAppeal 40 = .ok (.getfield 18, 3) := by decide +kernel
theorem dX3_mayAppeal_43 : decode cX3_mayAppeal 43 = .ok (.iconst 2, 1) := by decide +kernel
theorem dX3_mayAppeal_44 : decode cX3_mayAppeal 44 = .ok (.iaload, 1) := by decide +kernel
theorem dX3_mayAppeal_45 : decode cX3_mayAppeal 45 = .ok (.if_icmp .lt 7, 3) := by decide +kernel
theorem dX3_mayAppeal_48 : decode cX3_mayAppeal 48 = .ok (.iconst 1, 1) := by decide +kernel
theorem dX3_mayAppeal_49 : decode cX3_mayAppeal 49 = .ok (.goto 4, 3) := by decide +kernel
theorem dX3_mayAppeal_52 : decode cX3_mayAppeal 52 = .ok (.iconst 0, 1) := by decide +kernel
theorem dX3_mayAppeal_53 : decode cX3_mayAppeal 53 = .ok (.ireturn, 1) := by decide +kernel
theorem dX3_hearAppeal_0 : decode cX3_hearAppeal 0 = .ok (.aload_n 0, 1) := by decide +kernel
theorem dX3_hearAppeal_1 : decode cX3_hearAppeal 1 = .ok (.iload_n 1, 1) := by decide +kernel
theorem dX3_hearAppeal_2 : decode cX3_hearAppeal 2 = .ok (.invokevirtual 70, 3) := by decide +kernel
theorem dX3_hearAppeal_5 : decode cX3_hearAppeal 5 = .ok (.astore_n 2, 1) := by decide +kernel
theorem dX3_hearAppeal_6 : decode cX3_hearAppeal 6 = .ok (.aload_n 0, 1) := by decide +kernel
theorem dX3_hearAppeal_7 : decode cX3_hearAppeal 7 = .ok (.aload_n 0, 1) := by decide +kernel
theorem dX3_hearAppeal_8 : decode cX3_hearAppeal 8 = .ok (.getfield 36, 3) := by decide +kernel
theorem dX3_hearAppeal_11 : decode cX3_hearAppeal 11 = .ok (.invokevirtual 70, 3) := by decide +kernel
theorem dX3_hearAppeal_14 : decode cX3_hearAppeal 14 = .ok (.astore_n 3, 1) := by decide +kernel
theorem dX3_hearAppeal_15 : decode cX3_hearAppeal 15 = .ok (.aload_n 2, 1) := by decide +kernel
theorem dX3_hearAppeal_16 : decode cX3_hearAppeal 16 = .ok (.ifnull 7, 3) := by decide +kernel
theorem dX3_hearAppeal_19 : decode cX3_hearAppeal 19 = .ok (.aload_n 3, 1) := by decide +kernel
theorem dX3_hearAppeal_20 : decode cX3_hearAppeal 20 = .ok (.ifnonnull 5, 3) := by decide +kernel
theorem dX3_hearAppeal_23 : decode cX3_hearAppeal 23 = .ok (.iconst 0, 1) := by decide +kernel
theorem dX3_hearAppeal_24 : decode cX3_hearAppeal 24 = .ok (.ireturn, 1) := by decide +kernel
theorem dX3_hearAppeal_25 : decode cX3_hearAppeal 25 = .ok (.aload_n 2, 1) := by decide +kernel
theorem dX3_hearAppeal_26 : decode cX3_hearAppeal 26 = .ok (.dup, 1) := by decide +kernel
theorem dX3_hearAppeal_27 : decode cX3_hearAppeal 27 = .ok (.getfield 86, 3) := by decide +kernel
theorem dX3_hearAppeal_30 : decode cX3_hearAppeal 30 = .ok (.aload_n 0, 1) := by decide +kernel
theorem dX3_hearAppeal_31 : decode cX3_hearAppeal 31 = .ok (.getfield 18, 3) := by decide +kernel
theorem dX3_hearAppeal_34 : decode cX3_hearAppeal 34 = .ok (.iconst 2, 1) := by decide +kernel
theorem dX3_hearAppeal_35 : decode cX3_hearAppeal 35 = .ok (.iaload, 1) := by decide +kernel
theorem dX3_hearAppeal_36 : decode cX3_hearAppeal 36 = .ok (.isub, 1) := by decide +kernel
theorem dX3_hearAppeal_37 : decode cX3_hearAppeal 37 = .ok (.putfield 86, 3) := by decide +kernel
theorem dX3_hearAppeal_40 : decode cX3_hearAppeal 40 = .ok (.aload_n 0, 1) := by decide +kernel
theorem dX3_hearAppeal_41 : decode cX3_hearAppeal 41 = .ok (.dup, 1) := by decide +kernel
theorem dX3_hearAppeal_42 : decode cX3_hearAppeal 42 = .ok (.getfield 42, 3) := by decide +kernel
theorem dX3_hearAppeal_45 : decode cX3_hearAppeal 45 = .ok (.aload_n 0, 1) := by decide +kernel
theorem dX3_hearAppeal_46 : decode cX3_hearAppeal 46 = .ok (.getfield 18, 3) := by decide +kernel
theorem dX3_hearAppeal_49 : decode cX3_hearAppeal 49 = .ok (.iconst 2, 1) := by decide +kernel
theorem dX3_hearAppeal_50 : decode cX3_hearAppeal 50 = .ok (.iaload, 1) := by decide +kernel
theorem dX3_hearAppeal_51 : decode cX3_hearAppeal 51 = .ok (.iadd, 1) := by decide +kernel
theorem dX3_hearAppeal_52 : decode cX3_hearAppeal 52 = .ok (.putfield 42, 3) := by decide +kernel
theorem dX3_hearAppeal_55 : decode cX3_hearAppeal 55 = .ok (.aload_n 0, 1) := by decide +kernel
theorem dX3_hearAppeal_56 : decode cX3_hearAppeal 56 = .ok (.aload_n 2, 1) := by decide +kernel
theorem dX3_hearAppeal_57 : decode cX3_hearAppeal 57 = .ok (.invokevirtual 101, 3) := by decide +kernel
theorem dX3_hearAppeal_60 : decode cX3_hearAppeal 60 = .ok (.aload_n 0, 1) := by decide +kernel
theorem dX3_hearAppeal_61 : decode cX3_hearAppeal 61 = .ok (.aload_n 3, 1) := by decide +kernel
theorem dX3_hearAppeal_62 : decode cX3_hearAppeal 62 = .ok (.invokevirtual 101, 3) := by decide +kernel
theorem dX3_hearAppeal_65 : decode cX3_hearAppeal 65 = .ok (.if_icmp .le 10, 3) := by decide +kernel
theorem dX3_hearAppeal_68 : decode cX3_hearAppeal 68 = .ok (.aload_n 0, 1) := by decide +kernel
theorem dX3_hearAppeal_69 : decode cX3_hearAppeal 69 = .ok (.iload_n 1, 1) := by decide +kernel
theorem dX3_hearAppeal_70 : decode cX3_hearAppeal 70 = .ok (.invokevirtual 105, 3) := by decide +kernel
theorem dX3_hearAppeal_73 : decode cX3_hearAppeal 73 = .ok (.iconst 1, 1) := by decide +kernel
theorem dX3_hearAppeal_74 : decode cX3_hearAppeal 74 = .ok (.ireturn, 1) := by decide +kernel
theorem dX3_hearAppeal_75 : decode cX3_hearAppeal 75 = .ok (.aload_n 0, 1) := by decide +kernel
theorem dX3_hearAppeal_76 : decode cX3_hearAppeal 76 = .ok (.aload_n 2, 1) := by decide +kernel
theorem dX3_hearAppeal_77 : decode cX3_hearAppeal 77 = .ok (.invokevirtual 108, 3) := by decide +kernel
theorem dX3_hearAppeal_80 : decode cX3_hearAppeal 80 = .ok (.iconst 0, 1) := by decide +kernel
theorem dX3_hearAppeal_81 : decode cX3_hearAppeal 81 = .ok (.ireturn, 1) := by decide +kernel
theorem dX3_liveDays_0 : decode cX3_liveDays 0 = .ok (.iconst 0, 1) := by decide +kernel
theorem dX3_liveDays_1 : decode cX3_liveDays 1 = .ok (.istore_n 2, 1) := by decide +kernel
theorem dX3_liveDays_2 : decode cX3_liveDays 2 = .ok (.iload_n 2, 1) := by decide +kernel
theorem dX3_liveDays_3 : decode cX3_liveDays 3 = .ok (.iload_n 1, 1) := by decide +kernel
theorem dX3_liveDays_4 : decode cX3_liveDays 4 = .ok (.if_icmp .ge 14, 3) := by decide +kernel
theorem dX3_liveDays_7 : decode cX3_liveDays 7 = .ok (.aload_n 0, 1) := by decide +kernel
theorem dX3_liveDays_8 : decode cX3_liveDays 8 = .ok (.invokevirtual 111, 3) := by decide +kernel
theorem dX3_liveDays_11 : decode cX3_liveDays 11 = .ok (.pop, 1) := by decide +kernel
theorem dX3_liveDays_12 : decode cX3_liveDays 12 = .ok (.iinc 2 1, 3) := by decide +kernel
theorem dX3_liveDays_15 : decode cX3_liveDays 15 = .ok (.goto (-13), 3) := by decide +kernel
theorem dX3_liveDays_18 : decode cX3_liveDays 18 = .ok (.return_, 1) := by decide +kernel
theorem dX3_liveDay_0 : decode cX3_liveDay 0 = .ok (.aload_n 0, 1) := by decide +kernel
theorem dX3_liveDay_1 : decode cX3_liveDay 1 = .ok (.dup, 1) := by decide +kernel
theorem dX3_liveDay_2 : decode cX3_liveDay 2 = .ok (.getfield 45, 3) := by decide +kernel
theorem dX3_liveDay_5 : decode cX3_liveDay 5 = .ok (.iconst 1, 1) := by decide +kernel
theorem dX3_liveDay_6 : decode cX3_liveDay 6 = .ok (.iadd, 1) := by decide +kernel
theorem dX3_liveDay_7 : decode cX3_liveDay 7 = .ok (.putfield 45, 3) := by decide +kernel
theorem dX3_liveDay_10 : decode cX3_liveDay 10 = .ok (.aload_n 0, 1) := by decide +kernel
theorem dX3_liveDay_11 : decode cX3_liveDay 11 = .ok (.getfield 36, 3) := by decide +kernel
theorem dX3_liveDay_14 : decode cX3_liveDay 14 = .ok (.bipush (-6), 2) := by decide +kernel
theorem dX3_liveDay_16 : decode cX3_liveDay 16 = .ok (.if_icmp .ne 10, 3) := by decide +kernel
theorem dX3_liveDay_19 : decode cX3_liveDay 19 = .ok (.aload_n 0, 1) := by decide +kernel
theorem dX3_liveDay_20 : decode cX3_liveDay 20 = .ok (.invokevirtual 115, 3) := by decide +kernel
theorem dX3_liveDay_23 : decode cX3_liveDay 23 = .ok (.goto 5, 3) := by decide +kernel
theorem dX3_liveDay_26 : decode cX3_liveDay 26 = .ok (.bipush (-6), 2) := by decide +kernel
theorem dX3_liveDay_28 : decode cX3_liveDay 28 = .ok (.istore_n 1, 1) := by decide +kernel
theorem dX3_liveDay_29 : decode cX3_liveDay 29 = .ok (.aload_n 0, 1) := by decide +kernel
theorem dX3_liveDay_30 : decode cX3_liveDay 30 = .ok (.getfield 18, 3) := by decide +kernel
theorem dX3_liveDay_33 : decode cX3_liveDay 33 = .ok (.iconst 3, 1) := by decide +kernel
theorem dX3_liveDay_34 : decode cX3_liveDay 34 = .ok (.iaload, 1) := by decide +kernel
theorem dX3_liveDay_35 : decode cX3_liveDay 35 = .ok (.istore_n 2, 1) := by decide +kernel
theorem dX3_liveDay_36 : decode cX3_liveDay 36 = .ok (.iload_n 2, 1) := by decide +kernel
theorem dX3_liveDay_37 : decode cX3_liveDay 37 = .ok (.ifCond .le 16, 3) := by decide +kernel
theorem dX3_liveDay_40 : decode cX3_liveDay 40 = .ok (.aload_n 0, 1) := by decide +kernel
theorem dX3_liveDay_41 : decode cX3_liveDay 41 = .ok (.getfield 45, 3) := by decide +kernel
theorem dX3_liveDay_44 : decode cX3_liveDay 44 = .ok (.iload_n 2, 1) := by decide +kernel
theorem dX3_liveDay_45 : decode cX3_liveDay 45 = .ok (.irem, 1) := by decide +kernel
theorem dX3_liveDay_46 : decode cX3_liveDay 46 = .ok (.ifCond .ne 7, 3) := by decide +kernel
theorem dX3_liveDay_49 : decode cX3_liveDay 49 = .ok (.aload_n 0, 1) := by decide +kernel
theorem dX3_liveDay_50 : decode cX3_liveDay 50 = .ok (.invokevirtual 118, 3) := by decide +kernel
theorem dX3_liveDay_53 : decode cX3_liveDay 53 = .ok (.aload_n 0, 1) := by decide +kernel
theorem dX3_liveDay_54 : decode cX3_liveDay 54 = .ok (.dup, 1) := by decide +kernel
theorem dX3_liveDay_55 : decode cX3_liveDay 55 = .ok (.getfield 33, 3) := by decide +kernel
theorem dX3_liveDay_58 : decode cX3_liveDay 58 = .ok (.bipush 50, 2) := by decide +kernel
theorem dX3_liveDay_60 : decode cX3_liveDay 60 = .ok (.aload_n 0, 1) := by decide +kernel
theorem dX3_liveDay_61 : decode cX3_liveDay 61 = .ok (.getfield 33, 3) := by decide +kernel
theorem dX3_liveDay_64 : decode cX3_liveDay 64 = .ok (.invokestatic 121, 3) := by decide +kernel
theorem dX3_liveDay_67 : decode cX3_liveDay 67 = .ok (.iadd, 1) := by decide +kernel
theorem dX3_liveDay_68 : decode cX3_liveDay 68 = .ok (.putfield 33, 3) := by decide +kernel
theorem dX3_liveDay_71 : decode cX3_liveDay 71 = .ok (.aload_n 0, 1) := by decide +kernel
theorem dX3_liveDay_72 : decode cX3_liveDay 72 = .ok (.aload_n 0, 1) := by decide +kernel
theorem dX3_liveDay_73 : decode cX3_liveDay 73 = .ok (.getfield 36, 3) := by decide +kernel
theorem dX3_liveDay_76 : decode cX3_liveDay 76 = .ok (.invokevirtual 70, 3) := by decide +kernel
theorem dX3_liveDay_79 : decode cX3_liveDay 79 = .ok (.astore_n 3, 1) := by decide +kernel
theorem dX3_liveDay_80 : decode cX3_liveDay 80 = .ok (.aload_n 3, 1) := by decide +kernel
theorem dX3_liveDay_81 : decode cX3_liveDay 81 = .ok (.ifnull 13, 3) := by decide +kernel
theorem dX3_liveDay_84 : decode cX3_liveDay 84 = .ok (.aload_n 3, 1) := by decide +kernel
theorem dX3_liveDay_85 : decode cX3_liveDay 85 = .ok (.dup, 1) := by decide +kernel
theorem dX3_liveDay_86 : decode cX3_liveDay 86 = .ok (.getfield 127, 3) := by decide +kernel
theorem dX3_liveDay_89 : decode cX3_liveDay 89 = .ok (.iconst 1, 1) := by decide +kernel
theorem dX3_liveDay_90 : decode cX3_liveDay 90 = .ok (.iadd, 1) := by decide +kernel
theorem dX3_liveDay_91 : decode cX3_liveDay 91 = .ok (.putfield 127, 3) := by decide +kernel
theorem dX3_liveDay_94 : decode cX3_liveDay 94 = .ok (.iload_n 1, 1) := by decide +kernel
theorem dX3_liveDay_95 : decode cX3_liveDay 95 = .ok (.ireturn, 1) := by decide +kernel
theorem dX3_holdOutHand_0 : decode cX3_holdOutHand 0 = .ok (.aload_n 0, 1) := by decide +kernel
theorem dX3_holdOutHand_1 : decode cX3_holdOutHand 1 = .ok (.invokevirtual 130, 3) := by decide +kernel
theorem dX3_holdOutHand_4 : decode cX3_holdOutHand 4 = .ok (.istore_n 1, 1) := by decide +kernel
theorem dX3_holdOutHand_5 : decode cX3_holdOutHand 5 = .ok (.aload_n 0, 1) := by decide +kernel
theorem dX3_holdOutHand_6 : decode cX3_holdOutHand 6 = .ok (.iload_n 1, 1) := by decide +kernel
theorem dX3_holdOutHand_7 : decode cX3_holdOutHand 7 = .ok (.invokevirtual 70, 3) := by decide +kernel
theorem dX3_holdOutHand_10 : decode cX3_holdOutHand 10 = .ok (.astore_n 2, 1) := by decide +kernel
theorem dX3_holdOutHand_11 : decode cX3_holdOutHand 11 = .ok (.aload_n 2, 1) := by decide +kernel
theorem dX3_holdOutHand_12 : decode cX3_holdOutHand 12 = .ok (.ifnonnull 6, 3) := by decide +kernel
theorem dX3_holdOutHand_15 : decode cX3_holdOutHand 15 = .ok (.bipush (-6), 2) := by decide +kernel
theorem dX3_holdOutHand_17 : decode cX3_holdOutHand 17 = .ok (.ireturn, 1) := by decide +kernel
theorem dX3_holdOutHand_18 : decode cX3_holdOutHand 18 = .ok (.aload_n 0, 1) := by decide +kernel
theorem dX3_holdOutHand_19 : decode cX3_holdOutHand 19 = .ok (.aload_n 2, 1) := by decide +kernel
theorem dX3_holdOutHand_20 : decode cX3_holdOutHand 20 = .ok (.invokevirtual 101, 3) := by decide +kernel
theorem dX3_holdOutHand_23 : decode cX3_holdOutHand 23 = .ok (.aload_n 0, 1) := by decide +kernel
theorem dX3_holdOutHand_24 : decode cX3_holdOutHand 24 = .ok (.getfield 18, 3) := by decide +kernel
theorem dX3_holdOutHand_27 : decode cX3_holdOutHand 27 = .ok (.iconst 0, 1) := by decide +kernel
theorem dX3_holdOutHand_28 : decode cX3_holdOutHand 28 = .ok (.iaload, 1) := by decide +kernel
theorem dX3_holdOutHand_29 : decode cX3_holdOutHand 29 = .ok (.if_icmp .lt 30, 3) := by decide +kernel
theorem dX3_holdOutHand_32 : decode cX3_holdOutHand 32 = .ok (.aload_n 0, 1) := by decide +kernel
theorem dX3_holdOutHand_33 : decode cX3_holdOutHand 33 = .ok (.iload_n 1, 1) := by decide +kernel
theorem dX3_holdOutHand_34 : decode cX3_holdOutHand 34 = .ok (.putfield 36, 3) := by decide +kernel
theorem dX3_holdOutHand_37 : decode cX3_holdOutHand 37 = .ok (.aload_n 2, 1) := by decide +kernel
theorem dX3_holdOutHand_38 : decode cX3_holdOutHand 38 = .ok (.dup, 1) := by decide +kernel
theorem dX3_holdOutHand_39 : decode cX3_holdOutHand 39 = .ok (.getfield 133, 3) := by decide +kernel
theorem dX3_holdOutHand_42 : decode cX3_holdOutHand 42 = .ok (.iconst 1, 1) := by decide +kernel
theorem dX3_holdOutHand_43 : decode cX3_holdOutHand 43 = .ok (.iadd, 1) := by decide +kernel
theorem dX3_holdOutHand_44 : decode cX3_holdOutHand 44 = .ok (.putfield 133, 3) := by decide +kernel
theorem dX3_holdOutHand_47 : decode cX3_holdOutHand 47 = .ok (.aload_n 0, 1) := by decide +kernel
theorem dX3_holdOutHand_48 : decode cX3_holdOutHand 48 = .ok (.dup, 1) := by decide +kernel
theorem dX3_holdOutHand_49 : decode cX3_holdOutHand 49 = .ok (.getfield 51, 3) := by decide +kernel
theorem dX3_holdOutHand_52 : decode cX3_holdOutHand 52 = .ok (.iconst 1, 1) := by decide +kernel
theorem dX3_holdOutHand_53 : decode cX3_holdOutHand 53 = .ok (.iadd, 1) := by decide +kernel
theorem dX3_holdOutHand_54 : decode cX3_holdOutHand 54 = .ok (.putfield 51, 3) := by decide +kernel
theorem dX3_holdOutHand_57 : decode cX3_holdOutHand 57 = .ok (.iload_n 1, 1) := by decide +kernel
theorem dX3_holdOutHand_58 : decode cX3_holdOutHand 58 = .ok (.ireturn, 1) := by decide +kernel
theorem dX3_holdOutHand_59 : decode cX3_holdOutHand 59 = .ok (.aload_n 0, 1) := by decide +kernel
theorem dX3_holdOutHand_60 : decode cX3_holdOutHand 60 = .ok (.aload_n 2, 1) := by decide +kernel
theorem dX3_holdOutHand_61 : decode cX3_holdOutHand 61 = .ok (.invokevirtual 108, 3) := by decide +kernel
theorem dX3_holdOutHand_64 : decode cX3_holdOutHand 64 = .ok (.aload_n 0, 1) := by decide +kernel
theorem dX3_holdOutHand_65 : decode cX3_holdOutHand 65 = .ok (.iconst 0, 1) := by decide +kernel
theorem dX3_holdOutHand_66 : decode cX3_holdOutHand 66 = .ok (.aload_n 0, 1) := by decide +kernel
theorem dX3_holdOutHand_67 : decode cX3_holdOutHand 67 = .ok (.getfield 33, 3) := by decide +kernel
theorem dX3_holdOutHand_70 : decode cX3_holdOutHand 70 = .ok (.iconst 3, 1) := by decide +kernel
theorem dX3_holdOutHand_71 : decode cX3_holdOutHand 71 = .ok (.isub, 1) := by decide +kernel
theorem dX3_holdOutHand_72 : decode cX3_holdOutHand 72 = .ok (.invokestatic 134, 3) := by decide +kernel
theorem dX3_holdOutHand_75 : decode cX3_holdOutHand 75 = .ok (.putfield 33, 3) := by decide +kernel
theorem dX3_holdOutHand_78 : decode cX3_holdOutHand 78 = .ok (.aload_n 0, 1) := by decide +kernel
theorem dX3_holdOutHand_79 : decode cX3_holdOutHand 79 = .ok (.aload_n 0, 1) := by decide +kernel
theorem dX3_holdOutHand_80 : decode cX3_holdOutHand 80 = .ok (.iload_n 1, 1) := by decide +kernel
theorem dX3_holdOutHand_81 : decode cX3_holdOutHand 81 = .ok (.invokevirtual 139, 3) := by decide +kernel
theorem dX3_holdOutHand_84 : decode cX3_holdOutHand 84 = .ok (.putfield 39, 3) := by decide +kernel
theorem dX3_holdOutHand_87 : decode cX3_holdOutHand 87 = .ok (.bipush (-6), 2) := by decide +kernel
theorem dX3_holdOutHand_89 : decode cX3_holdOutHand 89 = .ok (.ireturn, 1) := by decide +kernel
theorem dX3_nextHand_0 : decode cX3_nextHand 0 = .ok (.aload_n 0, 1) := by decide +kernel
theorem dX3_nextHand_1 : decode cX3_nextHand 1 = .ok (.getfield 39, 3) := by decide +kernel
theorem dX3_nextHand_4 : decode cX3_nextHand 4 = .ok (.istore_n 1, 1) := by decide +kernel
theorem dX3_nextHand_5 : decode cX3_nextHand 5 = .ok (.iconst 0, 1) := by decide +kernel
theorem dX3_nextHand_6 : decode cX3_nextHand 6 = .ok (.istore_n 2, 1) := by decide +kernel
theorem dX3_nextHand_7 : decode cX3_nextHand 7 = .ok (.iload_n 2, 1) := by decide +kernel
theorem dX3_nextHand_8 : decode cX3_nextHand 8 = .ok (.aload_n 0, 1) := by decide +kernel
theorem dX3_nextHand_9 : decode cX3_nextHand 9 = .ok (.getfield 29, 3) := by decide +kernel
theorem dX3_nextHand_12 : decode cX3_nextHand 12 = .ok (.if_icmp .ge 35, 3) := by decide +kernel
theorem dX3_nextHand_15 : decode cX3_nextHand 15 = .ok (.aload_n 0, 1) := by decide +kernel
theorem dX3_nextHand_16 : decode cX3_nextHand 16 = .ok (.iload_n 1, 1) := by decide +kernel
theorem dX3_nextHand_17 : decode cX3_nextHand 17 = .ok (.invokevirtual 70, 3) := by decide +kernel
theorem dX3_nextHand_20 : decode cX3_nextHand 20 = .ok (.astore_n 3, 1) := by decide +kernel
theorem dX3_nextHand_21 : decode cX3_nextHand 21 = .ok (.aload_n 3, 1) := by decide +kernel
theorem dX3_nextHand_22 : decode cX3_nextHand 22 = .ok (.ifnull 13, 3) := by decide +kernel
theorem dX3_nextHand_25 : decode cX3_nextHand 25 = .ok (.aload_n 0, 1) := by decide +kernel
theorem dX3_nextHand_26 : decode cX3_nextHand 26 = .ok (.aload_n 3, 1) := by decide +kernel
theorem dX3_nextHand_27 : decode cX3_nextHand 27 = .ok (.invokevirtual 82, 3) := by decide +kernel
theorem dX3_nextHand_30 : decode cX3_nextHand 30 = .ok (.ifCond .ne 5, 3) := by decide +kernel
theorem dX3_nextHand_33 : decode cX3_nextHand 33 = .ok (.iload_n 1, 1) := by decide +kernel
theorem dX3_nextHand_34 : decode cX3_nextHand 34 = .ok (.ireturn, 1) := by decide +kernel
theorem dX3_nextHand_35 : decode cX3_nextHand 35 = .ok (.aload_n 0, 1) := by decide +kernel
end
section
theorem dX3_nextHand_36 : decode cX3_nextHand 36 = .ok (.iload_n 1, 1) := by decide +kernel
theorem dX3_nextHand_37 : decode cX3_nextHand 37 = .ok (.invokevirtual 139, 3) := by decide +kernel
theorem dX3_nextHand_40 : decode cX3_nextHand 40 = .ok (.istore_n 1, 1) := by decide +kernel
theorem dX3_nextHand_41 : decode cX3_nextHand 41 = .ok (.iinc 2 1, 3) := by decide +kernel
theorem dX3_nextHand_44 : decode cX3_nextHand 44 = .ok (.goto (-37), 3) := by decide +kernel
theorem dX3_nextHand_47 : decode cX3_nextHand 47 = .ok (.bipush (-6), 2) := by decide +kernel
theorem dX3_nextHand_49 : decode cX3_nextHand 49 = .ok (.ireturn, 1) := by decide +kernel
theorem dX3_endMonth_0 : decode cX3_endMonth 0 = .ok (.aload_n 0, 1) := by decide +kernel
theorem dX3_endMonth_1 : decode cX3_endMonth 1 = .ok (.aload_n 0, 1) := by decide +kernel
theorem dX3_endMonth_2 : decode cX3_endMonth 2 = .ok (.getfield 36, 3) := by decide +kernel
theorem dX3_endMonth_5 : decode cX3_endMonth 5 = .ok (.invokevirtual 70, 3) := by decide +kernel
theorem dX3_endMonth_8 : decode cX3_endMonth 8 = .ok (.astore_n 1, 1) := by decide +kernel
theorem dX3_endMonth_9 : decode cX3_endMonth 9 = .ok (.aload_n 1, 1) := by decide +kernel
theorem dX3_endMonth_10 : decode cX3_endMonth 10 = .ok (.ifnonnull 25, 3) := by decide +kernel
theorem dX3_endMonth_13 : decode cX3_endMonth 13 = .ok (.aload_n 0, 1) := by decide +kernel
theorem dX3_endMonth_14 : decode cX3_endMonth 14 = .ok (.dup, 1) := by decide +kernel
theorem dX3_endMonth_15 : decode cX3_endMonth 15 = .ok (.getfield 57, 3) := by decide +kernel
theorem dX3_endMonth_18 : decode cX3_endMonth 18 = .ok (.aload_n 0, 1) := by decide +kernel
theorem dX3_endMonth_19 : decode cX3_endMonth 19 = .ok (.aload_n 0, 1) := by decide +kernel
theorem dX3_endMonth_20 : decode cX3_endMonth 20 = .ok (.getfield 18, 3) := by decide +kernel
theorem dX3_endMonth_23 : decode cX3_endMonth 23 = .ok (.iconst 1, 1) := by decide +kernel
theorem dX3_endMonth_24 : decode cX3_endMonth 24 = .ok (.iaload, 1) := by decide +kernel
theorem dX3_endMonth_25 : decode cX3_endMonth 25 = .ok (.iconst 2, 1) := by decide +kernel
theorem dX3_endMonth_26 : decode cX3_endMonth 26 = .ok (.idiv, 1) := by decide +kernel
theorem dX3_endMonth_27 : decode cX3_endMonth 27 = .ok (.invokevirtual 143, 3) := by decide +kernel
theorem dX3_endMonth_30 : decode cX3_endMonth 30 = .ok (.iadd, 1) := by decide +kernel
theorem dX3_endMonth_31 : decode cX3_endMonth 31 = .ok (.putfield 57, 3) := by decide +kernel
theorem dX3_endMonth_34 : decode cX3_endMonth 34 = .ok (.return_, 1) := by decide +kernel
theorem dX3_endMonth_35 : decode cX3_endMonth 35 = .ok (.aload_n 0, 1) := by decide +kernel
theorem dX3_endMonth_36 : decode cX3_endMonth 36 = .ok (.aload_n 0, 1) := by decide +kernel
theorem dX3_endMonth_37 : decode cX3_endMonth 37 = .ok (.getfield 18, 3) := by decide +kernel
theorem dX3_endMonth_40 : decode cX3_endMonth 40 = .ok (.iconst 1, 1) := by decide +kernel
theorem dX3_endMonth_41 : decode cX3_endMonth 41 = .ok (.iaload, 1) := by decide +kernel
theorem dX3_endMonth_42 : decode cX3_endMonth 42 = .ok (.invokevirtual 143, 3) := by decide +kernel
theorem dX3_endMonth_45 : decode cX3_endMonth 45 = .ok (.istore_n 2, 1) := by decide +kernel
theorem dX3_endMonth_46 : decode cX3_endMonth 46 = .ok (.iload_n 2, 1) := by decide +kernel
theorem dX3_endMonth_47 : decode cX3_endMonth 47 = .ok (.aload_n 1, 1) := by decide +kernel
theorem dX3_endMonth_48 : decode cX3_endMonth 48 = .ok (.getfield 146, 3) := by decide +kernel
theorem dX3_endMonth_51 : decode cX3_endMonth 51 = .ok (.imul, 1) := by decide +kernel
theorem dX3_endMonth_52 : decode cX3_endMonth 52 = .ok (.bipush 100, 2) := by decide +kernel
theorem dX3_endMonth_54 : decode cX3_endMonth 54 = .ok (.idiv, 1) := by decide +kernel
theorem dX3_endMonth_55 : decode cX3_endMonth 55 = .ok (.istore_n 3, 1) := by decide +kernel
theorem dX3_endMonth_56 : decode cX3_endMonth 56 = .ok (.aload_n 0, 1) := by decide +kernel
theorem dX3_endMonth_57 : decode cX3_endMonth 57 = .ok (.dup, 1) := by decide +kernel
theorem dX3_endMonth_58 : decode cX3_endMonth 58 = .ok (.getfield 57, 3) := by decide +kernel
theorem dX3_endMonth_61 : decode cX3_endMonth 61 = .ok (.iload_n 3, 1) := by decide +kernel
theorem dX3_endMonth_62 : decode cX3_endMonth 62 = .ok (.iadd, 1) := by decide +kernel
theorem dX3_endMonth_63 : decode cX3_endMonth 63 = .ok (.putfield 57, 3) := by decide +kernel
theorem dX3_endMonth_66 : decode cX3_endMonth 66 = .ok (.aload_n 1, 1) := by decide +kernel
theorem dX3_endMonth_67 : decode cX3_endMonth 67 = .ok (.dup, 1) := by decide +kernel
theorem dX3_endMonth_68 : decode cX3_endMonth 68 = .ok (.getfield 86, 3) := by decide +kernel
theorem dX3_endMonth_71 : decode cX3_endMonth 71 = .ok (.iload_n 2, 1) := by decide +kernel
theorem dX3_endMonth_72 : decode cX3_endMonth 72 = .ok (.iload_n 3, 1) := by decide +kernel
theorem dX3_endMonth_73 : decode cX3_endMonth 73 = .ok (.isub, 1) := by decide +kernel
theorem dX3_endMonth_74 : decode cX3_endMonth 74 = .ok (.iadd, 1) := by decide +kernel
theorem dX3_endMonth_75 : decode cX3_endMonth 75 = .ok (.putfield 86, 3) := by decide +kernel
theorem dX3_endMonth_78 : decode cX3_endMonth 78 = .ok (.aload_n 0, 1) := by decide +kernel
theorem dX3_endMonth_79 : decode cX3_endMonth 79 = .ok (.bipush 99, 2) := by decide +kernel
theorem dX3_endMonth_81 : decode cX3_endMonth 81 = .ok (.aload_n 0, 1) := by decide +kernel
theorem dX3_endMonth_82 : decode cX3_endMonth 82 = .ok (.getfield 33, 3) := by decide +kernel
theorem dX3_endMonth_85 : decode cX3_endMonth 85 = .ok (.iload_n 3, 1) := by decide +kernel
theorem dX3_endMonth_86 : decode cX3_endMonth 86 = .ok (.iconst 2, 1) := by decide +kernel
theorem dX3_endMonth_87 : decode cX3_endMonth 87 = .ok (.idiv, 1) := by decide +kernel
theorem dX3_endMonth_88 : decode cX3_endMonth 88 = .ok (.iadd, 1) := by decide +kernel
theorem dX3_endMonth_89 : decode cX3_endMonth 89 = .ok (.invokestatic 149, 3) := by decide +kernel
theorem dX3_endMonth_92 : decode cX3_endMonth 92 = .ok (.putfield 33, 3) := by decide +kernel
theorem dX3_endMonth_95 : decode cX3_endMonth 95 = .ok (.aload_n 0, 1) := by decide +kernel
theorem dX3_endMonth_96 : decode cX3_endMonth 96 = .ok (.getfield 33, 3) := by decide +kernel
theorem dX3_endMonth_99 : decode cX3_endMonth 99 = .ok (.aload_n 0, 1) := by decide +kernel
theorem dX3_endMonth_100 : decode cX3_endMonth 100 = .ok (.getfield 18, 3) := by decide +kernel
theorem dX3_endMonth_103 : decode cX3_endMonth 103 = .ok (.iconst 5, 1) := by decide +kernel
theorem dX3_endMonth_104 : decode cX3_endMonth 104 = .ok (.iaload, 1) := by decide +kernel
theorem dX3_endMonth_105 : decode cX3_endMonth 105 = .ok (.if_icmp .ge 8, 3) := by decide +kernel
theorem dX3_endMonth_108 : decode cX3_endMonth 108 = .ok (.aload_n 0, 1) := by decide +kernel
theorem dX3_endMonth_109 : decode cX3_endMonth 109 = .ok (.iconst 0, 1) := by decide +kernel
theorem dX3_endMonth_110 : decode cX3_endMonth 110 = .ok (.invokevirtual 105, 3) := by decide +kernel
theorem dX3_endMonth_113 : decode cX3_endMonth 113 = .ok (.return_, 1) := by decide +kernel
theorem dX3_draw_0 : decode cX3_draw 0 = .ok (.iload_n 1, 1) := by decide +kernel
theorem dX3_draw_1 : decode cX3_draw 1 = .ok (.aload_n 0, 1) := by decide +kernel
theorem dX3_draw_2 : decode cX3_draw 2 = .ok (.getfield 42, 3) := by decide +kernel
theorem dX3_draw_5 : decode cX3_draw 5 = .ok (.invokestatic 149, 3) := by decide +kernel
theorem dX3_draw_8 : decode cX3_draw 8 = .ok (.istore_n 2, 1) := by decide +kernel
theorem dX3_draw_9 : decode cX3_draw 9 = .ok (.aload_n 0, 1) := by decide +kernel
theorem dX3_draw_10 : decode cX3_draw 10 = .ok (.dup, 1) := by decide +kernel
theorem dX3_draw_11 : decode cX3_draw 11 = .ok (.getfield 42, 3) := by decide +kernel
theorem dX3_draw_14 : decode cX3_draw 14 = .ok (.iload_n 2, 1) := by decide +kernel
theorem dX3_draw_15 : decode cX3_draw 15 = .ok (.isub, 1) := by decide +kernel
theorem dX3_draw_16 : decode cX3_draw 16 = .ok (.putfield 42, 3) := by decide +kernel
theorem dX3_draw_19 : decode cX3_draw 19 = .ok (.iload_n 2, 1) := by decide +kernel
theorem dX3_draw_20 : decode cX3_draw 20 = .ok (.ireturn, 1) := by decide +kernel
end
section
theorem dX4_init_0 : decode cX4_init 0 = .ok (.aload_n 0, 1) := by decide +kernel
theorem dX4_init_1 : decode cX4_init 1 = .ok (.invokespecial 1, 3) := by decide +kernel
theorem dX4_init_4 : decode cX4_init 4 = .ok (.aload_n 0, 1) := by decide +kernel
theorem dX4_init_5 : decode cX4_init 5 = .ok (.new 7, 3) := by decide +kernel
theorem dX4_init_8 : decode cX4_init 8 = .ok (.dup, 1) := by decide +kernel
theorem dX4_init_9 : decode cX4_init 9 = .ok (.invokespecial 9, 3) := by decide +kernel
theorem dX4_init_12 : decode cX4_init 12 = .ok (.putfield 10, 3) := by decide +kernel
theorem dX4_init_15 : decode cX4_init 15 = .ok (.aload_n 0, 1) := by decide +kernel
theorem dX4_init_16 : decode cX4_init 16 = .ok (.new 7, 3) := by decide +kernel
theorem dX4_init_19 : decode cX4_init 19 = .ok (.dup, 1) := by decide +kernel
theorem dX4_init_20 : decode cX4_init 20 = .ok (.invokespecial 9, 3) := by decide +kernel
theorem dX4_init_23 : decode cX4_init 23 = .ok (.putfield 16, 3) := by decide +kernel
theorem dX4_init_26 : decode cX4_init 26 = .ok (.aload_n 0, 1) := by decide +kernel
theorem dX4_init_27 : decode cX4_init 27 = .ok (.new 19, 3) := by decide +kernel
theorem dX4_init_30 : decode cX4_init 30 = .ok (.dup, 1) := by decide +kernel
theorem dX4_init_31 : decode cX4_init 31 = .ok (.invokespecial 21, 3) := by decide +kernel
theorem dX4_init_34 : decode cX4_init 34 = .ok (.putfield 22, 3) := by decide +kernel
theorem dX4_init_37 : decode cX4_init 37 = .ok (.aload_n 0, 1) := by decide +kernel
theorem dX4_init_38 : decode cX4_init 38 = .ok (.iconst 2, 1) := by decide +kernel
theorem dX4_init_39 : decode cX4_init 39 = .ok (.anewarray 7, 3) := by decide +kernel
theorem dX4_init_42 : decode cX4_init 42 = .ok (.putfield 26, 3) := by decide +kernel
theorem dX4_init_45 : decode cX4_init 45 = .ok (.aload_n 0, 1) := by decide +kernel
theorem dX4_init_46 : decode cX4_init 46 = .ok (.new 30, 3) := by decide +kernel
theorem dX4_init_49 : decode cX4_init 49 = .ok (.dup, 1) := by decide +kernel
theorem dX4_init_50 : decode cX4_init 50 = .ok (.invokespecial 32, 3) := by decide +kernel
theorem dX4_init_53 : decode cX4_init 53 = .ok (.putfield 33, 3) := by decide +kernel
theorem dX4_init_56 : decode cX4_init 56 = .ok (.return_, 1) := by decide +kernel
theorem dX4_set_0 : decode cX4_set 0 = .ok (.iload_n 1, 1) := by decide +kernel
theorem dX4_set_1 : decode cX4_set 1 = .ok (.invokestatic 37, 3) := by decide +kernel
theorem dX4_set_4 : decode cX4_set 4 = .ok (.ifCond .ne 6, 3) := by decide +kernel
theorem dX4_set_7 : decode cX4_set 7 = .ok (.bipush (-2), 2) := by decide +kernel
theorem dX4_set_9 : decode cX4_set 9 = .ok (.ireturn, 1) := by decide +kernel
theorem dX4_set_10 : decode cX4_set 10 = .ok (.iload_n 2, 1) := by decide +kernel
theorem dX4_set_11 : decode cX4_set 11 = .ok (.getstatic 41, 3) := by decide +kernel
theorem dX4_set_14 : decode cX4_set 14 = .ok (.iload_n 1, 1) := by decide +kernel
theorem dX4_set_15 : decode cX4_set 15 = .ok (.iaload, 1) := by decide +kernel
theorem dX4_set_16 : decode cX4_set 16 = .ok (.if_icmp .lt 12, 3) := by decide +kernel
theorem dX4_set_19 : decode cX4_set 19 = .ok (.iload_n 2, 1) := by decide +kernel
theorem dX4_set_20 : decode cX4_set 20 = .ok (.getstatic 45, 3) := by decide +kernel
theorem dX4_set_23 : decode cX4_set 23 = .ok (.iload_n 1, 1) := by decide +kernel
theorem dX4_set_24 : decode cX4_set 24 = .ok (.iaload, 1) := by decide +kernel
theorem dX4_set_25 : decode cX4_set 25 = .ok (.if_icmp .le 6, 3) := by decide +kernel
theorem dX4_set_28 : decode cX4_set 28 = .ok (.bipush (-2), 2) := by decide +kernel
theorem dX4_set_30 : decode cX4_set 30 = .ok (.ireturn, 1) := by decide +kernel
theorem dX4_set_31 : decode cX4_set 31 = .ok (.aload_n 0, 1) := by decide +kernel
theorem dX4_set_32 : decode cX4_set 32 = .ok (.getfield 22, 3) := by decide +kernel
theorem dX4_set_35 : decode cX4_set 35 = .ok (.aload_n 0, 1) := by decide +kernel
theorem dX4_set_36 : decode cX4_set 36 = .ok (.getfield 10, 3) := by decide +kernel
theorem dX4_set_39 : decode cX4_set 39 = .ok (.invokevirtual 48, 3) := by decide +kernel
theorem dX4_set_42 : decode cX4_set 42 = .ok (.aload_n 0, 1) := by decide +kernel
theorem dX4_set_43 : decode cX4_set 43 = .ok (.getfield 10, 3) := by decide +kernel
theorem dX4_set_46 : decode cX4_set 46 = .ok (.getfield 52, 3) := by decide +kernel
theorem dX4_set_49 : decode cX4_set 49 = .ok (.iload_n 1, 1) := by decide +kernel
theorem dX4_set_50 : decode cX4_set 50 = .ok (.iaload, 1) := by decide +kernel
theorem dX4_set_51 : decode cX4_set 51 = .ok (.istore_n 3, 1) := by decide +kernel
theorem dX4_set_52 : decode cX4_set 52 = .ok (.aload_n 0, 1) := by decide +kernel
theorem dX4_set_53 : decode cX4_set 53 = .ok (.getfield 10, 3) := by decide +kernel
theorem dX4_set_56 : decode cX4_set 56 = .ok (.getfield 52, 3) := by decide +kernel
theorem dX4_set_59 : decode cX4_set 59 = .ok (.iload_n 1, 1) := by decide +kernel
theorem dX4_set_60 : decode cX4_set 60 = .ok (.iload_n 2, 1) := by decide +kernel
theorem dX4_set_61 : decode cX4_set 61 = .ok (.iastore, 1) := by decide +kernel
theorem dX4_set_62 : decode cX4_set 62 = .ok (.iload_n 3, 1) := by decide +kernel
theorem dX4_set_63 : decode cX4_set 63 = .ok (.ireturn, 1) := by decide +kernel
theorem dX4_add_0 : decode cX4_add 0 = .ok (.iload_n 1, 1) := by decide +kernel
theorem dX4_add_1 : decode cX4_add 1 = .ok (.iconst 1, 1) := by decide +kernel
theorem dX4_add_2 : decode cX4_add 2 = .ok (.if_icmp .lt 19, 3) := by decide +kernel
theorem dX4_add_5 : decode cX4_add 5 = .ok (.iload_n 1, 1) := by decide +kernel
theorem dX4_add_6 : decode cX4_add 6 = .ok (.bipush 9, 2) := by decide +kernel
theorem dX4_add_8 : decode cX4_add 8 = .ok (.if_icmp .gt 13, 3) := by decide +kernel
theorem dX4_add_11 : decode cX4_add 11 = .ok (.iload_n 2, 1) := by decide +kernel
theorem dX4_add_12 : decode cX4_add 12 = .ok (.ifCond .lt 9, 3) := by decide +kernel
theorem dX4_add_15 : decode cX4_add 15 = .ok (.iload_n 2, 1) := by decide +kernel
theorem dX4_add_16 : decode cX4_add 16 = .ok (.bipush 100, 2) := by decide +kernel
theorem dX4_add_18 : decode cX4_add 18 = .ok (.if_icmp .le 6, 3) := by decide +kernel
theorem dX4_add_21 : decode cX4_add 21 = .ok (.bipush (-2), 2) := by decide +kernel
theorem dX4_add_23 : decode cX4_add 23 = .ok (.ireturn, 1) := by decide +kernel
theorem dX4_add_24 : decode cX4_add 24 = .ok (.aload_n 0, 1) := by decide +kernel
theorem dX4_add_25 : decode cX4_add 25 = .ok (.getfield 10, 3) := by decide +kernel
theorem dX4_add_28 : decode cX4_add 28 = .ok (.getfield 55, 3) := by decide +kernel
theorem dX4_add_31 : decode cX4_add 31 = .ok (.bipush 8, 2) := by decide +kernel
theorem dX4_add_33 : decode cX4_add 33 = .ok (.if_icmp .lt 6, 3) := by decide +kernel
theorem dX4_add_36 : decode cX4_add 36 = .ok (.bipush (-4), 2) := by decide +kernel
theorem dX4_add_38 : decode cX4_add 38 = .ok (.ireturn, 1) := by decide +kernel
theorem dX4_add_39 : decode cX4_add 39 = .ok (.aload_n 0, 1) := by decide +kernel
theorem dX4_add_40 : decode cX4_add 40 = .ok (.getfield 22, 3) := by decide +kernel
theorem dX4_add_43 : decode cX4_add 43 = .ok (.aload_n 0, 1) := by decide +kernel
theorem dX4_add_44 : decode cX4_add 44 = .ok (.getfield 10, 3) := by decide +kernel
theorem dX4_add_47 : decode cX4_add 47 = .ok (.invokevirtual 48, 3) := by decide +kernel
theorem dX4_add_50 : decode cX4_add 50 = .ok (.aload_n 0, 1) := by decide +kernel
theorem dX4_add_51 : decode cX4_add 51 = .ok (.getfield 10, 3) := by decide +kernel
theorem dX4_add_54 : decode cX4_add 54 = .ok (.iload_n 1, 1) := by decide +kernel
theorem dX4_add_55 : decode cX4_add 55 = .ok (.iload_n 2, 1) := by decide +kernel
theorem dX4_add_56 : decode cX4_add 56 = .ok (.invokevirtual 59, 3) := by decide +kernel
theorem dX4_add_59 : decode cX4_add 59 = .ok (.aload_n 0, 1) := by decide +kernel
theorem dX4_add_60 : decode cX4_add 60 = .ok (.getfield 10, 3) := by decide +kernel
theorem dX4_add_63 : decode cX4_add 63 = .ok (.getfield 55, 3) := by decide +kernel
theorem dX4_add_66 : decode cX4_add 66 = .ok (.iconst 1, 1) := by decide +kernel
theorem dX4_add_67 : decode cX4_add 67 = .ok (.isub, 1) := by decide +kernel
theorem dX4_add_68 : decode cX4_add 68 = .ok (.ireturn, 1) := by decide +kernel
theorem dX4_read_0 : decode cX4_read 0 = .ok (.aload_n 0, 1) := by decide +kernel
theorem dX4_read_1 : decode cX4_read 1 = .ok (.getfield 33, 3) := by decide +kernel
theorem dX4_read_4 : decode cX4_read 4 = .ok (.invokevirtual 63, 3) := by decide +kernel
theorem dX4_read_7 : decode cX4_read 7 = .ok (.bipush (-6), 2) := by decide +kernel
theorem dX4_read_9 : decode cX4_read 9 = .ok (.if_icmp .eq 6, 3) := by decide +kernel
theorem dX4_read_12 : decode cX4_read 12 = .ok (.bipush (-3), 2) := by decide +kernel
theorem dX4_read_14 : decode cX4_read 14 = .ok (.ireturn, 1) := by decide +kernel
theorem dX4_read_15 : decode cX4_read 15 = .ok (.aload_n 0, 1) := by decide +kernel
theorem dX4_read_16 : decode cX4_read 16 = .ok (.getfield 10, 3) := by decide +kernel
theorem dX4_read_19 : decode cX4_read 19 = .ok (.getfield 55, 3) := by decide +kernel
theorem dX4_read_22 : decode cX4_read 22 = .ok (.aload_n 0, 1) := by decide +kernel
theorem dX4_read_23 : decode cX4_read 23 = .ok (.getfield 33, 3) := by decide +kernel
theorem dX4_read_26 : decode cX4_read 26 = .ok (.invokevirtual 67, 3) := by decide +kernel
theorem dX4_read_29 : decode cX4_read 29 = .ok (.iadd, 1) := by decide +kernel
theorem dX4_read_30 : decode cX4_read 30 = .ok (.bipush 8, 2) := by decide +kernel
theorem dX4_read_32 : decode cX4_read 32 = .ok (.if_icmp .le 6, 3) := by decide +kernel
theorem dX4_read_35 : decode cX4_read 35 = .ok (.bipush (-4), 2) := by decide +kernel
theorem dX4_read_37 : decode cX4_read 37 = .ok (.ireturn, 1) := by decide +kernel
theorem dX4_read_38 : decode cX4_read 38 = .ok (.aload_n 0, 1) := by decide +kernel
theorem dX4_read_39 : decode cX4_read 39 = .ok (.getfield 22, 3) := by decide +kernel
theorem dX4_read_42 : decode cX4_read 42 = .ok (.aload_n 0, 1) := by decide +kernel
theorem dX4_read_43 : decode cX4_read 43 = .ok (.getfield 10, 3) := by decide +kernel
theorem dX4_read_46 : decode cX4_read 46 = .ok (.invokevirtual 48, 3) := by decide +kernel
theorem dX4_read_49 : decode cX4_read 49 = .ok (.aload_n 0, 1) := by decide +kernel
theorem dX4_read_50 : decode cX4_read 50 = .ok (.getfield 33, 3) := by decide +kernel
theorem dX4_read_53 : decode cX4_read 53 = .ok (.aload_n 0, 1) := by decide +kernel
theorem dX4_read_54 : decode cX4_read 54 = .ok (.getfield 10, 3) := by decide +kernel
theorem dX4_read_57 : decode cX4_read 57 = .ok (.invokevirtual 70, 3) := by decide +kernel
theorem dX4_read_60 : decode cX4_read 60 = .ok (.aload_n 0, 1) := by decide +kernel
theorem dX4_read_61 : decode cX4_read 61 = .ok (.getfield 33, 3) := by decide +kernel
theorem dX4_read_64 : decode cX4_read 64 = .ok (.iconst 0, 1) := by decide +kernel
theorem dX4_read_65 : decode cX4_read 65 = .ok (.putfield 73, 3) := by decide +kernel
theorem dX4_read_68 : decode cX4_read 68 = .ok (.aload_n 0, 1) := by decide +kernel
theorem dX4_read_69 : decode cX4_read 69 = .ok (.getfield 10, 3) := by decide +kernel
theorem dX4_read_72 : decode cX4_read 72 = .ok (.getfield 55, 3) := by decide +kernel
theorem dX4_read_75 : decode cX4_read 75 = .ok (.ireturn, 1) := by decide +kernel
theorem dX4_move_0 : decode cX4_move 0 = .ok (.aload_n 0, 1) := by decide +kernel
theorem dX4_move_1 : decode cX4_move 1 = .ok (.getfield 10, 3) := by decide +kernel
theorem dX4_move_4 : decode cX4_move 4 = .ok (.iload_n 1, 1) := by decide +kernel
theorem dX4_move_5 : decode cX4_move 5 = .ok (.invokevirtual 76, 3) := by decide +kernel
theorem dX4_move_8 : decode cX4_move 8 = .ok (.ifnull 14, 3) := by decide +kernel
theorem dX4_move_11 : decode cX4_move 11 = .ok (.aload_n 0, 1) := by decide +kernel
theorem dX4_move_12 : decode cX4_move 12 = .ok (.getfield 10, 3) := by decide +kernel
theorem dX4_move_15 : decode cX4_move 15 = .ok (.iload_n 2, 1) := by decide +kernel
theorem dX4_move_16 : decode cX4_move 16 = .ok (.invokevirtual 76, 3) := by decide +kernel
theorem dX4_move_19 : decode cX4_move 19 = .ok (.ifnonnull 5, 3) := by decide +kernel
theorem dX4_move_22 : decode cX4_move 22 = .ok (.iconst (-1), 1) := by decide +kernel
theorem dX4_move_23 : decode cX4_move 23 = .ok (.ireturn, 1) := by decide +kernel
theorem dX4_move_24 : decode cX4_move 24 = .ok (.aload_n 0, 1) := by decide +kernel
theorem dX4_move_25 : decode cX4_move 25 = .ok (.getfield 22, 3) := by decide +kernel
theorem dX4_move_28 : decode cX4_move 28 = .ok (.aload_n 0, 1) := by decide +kernel
theorem dX4_move_29 : decode cX4_move 29 = .ok (.getfield 10, 3) := by decide +kernel
theorem dX4_move_32 : decode cX4_move 32 = .ok (.invokevirtual 48, 3) := by decide +kernel
theorem dX4_move_35 : decode cX4_move 35 = .ok (.aload_n 0, 1) := by decide +kernel
theorem dX4_move_36 : decode cX4_move 36 = .ok (.getfield 10, 3) := by decide +kernel
theorem dX4_move_39 : decode cX4_move 39 = .ok (.iload_n 1, 1) := by decide +kernel
theorem dX4_move_40 : decode cX4_move 40 = .ok (.iload_n 2, 1) := by decide +kernel
theorem dX4_move_41 : decode cX4_move 41 = .ok (.invokevirtual 80, 3) := by decide +kernel
theorem dX4_move_44 : decode cX4_move 44 = .ok (.iload_n 1, 1) := by decide +kernel
theorem dX4_move_45 : decode cX4_move 45 = .ok (.iload_n 2, 1) := by decide +kernel
theorem dX4_move_46 : decode cX4_move 46 = .ok (.if_icmp .ne 7, 3) := by decide +kernel
theorem dX4_move_49 : decode cX4_move 49 = .ok (.iconst 0, 1) := by decide +kernel
theorem dX4_move_50 : decode cX4_move 50 = .ok (.goto 11, 3) := by decide +kernel
theorem dX4_move_53 : decode cX4_move 53 = .ok (.iload_n 1, 1) := by decide +kernel
theorem dX4_move_54 : decode cX4_move 54 = .ok (.iload_n 2, 1) := by decide +kernel
theorem dX4_move_55 : decode cX4_move 55 = .ok (.isub, 1) := by decide +kernel
theorem dX4_move_56 : decode cX4_move 56 = .ok (.invokestatic 83, 3) := by decide +kernel
theorem dX4_move_59 : decode cX4_move 59 = .ok (.iconst 1, 1) := by decide +kernel
theorem dX4_move_60 : decode cX4_move 60 = .ok (.iadd, 1) := by decide +kernel
theorem dX4_move_61 : decode cX4_move 61 = .ok (.ireturn, 1) := by decide +kernel
theorem dX4_stepDown_0 : decode cX4_stepDown 0 = .ok (.aload_n 0, 1) := by decide +kernel
theorem dX4_stepDown_1 : decode cX4_stepDown 1 = .ok (.getfield 10, 3) := by decide +kernel
theorem dX4_stepDown_4 : decode cX4_stepDown 4 = .ok (.getfield 89, 3) := by decide +kernel
theorem dX4_stepDown_7 : decode cX4_stepDown 7 = .ok (.istore_n 1, 1) := by decide +kernel
theorem dX4_stepDown_8 : decode cX4_stepDown 8 = .ok (.iload_n 1, 1) := by decide +kernel
theorem dX4_stepDown_9 : decode cX4_stepDown 9 = .ok (.bipush (-6), 2) := by decide +kernel
theorem dX4_stepDown_11 : decode cX4_stepDown 11 = .ok (.if_icmp .ne 6, 3) := by decide +kernel
theorem dX4_stepDown_14 : decode cX4_stepDown 14 = .ok (.bipush (-5), 2) := by decide +kernel
theorem dX4_stepDown_16 : decode cX4_stepDown 16 = .ok (.ireturn, 1) := by decide +kernel
theorem dX4_stepDown_17 : decode cX4_stepDown 17 = .ok (.aload_n 0, 1) := by decide +kernel
theorem dX4_stepDown_18 : decode cX4_stepDown 18 = .ok (.getfield 22, 3) := by decide +kernel
theorem dX4_stepDown_21 : decode cX4_stepDown 21 = .ok (.aload_n 0, 1) := by decide +kernel
theorem dX4_stepDown_22 : decode cX4_stepDown 22 = .ok (.getfield 10, 3) := by decide +kernel
theorem dX4_stepDown_25 : decode cX4_stepDown 25 = .ok (.invokevirtual 48, 3) := by decide +kernel
theorem dX4_stepDown_28 : decode cX4_stepDown 28 = .ok (.aload_n 0, 1) := by decide +kernel
theorem dX4_stepDown_29 : decode cX4_stepDown 29 = .ok (.getfield 10, 3) := by decide +kernel
theorem dX4_stepDown_32 : decode cX4_stepDown 32 = .ok (.aload_n 0, 1) := by decide +kernel
theorem dX4_stepDown_33 : decode cX4_stepDown 33 = .ok (.getfield 10, 3) := by decide +kernel
theorem dX4_stepDown_36 : decode cX4_stepDown 36 = .ok (.iload_n 1, 1) := by decide +kernel
theorem dX4_stepDown_37 : decode cX4_stepDown 37 = .ok (.invokevirtual 92, 3) := by decide +kernel
theorem dX4_stepDown_40 : decode cX4_stepDown 40 = .ok (.invokevirtual 95, 3) := by decide +kernel
theorem dX4_stepDown_43 : decode cX4_stepDown 43 = .ok (.iload_n 1, 1) := by decide +kernel
theorem dX4_stepDown_44 : decode cX4_stepDown 44 = .ok (.ireturn, 1) := by decide +kernel
theorem dX4_appeal_0 : decode cX4_appeal 0 = .ok (.aload_n 0, 1) := by decide +kernel
theorem dX4_appeal_1 : decode cX4_appeal 1 = .ok (.getfield 10, 3) := by decide +kernel
theorem dX4_appeal_4 : decode cX4_appeal 4 = .ok (.iload_n 1, 1) := by decide +kernel
theorem dX4_appeal_5 : decode cX4_appeal 5 = .ok (.invokevirtual 76, 3) := by decide +kernel
theorem dX4_appeal_8 : decode cX4_appeal 8 = .ok (.ifnonnull 5, 3) := by decide +kernel
theorem dX4_appeal_11 : decode cX4_appeal 11 = .ok (.iconst (-1), 1) := by decide +kernel
theorem dX4_appeal_12 : decode cX4_appeal 12 = .ok (.ireturn, 1) := by decide +kernel
theorem dX4_appeal_13 : decode cX4_appeal 13 = .ok (.aload_n 0, 1) := by decide +kernel
theorem dX4_appeal_14 : decode cX4_appeal 14 = .ok (.getfield 10, 3) := by decide +kernel
theorem dX4_appeal_17 : decode cX4_appeal 17 = .ok (.iload_n 1, 1) := by decide +kernel
theorem dX4_appeal_18 : decode cX4_appeal 18 = .ok (.invokevirtual 99, 3) := by decide +kernel
theorem dX4_appeal_21 : decode cX4_appeal 21 = .ok (.ifCond .ne 6, 3) := by decide +kernel
theorem dX4_appeal_24 : decode cX4_appeal 24 = .ok (.bipush (-5), 2) := by decide +kernel
theorem dX4_appeal_26 : decode cX4_appeal 26 = .ok (.ireturn, 1) := by decide +kernel
theorem dX4_appeal_27 : decode cX4_appeal 27 = .ok (.aload_n 0, 1) := by decide +kernel
theorem dX4_appeal_28 : decode cX4_appeal 28 = .ok (.getfield 22, 3) := by decide +kernel
theorem dX4_appeal_31 : decode cX4_appeal 31 = .ok (.aload_n 0, 1) := by decide +kernel
theorem dX4_appeal_32 : decode cX4_appeal 32 = .ok (.getfield 10, 3) := by decide +kernel
theorem dX4_appeal_35 : decode cX4_appeal 35 = .ok (.invokevirtual 48, 3) := by decide +kernel
theorem dX4_appeal_38 : decode cX4_appeal 38 = .ok (.aload_n 0, 1) := by decide +kernel
theorem dX4_appeal_39 : decode cX4_appeal 39 = .ok (.getfield 10, 3) := by decide +kernel
theorem dX4_appeal_42 : decode cX4_appeal 42 = .ok (.iload_n 1, 1) := by decide +kernel
theorem dX4_appeal_43 : decode cX4_appeal 43 = .ok (.invokevirtual 102, 3) := by decide +kernel
theorem dX4_appeal_46 : decode cX4_appeal 46 = .ok (.ifCond .eq 7, 3) := by decide +kernel
theorem dX4_appeal_49 : decode cX4_appeal 49 = .ok (.iconst 1, 1) := by decide +kernel
theorem dX4_appeal_50 : decode cX4_appeal 50 = .ok (.goto 4, 3) := by decide +kernel
theorem dX4_appeal_53 : decode cX4_appeal 53 = .ok (.iconst 0, 1) := by decide +kernel
theorem dX4_appeal_54 : decode cX4_appeal 54 = .ok (.ireturn, 1) := by decide +kernel
theorem dX4_give_0 : decode cX4_give 0 = .ok (.iload_n 1, 1) := by decide +kernel
theorem dX4_give_1 : decode cX4_give 1 = .ok (.iconst 1, 1) := by decide +kernel
theorem dX4_give_2 : decode cX4_give 2 = .ok (.if_icmp .lt 10, 3) := by decide +kernel
theorem dX4_give_5 : decode cX4_give 5 = .ok (.iload_n 1, 1) := by decide +kernel
theorem dX4_give_6 : decode cX4_give 6 = .ok (.sipush 9999, 3) := by decide +kernel
theorem dX4_give_9 : decode cX4_give 9 = .ok (.if_icmp .le 6, 3) := by decide +kernel
theorem dX4_give_12 : decode cX4_give 12 = .ok (.bipush (-2), 2) := by decide +kernel
theorem dX4_give_14 : decode cX4_give 14 = .ok (.ireturn, 1) := by decide +kernel
theorem dX4_give_15 : decode cX4_give 15 = .ok (.aload_n 0, 1) := by decide +kernel
theorem dX4_give_16 : decode cX4_give 16 = .ok (.getfield 10, 3) := by decide +kernel
theorem dX4_give_19 : decode cX4_give 19 = .ok (.getfield 105, 3) := by decide +kernel
theorem dX4_give_22 : decode cX4_give 22 = .ok (.iload_n 1, 1) := by decide +kernel
theorem dX4_give_23 : decode cX4_give 23 = .ok (.iadd, 1) := by decide +kernel
theorem dX4_give_24 : decode cX4_give 24 = .ok (.ldc 108, 2) := by decide +kernel
theorem dX4_give_26 : decode cX4_give 26 = .ok (.if_icmp .le 6, 3) := by decide +kernel
theorem dX4_give_29 : decode cX4_give 29 = .ok (.bipush (-4), 2) := by decide +kernel
theorem dX4_give_31 : decode cX4_give 31 = .ok (.ireturn, 1) := by decide +kernel
theorem dX4_give_32 : decode cX4_give 32 = .ok (.aload_n 0, 1) := by decide +kernel
theorem dX4_give_33 : decode cX4_give 33 = .ok (.getfield 22, 3) := by decide +kernel
theorem dX4_give_36 : decode cX4_give 36 = .ok (.aload_n 0, 1) := by decide +kernel
theorem dX4_give_37 : decode cX4_give 37 = .ok (.getfield 10, 3) := by decide +kernel
theorem dX4_give_40 : decode cX4_give 40 = .ok (.invokevirtual 48, 3) := by decide +kernel
theorem dX4_give_43 : decode cX4_give 43 = .ok (.aload_n 0, 1) := by decide +kernel
theorem dX4_give_44 : decode cX4_give 44 = .ok (.getfield 10, 3) := by decide +kernel
theorem dX4_give_47 : decode cX4_give 47 = .ok (.dup, 1) := by decide +kernel
theorem dX4_give_48 : decode cX4_give 48 = .ok (.getfield 105, 3) := by decide +kernel
theorem dX4_give_51 : decode cX4_give 51 = .ok (.iload_n 1, 1) := by decide +kernel
theorem dX4_give_52 : decode cX4_give 52 = .ok (.iadd, 1) := by decide +kernel
theorem dX4_give_53 : decode cX4_give 53 = .ok (.putfield 105, 3) := by decide +kernel
theorem dX4_give_56 : decode cX4_give 56 = .ok (.aload_n 0, 1) := by decide +kernel
theorem dX4_give_57 : decode cX4_give 57 = .ok (.getfield 10, 3) := by decide +kernel
theorem dX4_give_60 : decode cX4_give 60 = .ok (.dup, 1) := by decide +kernel
theorem dX4_give_61 : decode cX4_give 61 = .ok (.getfield 109, 3) := by decide +kernel
theorem dX4_give_64 : decode cX4_give 64 = .ok (.iload_n 1, 1) := by decide +kernel
theorem dX4_give_65 : decode cX4_give 65 = .ok (.iadd, 1) := by decide +kernel
theorem dX4_give_66 : decode cX4_give 66 = .ok (.putfield 109, 3) := by decide +kernel
theorem dX4_give_69 : decode cX4_give 69 = .ok (.aload_n 0, 1) := by decide +kernel
theorem dX4_give_70 : decode cX4_give 70 = .ok (.getfield 10, 3) := by decide +kernel
theorem dX4_give_73 : decode cX4_give 73 = .ok (.getfield 105, 3) := by decide +kernel
theorem dX4_give_76 : decode cX4_give 76 = .ok (.ireturn, 1) := by decide +kernel
theorem dX4_pass_0 : decode cX4_pass 0 = .ok (.iload_n 1, 1) := by decide +kernel
theorem dX4_pass_1 : decode cX4_pass 1 = .ok (.iconst 1, 1) := by decide +kernel
theorem dX4_pass_2 : decode cX4_pass 2 = .ok (.if_icmp .lt 9, 3) := by decide +kernel
theorem dX4_pass_5 : decode cX4_pass 5 = .ok (.iload_n 1, 1) := by decide +kernel
theorem dX4_pass_6 : decode cX4_pass 6 = .ok (.bipush 99, 2) := by decide +kernel
theorem dX4_pass_8 : decode cX4_pass 8 = .ok (.if_icmp .le 6, 3) := by decide +kernel
theorem dX4_pass_11 : decode cX4_pass 11 = .ok (.bipush (-2), 2) := by decide +kernel
theorem dX4_pass_13 : decode cX4_pass 13 = .ok (.ireturn, 1) := by decide +kernel
theorem dX4_pass_14 : decode cX4_pass 14 = .ok (.aload_n 0, 1) := by decide +kernel
theorem dX4_pass_15 : decode cX4_pass 15 = .ok (.getfield 10, 3) := by decide +kernel
theorem dX4_pass_18 : decode cX4_pass 18 = .ok (.getfield 112, 3) := by decide +kernel
theorem dX4_pass_21 : decode cX4_pass 21 = .ok (.iload_n 1, 1) := by decide +kernel
theorem dX4_pass_22 : decode cX4_pass 22 = .ok (.iadd, 1) := by decide +kernel
theorem dX4_pass_23 : decode cX4_pass 23 = .ok (.sipush 9999, 3) := by decide +kernel
theorem dX4_pass_26 : decode cX4_pass 26 = .ok (.if_icmp .le 6, 3) := by decide +kernel
theorem dX4_pass_29 : decode cX4_pass 29 = .ok (.bipush (-4), 2) := by decide +kernel
theorem dX4_pass_31 : decode cX4_pass 31 = .ok (.ireturn, 1) := by decide +kernel
theorem dX4_pass_32 : decode cX4_pass 32 = .ok (.aload_n 0, 1) := by decide +kernel
theorem dX4_pass_33 : decode cX4_pass 33 = .ok (.getfield 22, 3) := by decide +kernel
theorem dX4_pass_36 : decode cX4_pass 36 = .ok (.aload_n 0, 1) := by decide +kernel
theorem dX4_pass_37 : decode cX4_pass 37 = .ok (.getfield 10, 3) := by decide +kernel
theorem dX4_pass_40 : decode cX4_pass 40 = .ok (.invokevirtual 48, 3) := by decide +kernel
theorem dX4_pass_43 : decode cX4_pass 43 = .ok (.aload_n 0, 1) := by decide +kernel
theorem dX4_pass_44 : decode cX4_pass 44 = .ok (.getfield 10, 3) := by decide +kernel
theorem dX4_pass_47 : decode cX4_pass 47 = .ok (.getfield 115, 3) := by decide +kernel
theorem dX4_pass_50 : decode cX4_pass 50 = .ok (.istore_n 2, 1) := by decide +kernel
theorem dX4_pass_51 : decode cX4_pass 51 = .ok (.aload_n 0, 1) := by decide +kernel
theorem dX4_pass_52 : decode cX4_pass 52 = .ok (.getfield 10, 3) := by decide +kernel
theorem dX4_pass_55 : decode cX4_pass 55 = .ok (.iload_n 1, 1) := by decide +kernel
theorem dX4_pass_56 : decode cX4_pass 56 = .ok (.invokevirtual 118, 3) := by decide +kernel
theorem dX4_pass_59 : decode cX4_pass 59 = .ok (.aload_n 0, 1) := by decide +kernel
theorem dX4_pass_60 : decode cX4_pass 60 = .ok (.getfield 10, 3) := by decide +kernel
theorem dX4_pass_63 : decode cX4_pass 63 = .ok (.getfield 115, 3) := by decide +kernel
theorem dX4_pass_66 : decode cX4_pass 66 = .ok (.iload_n 2, 1) := by decide +kernel
theorem dX4_pass_67 : decode cX4_pass 67 = .ok (.isub, 1) := by decide +kernel
theorem dX4_pass_68 : decode cX4_pass 68 = .ok (.ireturn, 1) := by decide +kernel
theorem dX4_person_0 : decode cX4_person 0 = .ok (.aload_n 0, 1) := by decide +kernel
theorem dX4_person_1 : decode cX4_person 1 = .ok (.getfield 10, 3) := by decide +kernel
theorem dX4_person_4 : decode cX4_person 4 = .ok (.iload_n 1, 1) := by decide +kernel
theorem dX4_person_5 : decode cX4_person 5 = .ok (.invokevirtual 76, 3) := by decide +kernel
theorem dX4_person_8 : decode cX4_person 8 = .ok (.astore_n 3, 1) := by decide +kernel
theorem dX4_person_9 : decode cX4_person 9 = .ok (.aload_n 3, 1) := by decide +kernel
theorem dX4_person_10 : decode cX4_person 10 = .ok (.ifnonnull 5, 3) := by decide +kernel
theorem dX4_person_13 : decode cX4_person 13 = .ok (.iconst (-1), 1) := by decide +kernel
theorem dX4_person_14 : decode cX4_person 14 = .ok (.ireturn, 1) := by decide +kernel
theorem dX4_person_15 : decode cX4_person 15 = .ok (.iload_n 2, 1) := by decide +kernel
theorem dX4_person_16 : decode cX4_person 16 = .ok (.tableswitch 129 0 8 #[52, 57, 62, 67, 72, 89, 102, 107, 112], 52) := by decide +kernel
theorem dX4_person_68 : decode cX4_person 68 = .ok (.aload_n 3, 1) := by decide +kernel
theorem dX4_person_69 : decode cX4_person 69 = .ok (.getfield 121, 3) := by decide +kernel
theorem dX4_person_72 : decode cX4_person 72 = .ok (.ireturn, 1) := by decide +kernel
theorem dX4_person_73 : decode cX4_person 73 = .ok (.aload_n 3, 1) := by decide +kernel
theorem dX4_person_74 : decode cX4_person 74 = .ok (.getfield 126, 3) := by decide +kernel
theorem dX4_person_77 : decode cX4_person 77 = .ok (.ireturn, 1) := by decide +kernel
theorem dX4_person_78 : decode cX4_person 78 = .ok (.aload_n 3, 1) := by decide +kernel
theorem dX4_person_79 : decode cX4_person 79 = .ok (.getfield 129, 3) := by decide +kernel
theorem dX4_person_82 : decode cX4_person 82 = .ok (.ireturn, 1) := by decide +kernel
theorem dX4_person_83 : decode cX4_person 83 = .ok (.aload_n 3, 1) := by decide +kernel
theorem dX4_person_84 : decode cX4_person 84 = .ok (.getfield 132, 3) := by decide +kernel
theorem dX4_person_87 : decode cX4_person 87 = .ok (.ireturn, 1) := by decide +kernel
theorem dX4_person_88 : decode cX4_person 88 = .ok (.aload_n 0, 1) := by decide +kernel
theorem dX4_person_89 : decode cX4_person 89 = .ok (.getfield 10, 3) := by decide +kernel
theorem dX4_person_92 : decode cX4_person 92 = .ok (.aload_n 3, 1) := by decide +kernel
theorem dX4_person_93 : decode cX4_person 93 = .ok (.invokevirtual 135, 3) := by decide +kernel
theorem dX4_person_96 : decode cX4_person 96 = .ok (.ifCond .eq 7, 3) := by decide +kernel
theorem dX4_person_99 : decode cX4_person 99 = .ok (.iconst 1, 1) := by decide +kernel
theorem dX4_person_100 : decode cX4_person 100 = .ok (.goto 4, 3) := by decide +kernel
theorem dX4_person_103 : decode cX4_person 103 = .ok (.iconst 0, 1) := by decide +kernel
theorem dX4_person_104 : decode cX4_person 104 = .ok (.ireturn, 1) := by decide +kernel
theorem dX4_person_105 : decode cX4_person 105 = .ok (.aload_n 0, 1) := by decide +kernel
theorem dX4_person_106 : decode cX4_person 106 = .ok (.getfield 10, 3) := by decide +kernel
theorem dX4_person_109 : decode cX4_person 109 = .ok (.aload_n 3, 1) := by decide +kernel
theorem dX4_person_110 : decode cX4_person 110 = .ok (.invokevirtual 139, 3) := by decide +kernel
theorem dX4_person_113 : decode cX4_person 113 = .ok (.sipush 1000, 3) := by decide +kernel
theorem dX4_person_116 : decode cX4_person 116 = .ok (.iadd, 1) := by decide +kernel
theorem dX4_person_117 : decode cX4_person 117 = .ok (.ireturn, 1) := by decide +kernel
theorem dX4_person_118 : decode cX4_person 118 = .ok (.aload_n 3, 1) := by decide +kernel
theorem dX4_person_119 : decode cX4_person 119 = .ok (.getfield 143, 3) := by decide +kernel
theorem dX4_person_122 : decode cX4_person 122 = .ok (.ireturn, 1) := by decide +kernel
theorem dX4_person_123 : decode cX4_person 123 = .ok (.aload_n 3, 1) := by decide +kernel
theorem dX4_person_124 : decode cX4_person 124 = .ok (.getfield 144, 3) := by decide +kernel
theorem dX4_person_127 : decode cX4_person 127 = .ok (.ireturn, 1) := by decide +kernel
theorem dX4_person_128 : decode cX4_person 128 = .ok (.aload_n 0, 1) := by decide +kernel
theorem dX4_person_129 : decode cX4_person 129 = .ok (.getfield 10, 3) := by decide +kernel
theorem dX4_person_132 : decode cX4_person 132 = .ok (.iload_n 1, 1) := by decide +kernel
theorem dX4_person_133 : decode cX4_person 133 = .ok (.invokevirtual 99, 3) := by decide +kernel
theorem dX4_person_136 : decode cX4_person 136 = .ok (.ifCond .eq 7, 3) := by decide +kernel
theorem dX4_person_139 : decode cX4_person 139 = .ok (.iconst 1, 1) := by decide +kernel
theorem dX4_person_140 : decode cX4_person 140 = .ok (.goto 4, 3) := by decide +kernel
theorem dX4_person_143 : decode cX4_person 143 = .ok (.iconst 0, 1) := by decide +kernel
theorem dX4_person_144 : decode cX4_person 144 = .ok (.ireturn, 1) := by decide +kernel
theorem dX4_person_145 : decode cX4_person 145 = .ok (.bipush (-2), 2) := by decide +kernel
theorem dX4_person_147 : decode cX4_person 147 = .ok (.ireturn, 1) := by decide +kernel
theorem dX4_count_0 : decode cX4_count 0 = .ok (.iload_n 1, 1) := by decide +kernel
theorem dX4_count_1 : decode cX4_count 1 = .ok (.invokestatic 37, 3) := by decide +kernel
theorem dX4_count_4 : decode cX4_count 4 = .ok (.ifCond .eq 13, 3) := by decide +kernel
theorem dX4_count_7 : decode cX4_count 7 = .ok (.aload_n 0, 1) := by decide +kernel
theorem dX4_count_8 : decode cX4_count 8 = .ok (.getfield 10, 3) := by decide +kernel
theorem dX4_count_11 : decode cX4_count 11 = .ok (.getfield 52, 3) := by decide +kernel
theorem dX4_count_14 : decode cX4_count 14 = .ok (.iload_n 1, 1) := by decide +kernel
theorem dX4_count_15 : decode cX4_count 15 = .ok (.iaload, 1) := by decide +kernel
theorem dX4_count_16 : decode cX4_count 16 = .ok (.ireturn, 1) := by decide +kernel
theorem dX4_count_17 : decode cX4_count 17 = .ok (.iload_n 1, 1) := by decide +kernel
theorem dX4_count_18 : decode cX4_count 18 = .ok (.tableswitch 211 6 20 #[74, 82, 90, 98, 106, 131, 139, 147, 155, 163, 171, 179, 187, 195, 203], 74) := by decide +kernel
theorem dX4_count_92 : decode cX4_count 92 = .ok (.aload_n 0, 1) := by decide +kernel
theorem dX4_count_93 : decode cX4_count 93 = .ok (.getfield 10, 3) := by decide +kernel
theorem dX4_count_96 : decode cX4_count 96 = .ok (.getfield 112, 3) := by decide +kernel
theorem dX4_count_99 : decode cX4_count 99 = .ok (.ireturn, 1) := by decide +kernel
theorem dX4_count_100 : decode cX4_count 100 = .ok (.aload_n 0, 1) := by decide +kernel
theorem dX4_count_101 : decode cX4_count 101 = .ok (.getfield 10, 3) := by decide +kernel
theorem dX4_count_104 : decode cX4_count 104 = .ok (.getfield 55, 3) := by decide +kernel
theorem dX4_count_107 : decode cX4_count 107 = .ok (.ireturn, 1) := by decide +kernel
theorem dX4_count_108 : decode cX4_count 108 = .ok (.aload_n 0, 1) := by decide +kernel
theorem dX4_count_109 : decode cX4_count 109 = .ok (.getfield 10, 3) := by decide +kernel
theorem dX4_count_112 : decode cX4_count 112 = .ok (.getfield 147, 3) := by decide +kernel
theorem dX4_count_115 : decode cX4_count 115 = .ok (.ireturn, 1) := by decide +kernel
theorem dX4_count_116 : decode cX4_count 116 = .ok (.aload_n 0, 1) := by decide +kernel
theorem dX4_count_117 : decode cX4_count 117 = .ok (.getfield 10, 3) := by decide +kernel
theorem dX4_count_120 : decode cX4_count 120 = .ok (.getfield 89, 3) := by decide +kernel
theorem dX4_count_123 : decode cX4_count 123 = .ok (.ireturn, 1) := by decide +kernel
theorem dX4_count_124 : decode cX4_count 124 = .ok (.aload_n 0, 1) := by decide +kernel
theorem dX4_count_125 : decode cX4_count 125 = .ok (.getfield 10, 3) := by decide +kernel
theorem dX4_count_128 : decode cX4_count 128 = .ok (.getfield 89, 3) := by decide +kernel
theorem dX4_count_131 : decode cX4_count 131 = .ok (.bipush (-6), 2) := by decide +kernel
theorem dX4_count_133 : decode cX4_count 133 = .ok (.if_icmp .ne 13, 3) := by decide +kernel
theorem dX4_count_136 : decode cX4_count 136 = .ok (.aload_n 0, 1) := by decide +kernel
theorem dX4_count_137 : decode cX4_count 137 = .ok (.getfield 10, 3) := by decide +kernel
theorem dX4_count_140 : decode cX4_count 140 = .ok (.getfield 150, 3) := by decide +kernel
theorem dX4_count_143 : decode cX4_count 143 = .ok (.goto 5, 3) := by decide +kernel
theorem dX4_count_146 : decode cX4_count 146 = .ok (.bipush (-6), 2) := by decide +kernel
theorem dX4_count_148 : decode cX4_count 148 = .ok (.ireturn, 1) := by decide +kernel
theorem dX4_count_149 : decode cX4_count 149 = .ok (.aload_n 0, 1) := by decide +kernel
theorem dX4_count_150 : decode cX4_count 150 = .ok (.getfield 10, 3) := by decide +kernel
theorem dX4_count_153 : decode cX4_count 153 = .ok (.getfield 105, 3) := by decide +kernel
theorem dX4_count_156 : decode cX4_count 156 = .ok (.ireturn, 1) := by decide +kernel
theorem dX4_count_157 : decode cX4_count 157 = .ok (.aload_n 0, 1) := by decide +kernel
theorem dX4_count_158 : decode cX4_count 158 = .ok (.getfield 10, 3) := by decide +kernel
theorem dX4_count_161 : decode cX4_count 161 = .ok (.invokevirtual 153, 3) := by decide +kernel
theorem dX4_count_164 : decode cX4_count 164 = .ok (.ireturn, 1) := by decide +kernel
theorem dX4_count_165 : decode cX4_count 165 = .ok (.aload_n 0, 1) := by decide +kernel
theorem dX4_count_166 : decode cX4_count 166 = .ok (.getfield 10, 3) := by decide +kernel
theorem dX4_count_169 : decode cX4_count 169 = .ok (.getfield 156, 3) := by decide +kernel
theorem dX4_count_172 : decode cX4_count 172 = .ok (.ireturn, 1) := by decide +kernel
theorem dX4_count_173 : decode cX4_count 173 = .ok (.aload_n 0, 1) := by decide +kernel
theorem dX4_count_174 : decode cX4_count 174 = .ok (.getfield 10, 3) := by decide +kernel
theorem dX4_count_177 : decode cX4_count 177 = .ok (.getfield 115, 3) := by decide +kernel
theorem dX4_count_180 : decode cX4_count 180 = .ok (.ireturn, 1) := by decide +kernel
theorem dX4_count_181 : decode cX4_count 181 = .ok (.aload_n 0, 1) := by decide +kernel
theorem dX4_count_182 : decode cX4_count 182 = .ok (.getfield 10, 3) := by decide +kernel
theorem dX4_count_185 : decode cX4_count 185 = .ok (.getfield 157, 3) := by decide +kernel
theorem dX4_count_188 : decode cX4_count 188 = .ok (.ireturn, 1) := by decide +kernel
theorem dX4_count_189 : decode cX4_count 189 = .ok (.aload_n 0, 1) := by decide +kernel
theorem dX4_count_190 : decode cX4_count 190 = .ok (.getfield 10, 3) := by decide +kernel
theorem dX4_count_193 : decode cX4_count 193 = .ok (.getfield 160, 3) := by decide +kernel
theorem dX4_count_196 : decode cX4_count 196 = .ok (.ireturn, 1) := by decide +kernel
theorem dX4_count_197 : decode cX4_count 197 = .ok (.aload_n 0, 1) := by decide +kernel
theorem dX4_count_198 : decode cX4_count 198 = .ok (.getfield 10, 3) := by decide +kernel
theorem dX4_count_201 : decode cX4_count 201 = .ok (.invokevirtual 163, 3) := by decide +kernel
theorem dX4_count_204 : decode cX4_count 204 = .ok (.ireturn, 1) := by decide +kernel
theorem dX4_count_205 : decode cX4_count 205 = .ok (.aload_n 0, 1) := by decide +kernel
theorem dX4_count_206 : decode cX4_count 206 = .ok (.getfield 10, 3) := by decide +kernel
theorem dX4_count_209 : decode cX4_count 209 = .ok (.getfield 109, 3) := by decide +kernel
theorem dX4_count_212 : decode cX4_count 212 = .ok (.ireturn, 1) := by decide +kernel
theorem dX4_count_213 : decode cX4_count 213 = .ok (.aload_n 0, 1) := by decide +kernel
theorem dX4_count_214 : decode cX4_count 214 = .ok (.getfield 33, 3) := by decide +kernel
theorem dX4_count_217 : decode cX4_count 217 = .ok (.getfield 73, 3) := by decide +kernel
theorem dX4_count_220 : decode cX4_count 220 = .ok (.ireturn, 1) := by decide +kernel
theorem dX4_count_221 : decode cX4_count 221 = .ok (.aload_n 0, 1) := by decide +kernel
theorem dX4_count_222 : decode cX4_count 222 = .ok (.getfield 22, 3) := by decide +kernel
theorem dX4_count_225 : decode cX4_count 225 = .ok (.getfield 166, 3) := by decide +kernel
theorem dX4_count_228 : decode cX4_count 228 = .ok (.ireturn, 1) := by decide +kernel
theorem dX4_count_229 : decode cX4_count 229 = .ok (.bipush (-2), 2) := by decide +kernel
theorem dX4_count_231 : decode cX4_count 231 = .ok (.ireturn, 1) := by decide +kernel
theorem dX4_next_0 : decode cX4_next 0 = .ok (.iload_n 1, 1) := by decide +kernel
theorem dX4_next_1 : decode cX4_next 1 = .ok (.ifCond .eq 11, 3) := by decide +kernel
theorem dX4_next_4 : decode cX4_next 4 = .ok (.iload_n 1, 1) := by decide +kernel
theorem dX4_next_5 : decode cX4_next 5 = .ok (.iconst 1, 1) := by decide +kernel
theorem dX4_next_6 : decode cX4_next 6 = .ok (.if_icmp .eq 6, 3) := by decide +kernel
theorem dX4_next_9 : decode cX4_next 9 = .ok (.bipush (-2), 2) := by decide +kernel
theorem dX4_next_11 : decode cX4_next 11 = .ok (.ireturn, 1) := by decide +kernel
theorem dX4_next_12 : decode cX4_next 12 = .ok (.aload_n 0, 1) := by decide +kernel
theorem dX4_next_13 : decode cX4_next 13 = .ok (.getfield 16, 3) := by decide +kernel
theorem dX4_next_16 : decode cX4_next 16 = .ok (.aload_n 0, 1) := by decide +kernel
theorem dX4_next_17 : decode cX4_next 17 = .ok (.getfield 10, 3) := by decide +kernel
theorem dX4_next_20 : decode cX4_next 20 = .ok (.invokevirtual 167, 3) := by decide +kernel
theorem dX4_next_23 : decode cX4_next 23 = .ok (.iconst 1, 1) := by decide +kernel
theorem dX4_next_24 : decode cX4_next 24 = .ok (.istore_n 2, 1) := by decide +kernel
theorem dX4_next_25 : decode cX4_next 25 = .ok (.iload_n 2, 1) := by decide +kernel
theorem dX4_next_26 : decode cX4_next 26 = .ok (.sipush 500, 3) := by decide +kernel
theorem dX4_next_29 : decode cX4_next 29 = .ok (.if_icmp .gt 33, 3) := by decide +kernel
theorem dX4_next_32 : decode cX4_next 32 = .ok (.aload_n 0, 1) := by decide +kernel
theorem dX4_next_33 : decode cX4_next 33 = .ok (.getfield 16, 3) := by decide +kernel
theorem dX4_next_36 : decode cX4_next 36 = .ok (.invokevirtual 170, 3) := by decide +kernel
theorem dX4_next_39 : decode cX4_next 39 = .ok (.istore_n 3, 1) := by decide +kernel
theorem dX4_next_40 : decode cX4_next 40 = .ok (.iload_n 3, 1) := by decide +kernel
theorem dX4_next_41 : decode cX4_next 41 = .ok (.bipush (-6), 2) := by decide +kernel
theorem dX4_next_43 : decode cX4_next 43 = .ok (.if_icmp .eq 13, 3) := by decide +kernel
theorem dX4_next_46 : decode cX4_next 46 = .ok (.iload_n 1, 1) := by decide +kernel
theorem dX4_next_47 : decode cX4_next 47 = .ok (.ifCond .ne 7, 3) := by decide +kernel
theorem dX4_next_50 : decode cX4_next 50 = .ok (.iload_n 3, 1) := by decide +kernel
theorem dX4_next_51 : decode cX4_next 51 = .ok (.goto 4, 3) := by decide +kernel
theorem dX4_next_54 : decode cX4_next 54 = .ok (.iload_n 2, 1) := by decide +kernel
theorem dX4_next_55 : decode cX4_next 55 = .ok (.ireturn, 1) := by decide +kernel
theorem dX4_next_56 : decode cX4_next 56 = .ok (.iinc 2 1, 3) := by decide +kernel
theorem dX4_next_59 : decode cX4_next 59 = .ok (.goto (-34), 3) := by decide +kernel
theorem dX4_next_62 : decode cX4_next 62 = .ok (.bipush (-6), 2) := by decide +kernel
theorem dX4_next_64 : decode cX4_next 64 = .ok (.ireturn, 1) := by decide +kernel
theorem dX4_untilEmpty_0 : decode cX4_untilEmpty 0 = .ok (.aload_n 0, 1) := by decide +kernel
theorem dX4_untilEmpty_1 : decode cX4_untilEmpty 1 = .ok (.getfield 16, 3) := by decide +kernel
theorem dX4_untilEmpty_4 : decode cX4_untilEmpty 4 = .ok (.aload_n 0, 1) := by decide +kernel
theorem dX4_untilEmpty_5 : decode cX4_untilEmpty 5 = .ok (.getfield 10, 3) := by decide +kernel
theorem dX4_untilEmpty_8 : decode cX4_untilEmpty 8 = .ok (.invokevirtual 167, 3) := by decide +kernel
theorem dX4_untilEmpty_11 : decode cX4_untilEmpty 11 = .ok (.iconst 0, 1) := by decide +kernel
theorem dX4_untilEmpty_12 : decode cX4_untilEmpty 12 = .ok (.istore_n 1, 1) := by decide +kernel
theorem dX4_untilEmpty_13 : decode cX4_untilEmpty 13 = .ok (.iload_n 1, 1) := by decide +kernel
theorem dX4_untilEmpty_14 : decode cX4_untilEmpty 14 = .ok (.sipush 2000, 3) := by decide +kernel
theorem dX4_untilEmpty_17 : decode cX4_untilEmpty 17 = .ok (.if_icmp .gt 29, 3) := by decide +kernel
theorem dX4_untilEmpty_20 : decode cX4_untilEmpty 20 = .ok (.aload_n 0, 1) := by decide +kernel
theorem dX4_untilEmpty_21 : decode cX4_untilEmpty 21 = .ok (.getfield 16, 3) := by decide +kernel
theorem dX4_untilEmpty_24 : decode cX4_untilEmpty 24 = .ok (.getfield 105, 3) := by decide +kernel
theorem dX4_untilEmpty_27 : decode cX4_untilEmpty 27 = .ok (.ifCond .ne 5, 3) := by decide +kernel
theorem dX4_untilEmpty_30 : decode cX4_untilEmpty 30 = .ok (.iload_n 1, 1) := by decide +kernel
theorem dX4_untilEmpty_31 : decode cX4_untilEmpty 31 = .ok (.ireturn, 1) := by decide +kernel
theorem dX4_untilEmpty_32 : decode cX4_untilEmpty 32 = .ok (.aload_n 0, 1) := by decide +kernel
theorem dX4_untilEmpty_33 : decode cX4_untilEmpty 33 = .ok (.getfield 16, 3) := by decide +kernel
theorem dX4_untilEmpty_36 : decode cX4_untilEmpty 36 = .ok (.invokevirtual 170, 3) := by decide +kernel
theorem dX4_untilEmpty_39 : decode cX4_untilEmpty 39 = .ok (.pop, 1) := by decide +kernel
theorem dX4_untilEmpty_40 : decode cX4_untilEmpty 40 = .ok (.iinc 1 1, 3) := by decide +kernel
theorem dX4_untilEmpty_43 : decode cX4_untilEmpty 43 = .ok (.goto (-30), 3) := by decide +kernel
theorem dX4_untilEmpty_46 : decode cX4_untilEmpty 46 = .ok (.bipush (-6), 2) := by decide +kernel
theorem dX4_untilEmpty_48 : decode cX4_untilEmpty 48 = .ok (.ireturn, 1) := by decide +kernel
theorem dX4_ifPassed_0 : decode cX4_ifPassed 0 = .ok (.iload_n 1, 1) := by decide +kernel
theorem dX4_ifPassed_1 : decode cX4_ifPassed 1 = .ok (.iconst 1, 1) := by decide +kernel
theorem dX4_ifPassed_2 : decode cX4_ifPassed 2 = .ok (.if_icmp .lt 19, 3) := by decide +kernel
theorem dX4_ifPassed_5 : decode cX4_ifPassed 5 = .ok (.iload_n 1, 1) := by decide +kernel
theorem dX4_ifPassed_6 : decode cX4_ifPassed 6 = .ok (.sipush 500, 3) := by decide +kernel
theorem dX4_ifPassed_9 : decode cX4_ifPassed 9 = .ok (.if_icmp .gt 12, 3) := by decide +kernel
theorem dX4_ifPassed_12 : decode cX4_ifPassed 12 = .ok (.iload_n 2, 1) := by decide +kernel
theorem dX4_ifPassed_13 : decode cX4_ifPassed 13 = .ok (.ifCond .lt 8, 3) := by decide +kernel
theorem dX4_ifPassed_16 : decode cX4_ifPassed 16 = .ok (.iload_n 2, 1) := by decide +kernel
theorem dX4_ifPassed_17 : decode cX4_ifPassed 17 = .ok (.iconst 4, 1) := by decide +kernel
theorem dX4_ifPassed_18 : decode cX4_ifPassed 18 = .ok (.if_icmp .le 6, 3) := by decide +kernel
theorem dX4_ifPassed_21 : decode cX4_ifPassed 21 = .ok (.bipush (-2), 2) := by decide +kernel
theorem dX4_ifPassed_23 : decode cX4_ifPassed 23 = .ok (.ireturn, 1) := by decide +kernel
theorem dX4_ifPassed_24 : decode cX4_ifPassed 24 = .ok (.aload_n 0, 1) := by decide +kernel
theorem dX4_ifPassed_25 : decode cX4_ifPassed 25 = .ok (.getfield 16, 3) := by decide +kernel
theorem dX4_ifPassed_28 : decode cX4_ifPassed 28 = .ok (.aload_n 0, 1) := by decide +kernel
theorem dX4_ifPassed_29 : decode cX4_ifPassed 29 = .ok (.getfield 10, 3) := by decide +kernel
theorem dX4_ifPassed_32 : decode cX4_ifPassed 32 = .ok (.invokevirtual 167, 3) := by decide +kernel
theorem dX4_ifPassed_35 : decode cX4_ifPassed 35 = .ok (.aload_n 0, 1) := by decide +kernel
theorem dX4_ifPassed_36 : decode cX4_ifPassed 36 = .ok (.getfield 16, 3) := by decide +kernel
theorem dX4_ifPassed_39 : decode cX4_ifPassed 39 = .ok (.iload_n 1, 1) := by decide +kernel
theorem dX4_ifPassed_40 : decode cX4_ifPassed 40 = .ok (.invokevirtual 118, 3) := by decide +kernel
theorem dX4_ifPassed_43 : decode cX4_ifPassed 43 = .ok (.iload_n 2, 1) := by decide +kernel
theorem dX4_ifPassed_44 : decode cX4_ifPassed 44 = .ok (.tableswitch 88 0 3 #[32, 48, 64, 80], 32) := by decide +kernel
theorem dX4_ifPassed_76 : decode cX4_ifPassed 76 = .ok (.aload_n 0, 1) := by decide +kernel
theorem dX4_ifPassed_77 : decode cX4_ifPassed 77 = .ok (.getfield 16, 3) := by decide +kernel
theorem dX4_ifPassed_80 : decode cX4_ifPassed 80 = .ok (.getfield 115, 3) := by decide +kernel
theorem dX4_ifPassed_83 : decode cX4_ifPassed 83 = .ok (.aload_n 0, 1) := by decide +kernel
theorem dX4_ifPassed_84 : decode cX4_ifPassed 84 = .ok (.getfield 10, 3) := by decide +kernel
theorem dX4_ifPassed_87 : decode cX4_ifPassed 87 = .ok (.getfield 115, 3) := by decide +kernel
theorem dX4_ifPassed_90 : decode cX4_ifPassed 90 = .ok (.isub, 1) := by decide +kernel
theorem dX4_ifPassed_91 : decode cX4_ifPassed 91 = .ok (.ireturn, 1) := by decide +kernel
theorem dX4_ifPassed_92 : decode cX4_ifPassed 92 = .ok (.aload_n 0, 1) := by decide +kernel
theorem dX4_ifPassed_93 : decode cX4_ifPassed 93 = .ok (.getfield 16, 3) := by decide +kernel
theorem dX4_ifPassed_96 : decode cX4_ifPassed 96 = .ok (.getfield 156, 3) := by decide +kernel
theorem dX4_ifPassed_99 : decode cX4_ifPassed 99 = .ok (.aload_n 0, 1) := by decide +kernel
theorem dX4_ifPassed_100 : decode cX4_ifPassed 100 = .ok (.getfield 10, 3) := by decide +kernel
theorem dX4_ifPassed_103 : decode cX4_ifPassed 103 = .ok (.getfield 156, 3) := by decide +kernel
theorem dX4_ifPassed_106 : decode cX4_ifPassed 106 = .ok (.isub, 1) := by decide +kernel
theorem dX4_ifPassed_107 : decode cX4_ifPassed 107 = .ok (.ireturn, 1) := by decide +kernel
theorem dX4_ifPassed_108 : decode cX4_ifPassed 108 = .ok (.aload_n 0, 1) := by decide +kernel
theorem dX4_ifPassed_109 : decode cX4_ifPassed 109 = .ok (.getfield 16, 3) := by decide +kernel
theorem dX4_ifPassed_112 : decode cX4_ifPassed 112 = .ok (.getfield 160, 3) := by decide +kernel
theorem dX4_ifPassed_115 : decode cX4_ifPassed 115 = .ok (.aload_n 0, 1) := by decide +kernel
theorem dX4_ifPassed_116 : decode cX4_ifPassed 116 = .ok (.getfield 10, 3) := by decide +kernel
theorem dX4_ifPassed_119 : decode cX4_ifPassed 119 = .ok (.getfield 160, 3) := by decide +kernel
theorem dX4_ifPassed_122 : decode cX4_ifPassed 122 = .ok (.isub, 1) := by decide +kernel
theorem dX4_ifPassed_123 : decode cX4_ifPassed 123 = .ok (.ireturn, 1) := by decide +kernel
theorem dX4_ifPassed_124 : decode cX4_ifPassed 124 = .ok (.aload_n 0, 1) := by decide +kernel
theorem dX4_ifPassed_125 : decode cX4_ifPassed 125 = .ok (.getfield 16, 3) := by decide +kernel
theorem dX4_ifPassed_128 : decode cX4_ifPassed 128 = .ok (.getfield 147, 3) := by decide +kernel
theorem dX4_ifPassed_131 : decode cX4_ifPassed 131 = .ok (.ireturn, 1) := by decide +kernel
theorem dX4_ifPassed_132 : decode cX4_ifPassed 132 = .ok (.aload_n 0, 1) := by decide +kernel
theorem dX4_ifPassed_133 : decode cX4_ifPassed 133 = .ok (.getfield 16, 3) := by decide +kernel
theorem dX4_ifPassed_136 : decode cX4_ifPassed 136 = .ok (.getfield 89, 3) := by decide +kernel
theorem dX4_ifPassed_139 : decode cX4_ifPassed 139 = .ok (.ireturn, 1) := by decide +kernel
theorem dX4_bestPlace_0 : decode cX4_bestPlace 0 = .ok (.aload_n 0, 1) := by decide +kernel
theorem dX4_bestPlace_1 : decode cX4_bestPlace 1 = .ok (.getfield 10, 3) := by decide +kernel
theorem dX4_bestPlace_4 : decode cX4_bestPlace 4 = .ok (.iload_n 1, 1) := by decide +kernel
theorem dX4_bestPlace_5 : decode cX4_bestPlace 5 = .ok (.invokevirtual 76, 3) := by decide +kernel
theorem dX4_bestPlace_8 : decode cX4_bestPlace 8 = .ok (.ifnonnull 5, 3) := by decide +kernel
theorem dX4_bestPlace_11 : decode cX4_bestPlace 11 = .ok (.iconst (-1), 1) := by decide +kernel
theorem dX4_bestPlace_12 : decode cX4_bestPlace 12 = .ok (.ireturn, 1) := by decide +kernel
theorem dX4_bestPlace_13 : decode cX4_bestPlace 13 = .ok (.iload_n 2, 1) := by decide +kernel
theorem dX4_bestPlace_14 : decode cX4_bestPlace 14 = .ok (.ifCond .eq 11, 3) := by decide +kernel
theorem dX4_bestPlace_17 : decode cX4_bestPlace 17 = .ok (.iload_n 2, 1) := by decide +kernel
theorem dX4_bestPlace_18 : decode cX4_bestPlace 18 = .ok (.iconst 1, 1) := by decide +kernel
theorem dX4_bestPlace_19 : decode cX4_bestPlace 19 = .ok (.if_icmp .eq 6, 3) := by decide +kernel
theorem dX4_bestPlace_22 : decode cX4_bestPlace 22 = .ok (.bipush (-2), 2) := by decide +kernel
theorem dX4_bestPlace_24 : decode cX4_bestPlace 24 = .ok (.ireturn, 1) := by decide +kernel
theorem dX4_bestPlace_25 : decode cX4_bestPlace 25 = .ok (.iconst 0, 1) := by decide +kernel
theorem dX4_bestPlace_26 : decode cX4_bestPlace 26 = .ok (.istore_n 3, 1) := by decide +kernel
theorem dX4_bestPlace_27 : decode cX4_bestPlace 27 = .ok (.iconst (-1), 1) := by decide +kernel
theorem dX4_bestPlace_28 : decode cX4_bestPlace 28 = .ok (.istore 4, 2) := by decide +kernel
theorem dX4_bestPlace_30 : decode cX4_bestPlace 30 = .ok (.iconst 0, 1) := by decide +kernel
theorem dX4_bestPlace_31 : decode cX4_bestPlace 31 = .ok (.istore 5, 2) := by decide +kernel
theorem dX4_bestPlace_33 : decode cX4_bestPlace 33 = .ok (.iload 5, 2) := by decide +kernel
theorem dX4_bestPlace_35 : decode cX4_bestPlace 35 = .ok (.aload_n 0, 1) := by decide +kernel
theorem dX4_bestPlace_36 : decode cX4_bestPlace 36 = .ok (.getfield 10, 3) := by decide +kernel
theorem dX4_bestPlace_39 : decode cX4_bestPlace 39 = .ok (.getfield 55, 3) := by decide +kernel
theorem dX4_bestPlace_42 : decode cX4_bestPlace 42 = .ok (.if_icmp .ge 32, 3) := by decide +kernel
theorem dX4_bestPlace_45 : decode cX4_bestPlace 45 = .ok (.aload_n 0, 1) := by decide +kernel
theorem dX4_bestPlace_46 : decode cX4_bestPlace 46 = .ok (.iload_n 1, 1) := by decide +kernel
theorem dX4_bestPlace_47 : decode cX4_bestPlace 47 = .ok (.iload 5, 2) := by decide +kernel
theorem dX4_bestPlace_49 : decode cX4_bestPlace 49 = .ok (.invokevirtual 173, 3) := by decide +kernel
theorem dX4_bestPlace_52 : decode cX4_bestPlace 52 = .ok (.istore 6, 2) := by decide +kernel
theorem dX4_bestPlace_54 : decode cX4_bestPlace 54 = .ok (.iload 6, 2) := by decide +kernel
theorem dX4_bestPlace_56 : decode cX4_bestPlace 56 = .ok (.iload 4, 2) := by decide +kernel
theorem dX4_bestPlace_58 : decode cX4_bestPlace 58 = .ok (.if_icmp .le 10, 3) := by decide +kernel
theorem dX4_bestPlace_61 : decode cX4_bestPlace 61 = .ok (.iload 5, 2) := by decide +kernel
theorem dX4_bestPlace_63 : decode cX4_bestPlace 63 = .ok (.istore_n 3, 1) := by decide +kernel
theorem dX4_bestPlace_64 : decode cX4_bestPlace 64 = .ok (.iload 6, 2) := by decide +kernel
theorem dX4_bestPlace_66 : decode cX4_bestPlace 66 = .ok (.istore 4, 2) := by decide +kernel
theorem dX4_bestPlace_68 : decode cX4_bestPlace 68 = .ok (.iinc 5 1, 3) := by decide +kernel
theorem dX4_bestPlace_71 : decode cX4_bestPlace 71 = .ok (.goto (-38), 3) := by decide +kernel
theorem dX4_bestPlace_74 : decode cX4_bestPlace 74 = .ok (.iload_n 2, 1) := by decide +kernel
theorem dX4_bestPlace_75 : decode cX4_bestPlace 75 = .ok (.ifCond .ne 7, 3) := by decide +kernel
theorem dX4_bestPlace_78 : decode cX4_bestPlace 78 = .ok (.iload_n 3, 1) := by decide +kernel
theorem dX4_bestPlace_79 : decode cX4_bestPlace 79 = .ok (.goto 5, 3) := by decide +kernel
theorem dX4_bestPlace_82 : decode cX4_bestPlace 82 = .ok (.iload 4, 2) := by decide +kernel
theorem dX4_bestPlace_84 : decode cX4_bestPlace 84 = .ok (.ireturn, 1) := by decide +kernel
theorem dX4_put_0 : decode cX4_put 0 = .ok (.lload_n 1, 1) := by decide +kernel
theorem dX4_put_1 : decode cX4_put 1 = .ok (.invokestatic 177, 3) := by decide +kernel
theorem dX4_put_4 : decode cX4_put 4 = .ok (.istore_n 3, 1) := by decide +kernel
theorem dX4_put_5 : decode cX4_put 5 = .ok (.iload_n 3, 1) := by decide +kernel
theorem dX4_put_6 : decode cX4_put 6 = .ok (.ifCond .ne 6, 3) := by decide +kernel
theorem dX4_put_9 : decode cX4_put 9 = .ok (.bipush (-2), 2) := by decide +kernel
theorem dX4_put_11 : decode cX4_put 11 = .ok (.ireturn, 1) := by decide +kernel
theorem dX4_put_12 : decode cX4_put 12 = .ok (.aload_n 0, 1) := by decide +kernel
theorem dX4_put_13 : decode cX4_put 13 = .ok (.getfield 33, 3) := by decide +kernel
theorem dX4_put_16 : decode cX4_put 16 = .ok (.getfield 73, 3) := by decide +kernel
theorem dX4_put_19 : decode cX4_put 19 = .ok (.iload_n 3, 1) := by decide +kernel
theorem dX4_put_20 : decode cX4_put 20 = .ok (.iadd, 1) := by decide +kernel
theorem dX4_put_21 : decode cX4_put 21 = .ok (.bipush 60, 2) := by decide +kernel
theorem dX4_put_23 : decode cX4_put 23 = .ok (.if_icmp .le 6, 3) := by decide +kernel
theorem dX4_put_26 : decode cX4_put 26 = .ok (.bipush (-4), 2) := by decide +kernel
theorem dX4_put_28 : decode cX4_put 28 = .ok (.ireturn, 1) := by decide +kernel
theorem dX4_put_29 : decode cX4_put 29 = .ok (.iload_n 3, 1) := by decide +kernel
theorem dX4_put_30 : decode cX4_put 30 = .ok (.iconst 1, 1) := by decide +kernel
theorem dX4_put_31 : decode cX4_put 31 = .ok (.isub, 1) := by decide +kernel
theorem dX4_put_32 : decode cX4_put 32 = .ok (.istore 4, 2) := by decide +kernel
theorem dX4_put_34 : decode cX4_put 34 = .ok (.iload 4, 2) := by decide +kernel
theorem dX4_put_36 : decode cX4_put 36 = .ok (.ifCond .lt 29, 3) := by decide +kernel
theorem dX4_put_39 : decode cX4_put 39 = .ok (.aload_n 0, 1) := by decide +kernel
theorem dX4_put_40 : decode cX4_put 40 = .ok (.getfield 33, 3) := by decide +kernel
theorem dX4_put_43 : decode cX4_put 43 = .ok (.lload_n 1, 1) := by decide +kernel
theorem dX4_put_44 : decode cX4_put 44 = .ok (.bipush 8, 2) := by decide +kernel
theorem dX4_put_46 : decode cX4_put 46 = .ok (.iload 4, 2) := by decide +kernel
theorem dX4_put_48 : decode cX4_put 48 = .ok (.imul, 1) := by decide +kernel
theorem dX4_put_49 : decode cX4_put 49 = .ok (.lushr, 1) := by decide +kernel
theorem dX4_put_50 : decode cX4_put 50 = .ok (.ldc2_w 181, 3) := by decide +kernel
theorem dX4_put_53 : decode cX4_put 53 = .ok (.land, 1) := by decide +kernel
theorem dX4_put_54 : decode cX4_put 54 = .ok (.l2i, 1) := by decide +kernel
theorem dX4_put_55 : decode cX4_put 55 = .ok (.i2c, 1) := by decide +kernel
theorem dX4_put_56 : decode cX4_put 56 = .ok (.invokevirtual 183, 3) := by decide +kernel
theorem dX4_put_59 : decode cX4_put 59 = .ok (.iinc 4 (-1), 3) := by decide +kernel
theorem dX4_put_62 : decode cX4_put 62 = .ok (.goto (-28), 3) := by decide +kernel
theorem dX4_put_65 : decode cX4_put 65 = .ok (.aload_n 0, 1) := by decide +kernel
theorem dX4_put_66 : decode cX4_put 66 = .ok (.getfield 33, 3) := by decide +kernel
theorem dX4_put_69 : decode cX4_put 69 = .ok (.getfield 73, 3) := by decide +kernel
theorem dX4_put_72 : decode cX4_put 72 = .ok (.ireturn, 1) := by decide +kernel
theorem dX4_wipe_0 : decode cX4_wipe 0 = .ok (.aload_n 0, 1) := by decide +kernel
theorem dX4_wipe_1 : decode cX4_wipe 1 = .ok (.getfield 33, 3) := by decide +kernel
theorem dX4_wipe_4 : decode cX4_wipe 4 = .ok (.getfield 73, 3) := by decide +kernel
theorem dX4_wipe_7 : decode cX4_wipe 7 = .ok (.istore_n 1, 1) := by decide +kernel
theorem dX4_wipe_8 : decode cX4_wipe 8 = .ok (.aload_n 0, 1) := by decide +kernel
theorem dX4_wipe_9 : decode cX4_wipe 9 = .ok (.getfield 33, 3) := by decide +kernel
theorem dX4_wipe_12 : decode cX4_wipe 12 = .ok (.iconst 0, 1) := by decide +kernel
theorem dX4_wipe_13 : decode cX4_wipe 13 = .ok (.putfield 73, 3) := by decide +kernel
theorem dX4_wipe_16 : decode cX4_wipe 16 = .ok (.iload_n 1, 1) := by decide +kernel
theorem dX4_wipe_17 : decode cX4_wipe 17 = .ok (.ireturn, 1) := by decide +kernel
theorem dX4_fault_0 : decode cX4_fault 0 = .ok (.aload_n 0, 1) := by decide +kernel
theorem dX4_fault_1 : decode cX4_fault 1 = .ok (.getfield 33, 3) := by decide +kernel
theorem dX4_fault_4 : decode cX4_fault 4 = .ok (.invokevirtual 63, 3) := by decide +kernel
theorem dX4_fault_7 : decode cX4_fault 7 = .ok (.ireturn, 1) := by decide +kernel
theorem dX4_undo_0 : decode cX4_undo 0 = .ok (.aload_n 0, 1) := by decide +kernel
theorem dX4_undo_1 : decode cX4_undo 1 = .ok (.getfield 22, 3) := by decide +kernel
theorem dX4_undo_4 : decode cX4_undo 4 = .ok (.getfield 166, 3) := by decide +kernel
theorem dX4_undo_7 : decode cX4_undo 7 = .ok (.ifCond .ne 6, 3) := by decide +kernel
theorem dX4_undo_10 : decode cX4_undo 10 = .ok (.bipush (-5), 2) := by decide +kernel
theorem dX4_undo_12 : decode cX4_undo 12 = .ok (.ireturn, 1) := by decide +kernel
theorem dX4_undo_13 : decode cX4_undo 13 = .ok (.aload_n 0, 1) := by decide +kernel
theorem dX4_undo_14 : decode cX4_undo 14 = .ok (.getfield 22, 3) := by decide +kernel
theorem dX4_undo_17 : decode cX4_undo 17 = .ok (.aload_n 0, 1) := by decide +kernel
theorem dX4_undo_18 : decode cX4_undo 18 = .ok (.getfield 10, 3) := by decide +kernel
theorem dX4_undo_21 : decode cX4_undo 21 = .ok (.invokevirtual 187, 3) := by decide +kernel
theorem dX4_undo_24 : decode cX4_undo 24 = .ok (.aload_n 0, 1) := by decide +kernel
theorem dX4_undo_25 : decode cX4_undo 25 = .ok (.getfield 22, 3) := by decide +kernel
theorem dX4_undo_28 : decode cX4_undo 28 = .ok (.getfield 166, 3) := by decide +kernel
theorem dX4_undo_31 : decode cX4_undo 31 = .ok (.ireturn, 1) := by decide +kernel
theorem dX4_save_0 : decode cX4_save 0 = .ok (.iload_n 1, 1) := by decide +kernel
theorem dX4_save_1 : decode cX4_save 1 = .ok (.invokestatic 190, 3) := by decide +kernel
theorem dX4_save_4 : decode cX4_save 4 = .ok (.ifCond .ne 6, 3) := by decide +kernel
theorem dX4_save_7 : decode cX4_save 7 = .ok (.bipush (-2), 2) := by decide +kernel
theorem dX4_save_9 : decode cX4_save 9 = .ok (.ireturn, 1) := by decide +kernel
theorem dX4_save_10 : decode cX4_save 10 = .ok (.aload_n 0, 1) := by decide +kernel
theorem dX4_save_11 : decode cX4_save 11 = .ok (.getfield 26, 3) := by decide +kernel
theorem dX4_save_14 : decode cX4_save 14 = .ok (.iload_n 1, 1) := by decide +kernel
theorem dX4_save_15 : decode cX4_save 15 = .ok (.aaload, 1) := by decide +kernel
theorem dX4_save_16 : decode cX4_save 16 = .ok (.ifnonnull 16, 3) := by decide +kernel
theorem dX4_save_19 : decode cX4_save 19 = .ok (.aload_n 0, 1) := by decide +kernel
theorem dX4_save_20 : decode cX4_save 20 = .ok (.getfield 26, 3) := by decide +kernel
theorem dX4_save_23 : decode cX4_save 23 = .ok (.iload_n 1, 1) := by decide +kernel
theorem dX4_save_24 : decode cX4_save 24 = .ok (.new 7, 3) := by decide +kernel
theorem dX4_save_27 : decode cX4_save 27 = .ok (.dup, 1) := by decide +kernel
theorem dX4_save_28 : decode cX4_save 28 = .ok (.invokespecial 9, 3) := by decide +kernel
theorem dX4_save_31 : decode cX4_save 31 = .ok (.aastore, 1) := by decide +kernel
theorem dX4_save_32 : decode cX4_save 32 = .ok (.aload_n 0, 1) := by decide +kernel
theorem dX4_save_33 : decode cX4_save 33 = .ok (.getfield 26, 3) := by decide +kernel
theorem dX4_save_36 : decode cX4_save 36 = .ok (.iload_n 1, 1) := by decide +kernel
theorem dX4_save_37 : decode cX4_save 37 = .ok (.aaload, 1) := by decide +kernel
theorem dX4_save_38 : decode cX4_save 38 = .ok (.aload_n 0, 1) := by decide +kernel
theorem dX4_save_39 : decode cX4_save 39 = .ok (.getfield 10, 3) := by decide +kernel
theorem dX4_save_42 : decode cX4_save 42 = .ok (.invokevirtual 167, 3) := by decide +kernel
theorem dX4_save_45 : decode cX4_save 45 = .ok (.aload_n 0, 1) := by decide +kernel
theorem dX4_save_46 : decode cX4_save 46 = .ok (.getfield 10, 3) := by decide +kernel
theorem dX4_save_49 : decode cX4_save 49 = .ok (.getfield 112, 3) := by decide +kernel
theorem dX4_save_52 : decode cX4_save 52 = .ok (.ireturn, 1) := by decide +kernel
theorem dX4_restore_0 : decode cX4_restore 0 = .ok (.iload_n 1, 1) := by decide +kernel
theorem dX4_restore_1 : decode cX4_restore 1 = .ok (.invokestatic 190, 3) := by decide +kernel
theorem dX4_restore_4 : decode cX4_restore 4 = .ok (.ifCond .ne 6, 3) := by decide +kernel
theorem dX4_restore_7 : decode cX4_restore 7 = .ok (.bipush (-2), 2) := by decide +kernel
theorem dX4_restore_9 : decode cX4_restore 9 = .ok (.ireturn, 1) := by decide +kernel
theorem dX4_restore_10 : decode cX4_restore 10 = .ok (.aload_n 0, 1) := by decide +kernel
theorem dX4_restore_11 : decode cX4_restore 11 = .ok (.getfield 26, 3) := by decide +kernel
theorem dX4_restore_14 : decode cX4_restore 14 = .ok (.iload_n 1, 1) := by decide +kernel
theorem dX4_restore_15 : decode cX4_restore 15 = .ok (.aaload, 1) := by decide +kernel
theorem dX4_restore_16 : decode cX4_restore 16 = .ok (.astore_n 2, 1) := by decide +kernel
theorem dX4_restore_17 : decode cX4_restore 17 = .ok (.aload_n 2, 1) := by decide +kernel
theorem dX4_restore_18 : decode cX4_restore 18 = .ok (.ifnonnull 6, 3) := by decide +kernel
theorem dX4_restore_21 : decode cX4_restore 21 = .ok (.bipush (-5), 2) := by decide +kernel
theorem dX4_restore_23 : decode cX4_restore 23 = .ok (.ireturn, 1) := by decide +kernel
theorem dX4_restore_24 : decode cX4_restore 24 = .ok (.aload_n 0, 1) := by decide +kernel
theorem dX4_restore_25 : decode cX4_restore 25 = .ok (.getfield 22, 3) := by decide +kernel
theorem dX4_restore_28 : decode cX4_restore 28 = .ok (.aload_n 0, 1) := by decide +kernel
theorem dX4_restore_29 : decode cX4_restore 29 = .ok (.getfield 10, 3) := by decide +kernel
theorem dX4_restore_32 : decode cX4_restore 32 = .ok (.invokevirtual 48, 3) := by decide +kernel
theorem dX4_restore_35 : decode cX4_restore 35 = .ok (.aload_n 0, 1) := by decide +kernel
theorem dX4_restore_36 : decode cX4_restore 36 = .ok (.getfield 10, 3) := by decide +kernel
theorem dX4_restore_39 : decode cX4_restore 39 = .ok (.aload_n 2, 1) := by decide +kernel
theorem dX4_restore_40 : decode cX4_restore 40 = .ok (.invokevirtual 167, 3) := by decide +kernel
theorem dX4_restore_43 : decode cX4_restore 43 = .ok (.aload_n 0, 1) := by decide +kernel
theorem dX4_restore_44 : decode cX4_restore 44 = .ok (.getfield 10, 3) := by decide +kernel
theorem dX4_restore_47 : decode cX4_restore 47 = .ok (.getfield 112, 3) := by decide +kernel
theorem dX4_restore_50 : decode cX4_restore 50 = .ok (.ireturn, 1) := by decide +kernel
theorem dX4_isSetting_0 : decode cX4_isSetting 0 = .ok (.iload_n 0, 1) := by decide +kernel
theorem dX4_isSetting_1 : decode cX4_isSetting 1 = .ok (.ifCond .lt 15, 3) := by decide +kernel
theorem dX4_isSetting_4 : decode cX4_isSetting 4 = .ok (.iload_n 0, 1) := by decide +kernel
theorem dX4_isSetting_5 : decode cX4_isSetting 5 = .ok (.getstatic 193, 3) := by decide +kernel
theorem dX4_isSetting_8 : decode cX4_isSetting 8 = .ok (.arraylength, 1) := by decide +kernel
theorem dX4_isSetting_9 : decode cX4_isSetting 9 = .ok (.if_icmp .ge 7, 3) := by decide +kernel
theorem dX4_isSetting_12 : decode cX4_isSetting 12 = .ok (.iconst 1, 1) := by decide +kernel
theorem dX4_isSetting_13 : decode cX4_isSetting 13 = .ok (.goto 4, 3) := by decide +kernel
theorem dX4_isSetting_16 : decode cX4_isSetting 16 = .ok (.iconst 0, 1) := by decide +kernel
theorem dX4_isSetting_17 : decode cX4_isSetting 17 = .ok (.ireturn, 1) := by decide +kernel
theorem dX4_isSlot_0 : decode cX4_isSlot 0 = .ok (.iload_n 0, 1) := by decide +kernel
theorem dX4_isSlot_1 : decode cX4_isSlot 1 = .ok (.ifCond .lt 12, 3) := by decide +kernel
theorem dX4_isSlot_4 : decode cX4_isSlot 4 = .ok (.iload_n 0, 1) := by decide +kernel
theorem dX4_isSlot_5 : decode cX4_isSlot 5 = .ok (.iconst 2, 1) := by decide +kernel
theorem dX4_isSlot_6 : decode cX4_isSlot 6 = .ok (.if_icmp .ge 7, 3) := by decide +kernel
theorem dX4_isSlot_9 : decode cX4_isSlot 9 = .ok (.iconst 1, 1) := by decide +kernel
theorem dX4_isSlot_10 : decode cX4_isSlot 10 = .ok (.goto 4, 3) := by decide +kernel
theorem dX4_isSlot_13 : decode cX4_isSlot 13 = .ok (.iconst 0, 1) := by decide +kernel
theorem dX4_isSlot_14 : decode cX4_isSlot 14 = .ok (.ireturn, 1) := by decide +kernel
theorem dX4_daysAsGuardianIfMoved_0 : decode cX4_daysAsGuardianIfMoved 0 = .ok (.aload_n 0, 1) := by decide +kernel
theorem dX4_daysAsGuardianIfMoved_1 : decode cX4_daysAsGuardianIfMoved 1 = .ok (.getfield 16, 3) := by decide +kernel
theorem dX4_daysAsGuardianIfMoved_4 : decode cX4_daysAsGuardianIfMoved 4 = .ok (.aload_n 0, 1) := by decide +kernel
theorem dX4_daysAsGuardianIfMoved_5 : decode cX4_daysAsGuardianIfMoved 5 = .ok (.getfield 10, 3) := by decide +kernel
theorem dX4_daysAsGuardianIfMoved_8 : decode cX4_daysAsGuardianIfMoved 8 = .ok (.invokevirtual 167, 3) := by decide +kernel
theorem dX4_daysAsGuardianIfMoved_11 : decode cX4_daysAsGuardianIfMoved 11 = .ok (.aload_n 0, 1) := by decide +kernel
theorem dX4_daysAsGuardianIfMoved_12 : decode cX4_daysAsGuardianIfMoved 12 = .ok (.getfield 16, 3) := by decide +kernel
theorem dX4_daysAsGuardianIfMoved_15 : decode cX4_daysAsGuardianIfMoved 15 = .ok (.iload_n 1, 1) := by decide +kernel
theorem dX4_daysAsGuardianIfMoved_16 : decode cX4_daysAsGuardianIfMoved 16 = .ok (.iload_n 2, 1) := by decide +kernel
theorem dX4_daysAsGuardianIfMoved_17 : decode cX4_daysAsGuardianIfMoved 17 = .ok (.invokevirtual 80, 3) := by decide +kernel
theorem dX4_daysAsGuardianIfMoved_20 : decode cX4_daysAsGuardianIfMoved 20 = .ok (.aload_n 0, 1) := by decide +kernel
theorem dX4_daysAsGuardianIfMoved_21 : decode cX4_daysAsGuardianIfMoved 21 = .ok (.getfield 16, 3) := by decide +kernel
theorem dX4_daysAsGuardianIfMoved_24 : decode cX4_daysAsGuardianIfMoved 24 = .ok (.iload_n 2, 1) := by decide +kernel
theorem dX4_daysAsGuardianIfMoved_25 : decode cX4_daysAsGuardianIfMoved 25 = .ok (.invokevirtual 76, 3) := by decide +kernel
theorem dX4_daysAsGuardianIfMoved_28 : decode cX4_daysAsGuardianIfMoved 28 = .ok (.astore_n 3, 1) := by decide +kernel
theorem dX4_daysAsGuardianIfMoved_29 : decode cX4_daysAsGuardianIfMoved 29 = .ok (.aload_n 3, 1) := by decide +kernel
theorem dX4_daysAsGuardianIfMoved_30 : decode cX4_daysAsGuardianIfMoved 30 = .ok (.ifnonnull 5, 3) := by decide +kernel
theorem dX4_daysAsGuardianIfMoved_33 : decode cX4_daysAsGuardianIfMoved 33 = .ok (.iconst 0, 1) := by decide +kernel
theorem dX4_daysAsGuardianIfMoved_34 : decode cX4_daysAsGuardianIfMoved 34 = .ok (.ireturn, 1) := by decide +kernel
theorem dX4_daysAsGuardianIfMoved_35 : decode cX4_daysAsGuardianIfMoved 35 = .ok (.aload_n 3, 1) := by decide +kernel
theorem dX4_daysAsGuardianIfMoved_36 : decode cX4_daysAsGuardianIfMoved 36 = .ok (.getfield 144, 3) := by decide +kernel
theorem dX4_daysAsGuardianIfMoved_39 : decode cX4_daysAsGuardianIfMoved 39 = .ok (.istore 4, 2) := by decide +kernel
theorem dX4_daysAsGuardianIfMoved_41 : decode cX4_daysAsGuardianIfMoved 41 = .ok (.aload_n 0, 1) := by decide +kernel
theorem dX4_daysAsGuardianIfMoved_42 : decode cX4_daysAsGuardianIfMoved 42 = .ok (.getfield 16, 3) := by decide +kernel
theorem dX4_daysAsGuardianIfMoved_45 : decode cX4_daysAsGuardianIfMoved 45 = .ok (.bipush 100, 2) := by decide +kernel
theorem dX4_daysAsGuardianIfMoved_47 : decode cX4_daysAsGuardianIfMoved 47 = .ok (.invokevirtual 118, 3) := by decide +kernel
theorem dX4_daysAsGuardianIfMoved_50 : decode cX4_daysAsGuardianIfMoved 50 = .ok (.aload_n 3, 1) := by decide +kernel
theorem dX4_daysAsGuardianIfMoved_51 : decode cX4_daysAsGuardianIfMoved 51 = .ok (.getfield 144, 3) := by decide +kernel
theorem dX4_daysAsGuardianIfMoved_54 : decode cX4_daysAsGuardianIfMoved 54 = .ok (.iload 4, 2) := by decide +kernel
theorem dX4_daysAsGuardianIfMoved_56 : decode cX4_daysAsGuardianIfMoved 56 = .ok (.isub, 1) := by decide +kernel
theorem dX4_daysAsGuardianIfMoved_57 : decode cX4_daysAsGuardianIfMoved 57 = .ok (.ireturn, 1) := by decide +kernel
theorem dX4_codesIn_0 : decode cX4_codesIn 0 = .ok (.lload_n 0, 1) := by decide +kernel
theorem dX4_codesIn_1 : decode cX4_codesIn 1 = .ok (.lstore_n 2, 1) := by decide +kernel
theorem dX4_codesIn_2 : decode cX4_codesIn 2 = .ok (.iconst 0, 1) := by decide +kernel
theorem dX4_codesIn_3 : decode cX4_codesIn 3 = .ok (.istore 4, 2) := by decide +kernel
theorem dX4_codesIn_5 : decode cX4_codesIn 5 = .ok (.iload 4, 2) := by decide +kernel
theorem dX4_codesIn_7 : decode cX4_codesIn 7 = .ok (.bipush 8, 2) := by decide +kernel
theorem dX4_codesIn_9 : decode cX4_codesIn 9 = .ok (.if_icmp .ge 51, 3) := by decide +kernel
theorem dX4_codesIn_12 : decode cX4_codesIn 12 = .ok (.lload_n 2, 1) := by decide +kernel
theorem dX4_codesIn_13 : decode cX4_codesIn 13 = .ok (.ldc2_w 181, 3) := by decide +kernel
theorem dX4_codesIn_16 : decode cX4_codesIn 16 = .ok (.land, 1) := by decide +kernel
theorem dX4_codesIn_17 : decode cX4_codesIn 17 = .ok (.lconst 0, 1) := by decide +kernel
theorem dX4_codesIn_18 : decode cX4_codesIn 18 = .ok (.lcmp, 1) := by decide +kernel
theorem dX4_codesIn_19 : decode cX4_codesIn 19 = .ok (.ifCond .eq 41, 3) := by decide +kernel
theorem dX4_codesIn_22 : decode cX4_codesIn 22 = .ok (.lload_n 2, 1) := by decide +kernel
theorem dX4_codesIn_23 : decode cX4_codesIn 23 = .ok (.ldc2_w 181, 3) := by decide +kernel
theorem dX4_codesIn_26 : decode cX4_codesIn 26 = .ok (.land, 1) := by decide +kernel
theorem dX4_codesIn_27 : decode cX4_codesIn 27 = .ok (.lstore 5, 2) := by decide +kernel
theorem dX4_codesIn_29 : decode cX4_codesIn 29 = .ok (.lload 5, 2) := by decide +kernel
theorem dX4_codesIn_31 : decode cX4_codesIn 31 = .ok (.ldc2_w 196, 3) := by decide +kernel
theorem dX4_codesIn_34 : decode cX4_codesIn 34 = .ok (.lcmp, 1) := by decide +kernel
theorem dX4_codesIn_35 : decode cX4_codesIn 35 = .ok (.ifCond .lt 12, 3) := by decide +kernel
theorem dX4_codesIn_38 : decode cX4_codesIn 38 = .ok (.lload 5, 2) := by decide +kernel
theorem dX4_codesIn_40 : decode cX4_codesIn 40 = .ok (.ldc2_w 198, 3) := by decide +kernel
theorem dX4_codesIn_43 : decode cX4_codesIn 43 = .ok (.lcmp, 1) := by decide +kernel
theorem dX4_codesIn_44 : decode cX4_codesIn 44 = .ok (.ifCond .le 5, 3) := by decide +kernel
theorem dX4_codesIn_47 : decode cX4_codesIn 47 = .ok (.iconst 0, 1) := by decide +kernel
theorem dX4_codesIn_48 : decode cX4_codesIn 48 = .ok (.ireturn, 1) := by decide +kernel
theorem dX4_codesIn_49 : decode cX4_codesIn 49 = .ok (.lload_n 2, 1) := by decide +kernel
theorem dX4_codesIn_50 : decode cX4_codesIn 50 = .ok (.bipush 8, 2) := by decide +kernel
theorem dX4_codesIn_52 : decode cX4_codesIn 52 = .ok (.lushr, 1) := by decide +kernel
theorem dX4_codesIn_53 : decode cX4_codesIn 53 = .ok (.lstore_n 2, 1) := by decide +kernel
theorem dX4_codesIn_54 : decode cX4_codesIn 54 = .ok (.iinc 4 1, 3) := by decide +kernel
theorem dX4_codesIn_57 : decode cX4_codesIn 57 = .ok (.goto (-52), 3) := by decide +kernel
theorem dX4_codesIn_60 : decode cX4_codesIn 60 = .ok (.lload_n 2, 1) := by decide +kernel
theorem dX4_codesIn_61 : decode cX4_codesIn 61 = .ok (.lconst 0, 1) := by decide +kernel
theorem dX4_codesIn_62 : decode cX4_codesIn 62 = .ok (.lcmp, 1) := by decide +kernel
theorem dX4_codesIn_63 : decode cX4_codesIn 63 = .ok (.ifCond .ne 8, 3) := by decide +kernel
theorem dX4_codesIn_66 : decode cX4_codesIn 66 = .ok (.iload 4, 2) := by decide +kernel
theorem dX4_codesIn_68 : decode cX4_codesIn 68 = .ok (.goto 4, 3) := by decide +kernel
theorem dX4_codesIn_71 : decode cX4_codesIn 71 = .ok (.iconst 0, 1) := by decide +kernel
theorem dX4_codesIn_72 : decode cX4_codesIn 72 = .ok (.ireturn, 1) := by decide +kernel
end
section
theorem dX5_init_0 : decode cX5_init 0 = .ok (.aload_n 0, 1) := by decide +kernel
theorem dX5_init_1 : decode cX5_init 1 = .ok (.invokespecial 1, 3) := by decide +kernel
theorem dX5_init_4 : decode cX5_init 4 = .ok (.aload_n 0, 1) := by decide +kernel
theorem dX5_init_5 : decode cX5_init 5 = .ok (.sipush 130, 3) := by decide +kernel
theorem dX5_init_8 : decode cX5_init 8 = .ok (.newarray .int, 2) := by decide +kernel
theorem dX5_init_10 : decode cX5_init 10 = .ok (.putfield 7, 3) := by decide +kernel
theorem dX5_init_13 : decode cX5_init 13 = .ok (.aload_n 0, 1) := by decide +kernel
theorem dX5_init_14 : decode cX5_init 14 = .ok (.sipush 390, 3) := by decide +kernel
theorem dX5_init_17 : decode cX5_init 17 = .ok (.newarray .int, 2) := by decide +kernel
theorem dX5_init_19 : decode cX5_init 19 = .ok (.putfield 13, 3) := by decide +kernel
theorem dX5_init_22 : decode cX5_init 22 = .ok (.aload_n 0, 1) := by decide +kernel
theorem dX5_init_23 : decode cX5_init 23 = .ok (.sipush 130, 3) := by decide +kernel
theorem dX5_init_26 : decode cX5_init 26 = .ok (.newarray .int, 2) := by decide +kernel
theorem dX5_init_28 : decode cX5_init 28 = .ok (.putfield 16, 3) := by decide +kernel
theorem dX5_init_31 : decode cX5_init 31 = .ok (.aload_n 0, 1) := by decide +kernel
theorem dX5_init_32 : decode cX5_init 32 = .ok (.iconst 2, 1) := by decide +kernel
theorem dX5_init_33 : decode cX5_init 33 = .ok (.newarray .boolean, 2) := by decide +kernel
theorem dX5_init_35 : decode cX5_init 35 = .ok (.putfield 19, 3) := by decide +kernel
theorem dX5_init_38 : decode cX5_init 38 = .ok (.aload_n 0, 1) := by decide +kernel
theorem dX5_init_39 : decode cX5_init 39 = .ok (.bipush 60, 2) := by decide +kernel
theorem dX5_init_41 : decode cX5_init 41 = .ok (.newarray .int, 2) := by decide +kernel
theorem dX5_init_43 : decode cX5_init 43 = .ok (.putfield 23, 3) := by decide +kernel
theorem dX5_init_46 : decode cX5_init 46 = .ok (.aload_n 0, 1) := by decide +kernel
theorem dX5_init_47 : decode cX5_init 47 = .ok (.getfield 7, 3) := by decide +kernel
theorem dX5_init_50 : decode cX5_init 50 = .ok (.iconst 0, 1) := by decide +kernel
theorem dX5_init_51 : decode cX5_init 51 = .ok (.bipush 70, 2) := by decide +kernel
theorem dX5_init_53 : decode cX5_init 53 = .ok (.iastore, 1) := by decide +kernel
theorem dX5_init_54 : decode cX5_init 54 = .ok (.aload_n 0, 1) := by decide +kernel
theorem dX5_init_55 : decode cX5_init 55 = .ok (.getfield 7, 3) := by decide +kernel
theorem dX5_init_58 : decode cX5_init 58 = .ok (.iconst 1, 1) := by decide +kernel
theorem dX5_init_59 : decode cX5_init 59 = .ok (.bipush 30, 2) := by decide +kernel
theorem dX5_init_61 : decode cX5_init 61 = .ok (.iastore, 1) := by decide +kernel
theorem dX5_init_62 : decode cX5_init 62 = .ok (.aload_n 0, 1) := by decide +kernel
theorem dX5_init_63 : decode cX5_init 63 = .ok (.getfield 7, 3) := by decide +kernel
theorem dX5_init_66 : decode cX5_init 66 = .ok (.iconst 2, 1) := by decide +kernel
theorem dX5_init_67 : decode cX5_init 67 = .ok (.bipush 10, 2) := by decide +kernel
theorem dX5_init_69 : decode cX5_init 69 = .ok (.iastore, 1) := by decide +kernel
theorem dX5_init_70 : decode cX5_init 70 = .ok (.aload_n 0, 1) := by decide +kernel
theorem dX5_init_71 : decode cX5_init 71 = .ok (.getfield 7, 3) := by decide +kernel
theorem dX5_init_74 : decode cX5_init 74 = .ok (.iconst 3, 1) := by decide +kernel
theorem dX5_init_75 : decode cX5_init 75 = .ok (.bipush 28, 2) := by decide +kernel
theorem dX5_init_77 : decode cX5_init 77 = .ok (.iastore, 1) := by decide +kernel
theorem dX5_init_78 : decode cX5_init 78 = .ok (.aload_n 0, 1) := by decide +kernel
theorem dX5_init_79 : decode cX5_init 79 = .ok (.getfield 7, 3) := by decide +kernel
theorem dX5_init_82 : decode cX5_init 82 = .ok (.iconst 4, 1) := by decide +kernel
theorem dX5_init_83 : decode cX5_init 83 = .ok (.iconst 3, 1) := by decide +kernel
theorem dX5_init_84 : decode cX5_init 84 = .ok (.iastore, 1) := by decide +kernel
theorem dX5_init_85 : decode cX5_init 85 = .ok (.aload_n 0, 1) := by decide +kernel
theorem dX5_init_86 : decode cX5_init 86 = .ok (.getfield 7, 3) := by decide +kernel
theorem dX5_init_89 : decode cX5_init 89 = .ok (.iconst 5, 1) := by decide +kernel
theorem dX5_init_90 : decode cX5_init 90 = .ok (.bipush 20, 2) := by decide +kernel
theorem dX5_init_92 : decode cX5_init 92 = .ok (.iastore, 1) := by decide +kernel
theorem dX5_init_93 : decode cX5_init 93 = .ok (.aload_n 0, 1) := by decide +kernel
theorem dX5_init_94 : decode cX5_init 94 = .ok (.getfield 7, 3) := by decide +kernel
theorem dX5_init_97 : decode cX5_init 97 = .ok (.bipush 8, 2) := by decide +kernel
theorem dX5_init_99 : decode cX5_init 99 = .ok (.bipush 50, 2) := by decide +kernel
theorem dX5_init_101 : decode cX5_init 101 = .ok (.iastore, 1) := by decide +kernel
theorem dX5_init_102 : decode cX5_init 102 = .ok (.aload_n 0, 1) := by decide +kernel
theorem dX5_init_103 : decode cX5_init 103 = .ok (.getfield 7, 3) := by decide +kernel
theorem dX5_init_106 : decode cX5_init 106 = .ok (.bipush 9, 2) := by decide +kernel
theorem dX5_init_108 : decode cX5_init 108 = .ok (.iconst (-1), 1) := by decide +kernel
theorem dX5_init_109 : decode cX5_init 109 = .ok (.iastore, 1) := by decide +kernel
theorem dX5_init_110 : decode cX5_init 110 = .ok (.aload_n 0, 1) := by decide +kernel
theorem dX5_init_111 : decode cX5_init 111 = .ok (.getfield 7, 3) := by decide +kernel
theorem dX5_init_114 : decode cX5_init 114 = .ok (.bipush 11, 2) := by decide +kernel
theorem dX5_init_116 : decode cX5_init 116 = .ok (.sipush 1000, 3) := by decide +kernel
theorem dX5_init_119 : decode cX5_init 119 = .ok (.iastore, 1) := by decide +kernel
theorem dX5_init_120 : decode cX5_init 120 = .ok (.return_, 1) := by decide +kernel
theorem dX5_in_0 : decode cX5_in 0 = .ok (.iload_n 0, 1) := by decide +kernel
theorem dX5_in_1 : decode cX5_in 1 = .ok (.iload_n 1, 1) := by decide +kernel
theorem dX5_in_2 : decode cX5_in 2 = .ok (.if_icmp .lt 12, 3) := by decide +kernel
theorem dX5_in_5 : decode cX5_in 5 = .ok (.iload_n 0, 1) := by decide +kernel
theorem dX5_in_6 : decode cX5_in 6 = .ok (.iload_n 2, 1) := by decide +kernel
theorem dX5_in_7 : decode cX5_in 7 = .ok (.if_icmp .gt 7, 3) := by decide +kernel
theorem dX5_in_10 : decode cX5_in 10 = .ok (.iconst 1, 1) := by decide +kernel
theorem dX5_in_11 : decode cX5_in 11 = .ok (.goto 4, 3) := by decide +kernel
theorem dX5_in_14 : decode cX5_in 14 = .ok (.iconst 0, 1) := by decide +kernel
theorem dX5_in_15 : decode cX5_in 15 = .ok (.ireturn, 1) := by decide +kernel
theorem dX5_less_0 : decode cX5_less 0 = .ok (.iload_n 0, 1) := by decide +kernel
theorem dX5_less_1 : decode cX5_less 1 = .ok (.iload_n 1, 1) := by decide +kernel
theorem dX5_less_2 : decode cX5_less 2 = .ok (.if_icmp .ge 7, 3) := by decide +kernel
theorem dX5_less_5 : decode cX5_less 5 = .ok (.iload_n 0, 1) := by decide +kernel
theorem dX5_less_6 : decode cX5_less 6 = .ok (.goto 4, 3) := by decide +kernel
theorem dX5_less_9 : decode cX5_less 9 = .ok (.iload_n 1, 1) := by decide +kernel
theorem dX5_less_10 : decode cX5_less 10 = .ok (.ireturn, 1) := by decide +kernel
theorem dX5_at_0 : decode cX5_at 0 = .ok (.iload_n 0, 1) := by decide +kernel
theorem dX5_at_1 : decode cX5_at 1 = .ok (.bipush 17, 2) := by decide +kernel
theorem dX5_at_3 : decode cX5_at 3 = .ok (.iadd, 1) := by decide +kernel
theorem dX5_at_4 : decode cX5_at 4 = .ok (.bipush 6, 2) := by decide +kernel
theorem dX5_at_6 : decode cX5_at 6 = .ok (.iload_n 1, 1) := by decide +kernel
theorem dX5_at_7 : decode cX5_at 7 = .ok (.imul, 1) := by decide +kernel
theorem dX5_at_8 : decode cX5_at 8 = .ok (.iadd, 1) := by decide +kernel
theorem dX5_at_9 : decode cX5_at 9 = .ok (.ireturn, 1) := by decide +kernel
theorem dX5_isPerson_0 : decode cX5_isPerson 0 = .ok (.iload_n 1, 1) := by decide +kernel
theorem dX5_isPerson_1 : decode cX5_isPerson 1 = .ok (.iconst 0, 1) := by decide +kernel
theorem dX5_isPerson_2 : decode cX5_isPerson 2 = .ok (.aload_n 0, 1) := by decide +kernel
theorem dX5_isPerson_3 : decode cX5_isPerson 3 = .ok (.getfield 7, 3) := by decide +kernel
theorem dX5_isPerson_6 : decode cX5_isPerson 6 = .ok (.bipush 7, 2) := by decide +kernel
theorem dX5_isPerson_8 : decode cX5_isPerson 8 = .ok (.iaload, 1) := by decide +kernel
theorem dX5_isPerson_9 : decode cX5_isPerson 9 = .ok (.iconst 1, 1) := by decide +kernel
theorem dX5_isPerson_10 : decode cX5_isPerson 10 = .ok (.isub, 1) := by decide +kernel
theorem dX5_isPerson_11 : decode cX5_isPerson 11 = .ok (.invokestatic 26, 3) := by decide +kernel
theorem dX5_isPerson_14 : decode cX5_isPerson 14 = .ok (.ireturn, 1) := by decide +kernel
theorem dX5_remembers_0 : decode cX5_remembers 0 = .ok (.aload_n 0, 1) := by decide +kernel
theorem dX5_remembers_1 : decode cX5_remembers 1 = .ok (.getfield 30, 3) := by decide +kernel
theorem dX5_remembers_4 : decode cX5_remembers 4 = .ok (.bipush 6, 2) := by decide +kernel
theorem dX5_remembers_6 : decode cX5_remembers 6 = .ok (.if_icmp .ne 43, 3) := by decide +kernel
theorem dX5_remembers_9 : decode cX5_remembers 9 = .ok (.iconst 0, 1) := by decide +kernel
theorem dX5_remembers_10 : decode cX5_remembers 10 = .ok (.istore_n 1, 1) := by decide +kernel
theorem dX5_remembers_11 : decode cX5_remembers 11 = .ok (.iload_n 1, 1) := by decide +kernel
theorem dX5_remembers_12 : decode cX5_remembers 12 = .ok (.sipush 325, 3) := by decide +kernel
theorem dX5_remembers_15 : decode cX5_remembers 15 = .ok (.if_icmp .ge 24, 3) := by decide +kernel
theorem dX5_remembers_18 : decode cX5_remembers 18 = .ok (.aload_n 0, 1) := by decide +kernel
theorem dX5_remembers_19 : decode cX5_remembers 19 = .ok (.getfield 13, 3) := by decide +kernel
theorem dX5_remembers_22 : decode cX5_remembers 22 = .ok (.iload_n 1, 1) := by decide +kernel
theorem dX5_remembers_23 : decode cX5_remembers 23 = .ok (.aload_n 0, 1) := by decide +kernel
theorem dX5_remembers_24 : decode cX5_remembers 24 = .ok (.getfield 13, 3) := by decide +kernel
theorem dX5_remembers_27 : decode cX5_remembers 27 = .ok (.bipush 65, 2) := by decide +kernel
theorem dX5_remembers_29 : decode cX5_remembers 29 = .ok (.iload_n 1, 1) := by decide +kernel
theorem dX5_remembers_30 : decode cX5_remembers 30 = .ok (.iadd, 1) := by decide +kernel
theorem dX5_remembers_31 : decode cX5_remembers 31 = .ok (.iaload, 1) := by decide +kernel
theorem dX5_remembers_32 : decode cX5_remembers 32 = .ok (.iastore, 1) := by decide +kernel
theorem dX5_remembers_33 : decode cX5_remembers 33 = .ok (.iinc 1 1, 3) := by decide +kernel
theorem dX5_remembers_36 : decode cX5_remembers 36 = .ok (.goto (-25), 3) := by decide +kernel
theorem dX5_remembers_39 : decode cX5_remembers 39 = .ok (.aload_n 0, 1) := by decide +kernel
theorem dX5_remembers_40 : decode cX5_remembers 40 = .ok (.dup, 1) := by decide +kernel
theorem dX5_remembers_41 : decode cX5_remembers 41 = .ok (.getfield 30, 3) := by decide +kernel
theorem dX5_remembers_44 : decode cX5_remembers 44 = .ok (.iconst 1, 1) := by decide +kernel
theorem dX5_remembers_45 : decode cX5_remembers 45 = .ok (.isub, 1) := by decide +kernel
theorem dX5_remembers_46 : decode cX5_remembers 46 = .ok (.putfield 30, 3) := by decide +kernel
theorem dX5_remembers_49 : decode cX5_remembers 49 = .ok (.iconst 0, 1) := by decide +kernel
theorem dX5_remembers_50 : decode cX5_remembers 50 = .ok (.istore_n 1, 1) := by decide +kernel
theorem dX5_remembers_51 : decode cX5_remembers 51 = .ok (.iload_n 1, 1) := by decide +kernel
theorem dX5_remembers_52 : decode cX5_remembers 52 = .ok (.bipush 65, 2) := by decide +kernel
theorem dX5_remembers_54 : decode cX5_remembers 54 = .ok (.if_icmp .ge 29, 3) := by decide +kernel
theorem dX5_remembers_57 : decode cX5_remembers 57 = .ok (.aload_n 0, 1) := by decide +kernel
theorem dX5_remembers_58 : decode cX5_remembers 58 = .ok (.getfield 13, 3) := by decide +kernel
theorem dX5_remembers_61 : decode cX5_remembers 61 = .ok (.bipush 65, 2) := by decide +kernel
theorem dX5_remembers_63 : decode cX5_remembers 63 = .ok (.aload_n 0, 1) := by decide +kernel
theorem dX5_remembers_64 : decode cX5_remembers 64 = .ok (.getfield 30, 3) := by decide +kernel
theorem dX5_remembers_67 : decode cX5_remembers 67 = .ok (.imul, 1) := by decide +kernel
theorem dX5_remembers_68 : decode cX5_remembers 68 = .ok (.iload_n 1, 1) := by decide +kernel
theorem dX5_remembers_69 : decode cX5_remembers 69 = .ok (.iadd, 1) := by decide +kernel
theorem dX5_remembers_70 : decode cX5_remembers 70 = .ok (.aload_n 0, 1) := by decide +kernel
theorem dX5_remembers_71 : decode cX5_remembers 71 = .ok (.getfield 7, 3) := by decide +kernel
theorem dX5_remembers_74 : decode cX5_remembers 74 = .ok (.iload_n 1, 1) := by decide +kernel
theorem dX5_remembers_75 : decode cX5_remembers 75 = .ok (.iaload, 1) := by decide +kernel
theorem dX5_remembers_76 : decode cX5_remembers 76 = .ok (.iastore, 1) := by decide +kernel
theorem dX5_remembers_77 : decode cX5_remembers 77 = .ok (.iinc 1 1, 3) := by decide +kernel
theorem dX5_remembers_80 : decode cX5_remembers 80 = .ok (.goto (-29), 3) := by decide +kernel
theorem dX5_remembers_83 : decode cX5_remembers 83 = .ok (.aload_n 0, 1) := by decide +kernel
theorem dX5_remembers_84 : decode cX5_remembers 84 = .ok (.dup, 1) := by decide +kernel
theorem dX5_remembers_85 : decode cX5_remembers 85 = .ok (.getfield 30, 3) := by decide +kernel
theorem dX5_remembers_88 : decode cX5_remembers 88 = .ok (.iconst 1, 1) := by decide +kernel
theorem dX5_remembers_89 : decode cX5_remembers 89 = .ok (.iadd, 1) := by decide +kernel
theorem dX5_remembers_90 : decode cX5_remembers 90 = .ok (.putfield 30, 3) := by decide +kernel
theorem dX5_remembers_93 : decode cX5_remembers 93 = .ok (.return_, 1) := by decide +kernel
theorem dX5_copies_0 : decode cX5_copies 0 = .ok (.iconst 0, 1) := by decide +kernel
theorem dX5_copies_1 : decode cX5_copies 1 = .ok (.istore_n 1, 1) := by decide +kernel
theorem dX5_copies_2 : decode cX5_copies 2 = .ok (.iload_n 1, 1) := by decide +kernel
theorem dX5_copies_3 : decode cX5_copies 3 = .ok (.bipush 65, 2) := by decide +kernel
theorem dX5_copies_5 : decode cX5_copies 5 = .ok (.if_icmp .ge 24, 3) := by decide +kernel
theorem dX5_copies_8 : decode cX5_copies 8 = .ok (.aload_n 0, 1) := by decide +kernel
theorem dX5_copies_9 : decode cX5_copies 9 = .ok (.getfield 7, 3) := by decide +kernel
theorem dX5_copies_12 : decode cX5_copies 12 = .ok (.bipush 65, 2) := by decide +kernel
theorem dX5_copies_14 : decode cX5_copies 14 = .ok (.iload_n 1, 1) := by decide +kernel
theorem dX5_copies_15 : decode cX5_copies 15 = .ok (.iadd, 1) := by decide +kernel
theorem dX5_copies_16 : decode cX5_copies 16 = .ok (.aload_n 0, 1) := by decide +kernel
theorem dX5_copies_17 : decode cX5_copies 17 = .ok (.getfield 7, 3) := by decide +kernel
theorem dX5_copies_20 : decode cX5_copies 20 = .ok (.iload_n 1, 1) := by decide +kernel
theorem dX5_copies_21 : decode cX5_copies 21 = .ok (.iaload, 1) := by decide +kernel
theorem dX5_copies_22 : decode cX5_copies 22 = .ok (.iastore, 1) := by decide +kernel
theorem dX5_copies_23 : decode cX5_copies 23 = .ok (.iinc 1 1, 3) := by decide +kernel
theorem dX5_copies_26 : decode cX5_copies 26 = .ok (.goto (-24), 3) := by decide +kernel
theorem dX5_copies_29 : decode cX5_copies 29 = .ok (.return_, 1) := by decide +kernel
theorem dX5_isBarred_0 : decode cX5_isBarred 0 = .ok (.aload_n 0, 1) := by decide +kernel
theorem dX5_isBarred_1 : decode cX5_isBarred 1 = .ok (.getfield 7, 3) := by decide +kernel
theorem dX5_isBarred_4 : decode cX5_isBarred 4 = .ok (.iload_n 1, 1) := by decide +kernel
theorem dX5_isBarred_5 : decode cX5_isBarred 5 = .ok (.iload_n 2, 1) := by decide +kernel
theorem dX5_isBarred_6 : decode cX5_isBarred 6 = .ok (.invokestatic 34, 3) := by decide +kernel
theorem dX5_isBarred_9 : decode cX5_isBarred 9 = .ok (.iconst 2, 1) := by decide +kernel
theorem dX5_isBarred_10 : decode cX5_isBarred 10 = .ok (.iadd, 1) := by decide +kernel
theorem dX5_isBarred_11 : decode cX5_isBarred 11 = .ok (.iaload, 1) := by decide +kernel
theorem dX5_isBarred_12 : decode cX5_isBarred 12 = .ok (.aload_n 0, 1) := by decide +kernel
theorem dX5_isBarred_13 : decode cX5_isBarred 13 = .ok (.getfield 7, 3) := by decide +kernel
theorem dX5_isBarred_16 : decode cX5_isBarred 16 = .ok (.iload_n 1, 1) := by decide +kernel
theorem dX5_isBarred_17 : decode cX5_isBarred 17 = .ok (.iconst 4, 1) := by decide +kernel
theorem dX5_isBarred_18 : decode cX5_isBarred 18 = .ok (.iadd, 1) := by decide +kernel
theorem dX5_isBarred_19 : decode cX5_isBarred 19 = .ok (.iaload, 1) := by decide +kernel
theorem dX5_isBarred_20 : decode cX5_isBarred 20 = .ok (.if_icmp .lt 7, 3) := by decide +kernel
theorem dX5_isBarred_23 : decode cX5_isBarred 23 = .ok (.iconst 1, 1) := by decide +kernel
theorem dX5_isBarred_24 : decode cX5_isBarred 24 = .ok (.goto 4, 3) := by decide +kernel
theorem dX5_isBarred_27 : decode cX5_isBarred 27 = .ok (.iconst 0, 1) := by decide +kernel
theorem dX5_isBarred_28 : decode cX5_isBarred 28 = .ok (.ireturn, 1) := by decide +kernel
theorem dX5_score_0 : decode cX5_score 0 = .ok (.aload_n 0, 1) := by decide +kernel
theorem dX5_score_1 : decode cX5_score 1 = .ok (.getfield 7, 3) := by decide +kernel
theorem dX5_score_4 : decode cX5_score 4 = .ok (.iload_n 1, 1) := by decide +kernel
theorem dX5_score_5 : decode cX5_score 5 = .ok (.bipush 8, 2) := by decide +kernel
theorem dX5_score_7 : decode cX5_score 7 = .ok (.iadd, 1) := by decide +kernel
theorem dX5_score_8 : decode cX5_score 8 = .ok (.iaload, 1) := by decide +kernel
theorem dX5_score_9 : decode cX5_score 9 = .ok (.iconst 5, 1) := by decide +kernel
theorem dX5_score_10 : decode cX5_score 10 = .ok (.aload_n 0, 1) := by decide +kernel
theorem dX5_score_11 : decode cX5_score 11 = .ok (.getfield 7, 3) := by decide +kernel
theorem dX5_score_14 : decode cX5_score 14 = .ok (.iload_n 1, 1) := by decide +kernel
theorem dX5_score_15 : decode cX5_score 15 = .ok (.iload_n 2, 1) := by decide +kernel
theorem dX5_score_16 : decode cX5_score 16 = .ok (.invokestatic 34, 3) := by decide +kernel
theorem dX5_score_19 : decode cX5_score 19 = .ok (.iconst 0, 1) := by decide +kernel
theorem dX5_score_20 : decode cX5_score 20 = .ok (.iadd, 1) := by decide +kernel
theorem dX5_score_21 : decode cX5_score 21 = .ok (.iaload, 1) := by decide +kernel
theorem dX5_score_22 : decode cX5_score 22 = .ok (.imul, 1) := by decide +kernel
theorem dX5_score_23 : decode cX5_score 23 = .ok (.iadd, 1) := by decide +kernel
theorem dX5_score_24 : decode cX5_score 24 = .ok (.bipush 10, 2) := by decide +kernel
theorem dX5_score_26 : decode cX5_score 26 = .ok (.aload_n 0, 1) := by decide +kernel
theorem dX5_score_27 : decode cX5_score 27 = .ok (.getfield 7, 3) := by decide +kernel
theorem dX5_score_30 : decode cX5_score 30 = .ok (.iload_n 1, 1) := by decide +kernel
theorem dX5_score_31 : decode cX5_score 31 = .ok (.iload_n 2, 1) := by decide +kernel
theorem dX5_score_32 : decode cX5_score 32 = .ok (.invokestatic 34, 3) := by decide +kernel
theorem dX5_score_35 : decode cX5_score 35 = .ok (.iconst 2, 1) := by decide +kernel
theorem dX5_score_36 : decode cX5_score 36 = .ok (.iadd, 1) := by decide +kernel
theorem dX5_score_37 : decode cX5_score 37 = .ok (.iaload, 1) := by decide +kernel
theorem dX5_score_38 : decode cX5_score 38 = .ok (.imul, 1) := by decide +kernel
theorem dX5_score_39 : decode cX5_score 39 = .ok (.isub, 1) := by decide +kernel
theorem dX5_score_40 : decode cX5_score 40 = .ok (.ireturn, 1) := by decide +kernel
theorem dX5_scratches_0 : decode cX5_scratches 0 = .ok (.aload_n 0, 1) := by decide +kernel
theorem dX5_scratches_1 : decode cX5_scratches 1 = .ok (.getfield 7, 3) := by decide +kernel
theorem dX5_scratches_4 : decode cX5_scratches 4 = .ok (.iload_n 1, 1) := by decide +kernel
theorem dX5_scratches_5 : decode cX5_scratches 5 = .ok (.iload_n 2, 1) := by decide +kernel
theorem dX5_scratches_6 : decode cX5_scratches 6 = .ok (.invokestatic 34, 3) := by decide +kernel
theorem dX5_scratches_9 : decode cX5_scratches 9 = .ok (.iconst 2, 1) := by decide +kernel
theorem dX5_scratches_10 : decode cX5_scratches 10 = .ok (.iadd, 1) := by decide +kernel
theorem dX5_scratches_11 : decode cX5_scratches 11 = .ok (.dup2, 1) := by decide +kernel
theorem dX5_scratches_12 : decode cX5_scratches 12 = .ok (.iaload, 1) := by decide +kernel
theorem dX5_scratches_13 : decode cX5_scratches 13 = .ok (.iconst 1, 1) := by decide +kernel
theorem dX5_scratches_14 : decode cX5_scratches 14 = .ok (.iadd, 1) := by decide +kernel
theorem dX5_scratches_15 : decode cX5_scratches 15 = .ok (.iastore, 1) := by decide +kernel
theorem dX5_scratches_16 : decode cX5_scratches 16 = .ok (.aload_n 0, 1) := by decide +kernel
theorem dX5_scratches_17 : decode cX5_scratches 17 = .ok (.getfield 7, 3) := by decide +kernel
theorem dX5_scratches_20 : decode cX5_scratches 20 = .ok (.iload_n 1, 1) := by decide +kernel
theorem dX5_scratches_21 : decode cX5_scratches 21 = .ok (.bipush 12, 2) := by decide +kernel
theorem dX5_scratches_23 : decode cX5_scratches 23 = .ok (.iadd, 1) := by decide +kernel
theorem dX5_scratches_24 : decode cX5_scratches 24 = .ok (.dup2, 1) := by decide +kernel
theorem dX5_scratches_25 : decode cX5_scratches 25 = .ok (.iaload, 1) := by decide +kernel
theorem dX5_scratches_26 : decode cX5_scratches 26 = .ok (.iconst 1, 1) := by decide +kernel
theorem dX5_scratches_27 : decode cX5_scratches 27 = .ok (.iadd, 1) := by decide +kernel
theorem dX5_scratches_28 : decode cX5_scratches 28 = .ok (.iastore, 1) := by decide +kernel
theorem dX5_scratches_29 : decode cX5_scratches 29 = .ok (.return_, 1) := by decide +kernel
theorem dX5_behind_0 : decode cX5_behind 0 = .ok (.iload_n 2, 1) := by decide +kernel
theorem dX5_behind_1 : decode cX5_behind 1 = .ok (.iconst 1, 1) := by decide +kernel
theorem dX5_behind_2 : decode cX5_behind 2 = .ok (.iadd, 1) := by decide +kernel
theorem dX5_behind_3 : decode cX5_behind 3 = .ok (.aload_n 0, 1) := by decide +kernel
theorem dX5_behind_4 : decode cX5_behind 4 = .ok (.getfield 7, 3) := by decide +kernel
theorem dX5_behind_7 : decode cX5_behind 7 = .ok (.iload_n 1, 1) := by decide +kernel
theorem dX5_behind_8 : decode cX5_behind 8 = .ok (.bipush 7, 2) := by decide +kernel
theorem dX5_behind_10 : decode cX5_behind 10 = .ok (.iadd, 1) := by decide +kernel
theorem dX5_behind_11 : decode cX5_behind 11 = .ok (.iaload, 1) := by decide +kernel
theorem dX5_behind_12 : decode cX5_behind 12 = .ok (.if_icmp .ge 9, 3) := by decide +kernel
theorem dX5_behind_15 : decode cX5_behind 15 = .ok (.iload_n 2, 1) := by decide +kernel
theorem dX5_behind_16 : decode cX5_behind 16 = .ok (.iconst 1, 1) := by decide +kernel
theorem dX5_behind_17 : decode cX5_behind 17 = .ok (.iadd, 1) := by decide +kernel
theorem dX5_behind_18 : decode cX5_behind 18 = .ok (.goto 4, 3) := by decide +kernel
theorem dX5_behind_21 : decode cX5_behind 21 = .ok (.iconst 0, 1) := by decide +kernel
theorem dX5_behind_22 : decode cX5_behind 22 = .ok (.ireturn, 1) := by decide +kernel
theorem dX5_hand_0 : decode cX5_hand 0 = .ok (.iconst 0, 1) := by decide +kernel
theorem dX5_hand_1 : decode cX5_hand 1 = .ok (.istore_n 2, 1) := by decide +kernel
theorem dX5_hand_2 : decode cX5_hand 2 = .ok (.iload_n 2, 1) := by decide +kernel
theorem dX5_hand_3 : decode cX5_hand 3 = .ok (.aload_n 0, 1) := by decide +kernel
theorem dX5_hand_4 : decode cX5_hand 4 = .ok (.getfield 7, 3) := by decide +kernel
theorem dX5_hand_7 : decode cX5_hand 7 = .ok (.iload_n 1, 1) := by decide +kernel
theorem dX5_hand_8 : decode cX5_hand 8 = .ok (.bipush 7, 2) := by decide +kernel
theorem dX5_hand_10 : decode cX5_hand 10 = .ok (.iadd, 1) := by decide +kernel
theorem dX5_hand_11 : decode cX5_hand 11 = .ok (.iaload, 1) := by decide +kernel
theorem dX5_hand_12 : decode cX5_hand 12 = .ok (.if_icmp .ge 42, 3) := by decide +kernel
theorem dX5_hand_15 : decode cX5_hand 15 = .ok (.aload_n 0, 1) := by decide +kernel
theorem dX5_hand_16 : decode cX5_hand 16 = .ok (.getfield 7, 3) := by decide +kernel
theorem dX5_hand_19 : decode cX5_hand 19 = .ok (.iload_n 1, 1) := by decide +kernel
theorem dX5_hand_20 : decode cX5_hand 20 = .ok (.bipush 10, 2) := by decide +kernel
theorem dX5_hand_22 : decode cX5_hand 22 = .ok (.iadd, 1) := by decide +kernel
theorem dX5_hand_23 : decode cX5_hand 23 = .ok (.iaload, 1) := by decide +kernel
theorem dX5_hand_24 : decode cX5_hand 24 = .ok (.iload_n 2, 1) := by decide +kernel
theorem dX5_hand_25 : decode cX5_hand 25 = .ok (.iadd, 1) := by decide +kernel
theorem dX5_hand_26 : decode cX5_hand 26 = .ok (.aload_n 0, 1) := by decide +kernel
theorem dX5_hand_27 : decode cX5_hand 27 = .ok (.getfield 7, 3) := by decide +kernel
theorem dX5_hand_30 : decode cX5_hand 30 = .ok (.iload_n 1, 1) := by decide +kernel
theorem dX5_hand_31 : decode cX5_hand 31 = .ok (.bipush 7, 2) := by decide +kernel
theorem dX5_hand_33 : decode cX5_hand 33 = .ok (.iadd, 1) := by decide +kernel
theorem dX5_hand_34 : decode cX5_hand 34 = .ok (.iaload, 1) := by decide +kernel
theorem dX5_hand_35 : decode cX5_hand 35 = .ok (.irem, 1) := by decide +kernel
theorem dX5_hand_36 : decode cX5_hand 36 = .ok (.istore_n 3, 1) := by decide +kernel
theorem dX5_hand_37 : decode cX5_hand 37 = .ok (.aload_n 0, 1) := by decide +kernel
theorem dX5_hand_38 : decode cX5_hand 38 = .ok (.iload_n 1, 1) := by decide +kernel
theorem dX5_hand_39 : decode cX5_hand 39 = .ok (.iload_n 3, 1) := by decide +kernel
theorem dX5_hand_40 : decode cX5_hand 40 = .ok (.invokevirtual 38, 3) := by decide +kernel
theorem dX5_hand_43 : decode cX5_hand 43 = .ok (.ifCond .ne 5, 3) := by decide +kernel
theorem dX5_hand_46 : decode cX5_hand 46 = .ok (.iload_n 3, 1) := by decide +kernel
theorem dX5_hand_47 : decode cX5_hand 47 = .ok (.ireturn, 1) := by decide +kernel
theorem dX5_hand_48 : decode cX5_hand 48 = .ok (.iinc 2 1, 3) := by decide +kernel
theorem dX5_hand_51 : decode cX5_hand 51 = .ok (.goto (-49), 3) := by decide +kernel
theorem dX5_hand_54 : decode cX5_hand 54 = .ok (.bipush (-6), 2) := by decide +kernel
theorem dX5_hand_56 : decode cX5_hand 56 = .ok (.ireturn, 1) := by decide +kernel
theorem dX5_purrs_0 : decode cX5_purrs 0 = .ok (.aload_n 0, 1) := by decide +kernel
theorem dX5_purrs_1 : decode cX5_purrs 1 = .ok (.getfield 7, 3) := by decide +kernel
theorem dX5_purrs_4 : decode cX5_purrs 4 = .ok (.iload_n 1, 1) := by decide +kernel
theorem dX5_purrs_5 : decode cX5_purrs 5 = .ok (.bipush 9, 2) := by decide +kernel
theorem dX5_purrs_7 : decode cX5_purrs 7 = .ok (.iadd, 1) := by decide +kernel
theorem dX5_purrs_8 : decode cX5_purrs 8 = .ok (.iaload, 1) := by decide +kernel
theorem dX5_purrs_9 : decode cX5_purrs 9 = .ok (.ifCond .lt 8, 3) := by decide +kernel
theorem dX5_purrs_12 : decode cX5_purrs 12 = .ok (.bipush (-6), 2) := by decide +kernel
theorem dX5_purrs_14 : decode cX5_purrs 14 = .ok (.goto 8, 3) := by decide +kernel
theorem dX5_purrs_17 : decode cX5_purrs 17 = .ok (.aload_n 0, 1) := by decide +kernel
theorem dX5_purrs_18 : decode cX5_purrs 18 = .ok (.iload_n 1, 1) := by decide +kernel
theorem dX5_purrs_19 : decode cX5_purrs 19 = .ok (.invokevirtual 42, 3) := by decide +kernel
theorem dX5_purrs_22 : decode cX5_purrs 22 = .ok (.istore_n 2, 1) := by decide +kernel
theorem dX5_purrs_23 : decode cX5_purrs 23 = .ok (.iload_n 2, 1) := by decide +kernel
theorem dX5_purrs_24 : decode cX5_purrs 24 = .ok (.bipush (-6), 2) := by decide +kernel
theorem dX5_purrs_26 : decode cX5_purrs 26 = .ok (.if_icmp .ne 5, 3) := by decide +kernel
theorem dX5_purrs_29 : decode cX5_purrs 29 = .ok (.iconst 0, 1) := by decide +kernel
theorem dX5_purrs_30 : decode cX5_purrs 30 = .ok (.ireturn, 1) := by decide +kernel
theorem dX5_purrs_31 : decode cX5_purrs 31 = .ok (.aload_n 0, 1) := by decide +kernel
theorem dX5_purrs_32 : decode cX5_purrs 32 = .ok (.iload_n 1, 1) := by decide +kernel
theorem dX5_purrs_33 : decode cX5_purrs 33 = .ok (.iload_n 2, 1) := by decide +kernel
theorem dX5_purrs_34 : decode cX5_purrs 34 = .ok (.invokevirtual 46, 3) := by decide +kernel
theorem dX5_purrs_37 : decode cX5_purrs 37 = .ok (.aload_n 0, 1) := by decide +kernel
theorem dX5_purrs_38 : decode cX5_purrs 38 = .ok (.getfield 7, 3) := by decide +kernel
theorem dX5_purrs_41 : decode cX5_purrs 41 = .ok (.iload_n 1, 1) := by decide +kernel
theorem dX5_purrs_42 : decode cX5_purrs 42 = .ok (.iconst 0, 1) := by decide +kernel
theorem dX5_purrs_43 : decode cX5_purrs 43 = .ok (.iadd, 1) := by decide +kernel
theorem dX5_purrs_44 : decode cX5_purrs 44 = .ok (.iaload, 1) := by decide +kernel
theorem dX5_purrs_45 : decode cX5_purrs 45 = .ok (.if_icmp .lt 44, 3) := by decide +kernel
theorem dX5_purrs_48 : decode cX5_purrs 48 = .ok (.aload_n 0, 1) := by decide +kernel
theorem dX5_purrs_49 : decode cX5_purrs 49 = .ok (.getfield 7, 3) := by decide +kernel
theorem dX5_purrs_52 : decode cX5_purrs 52 = .ok (.iload_n 1, 1) := by decide +kernel
theorem dX5_purrs_53 : decode cX5_purrs 53 = .ok (.bipush 9, 2) := by decide +kernel
theorem dX5_purrs_55 : decode cX5_purrs 55 = .ok (.iadd, 1) := by decide +kernel
theorem dX5_purrs_56 : decode cX5_purrs 56 = .ok (.iload_n 2, 1) := by decide +kernel
theorem dX5_purrs_57 : decode cX5_purrs 57 = .ok (.iastore, 1) := by decide +kernel
theorem dX5_purrs_58 : decode cX5_purrs 58 = .ok (.aload_n 0, 1) := by decide +kernel
theorem dX5_purrs_59 : decode cX5_purrs 59 = .ok (.getfield 7, 3) := by decide +kernel
theorem dX5_purrs_62 : decode cX5_purrs 62 = .ok (.iload_n 1, 1) := by decide +kernel
theorem dX5_purrs_63 : decode cX5_purrs 63 = .ok (.iload_n 2, 1) := by decide +kernel
theorem dX5_purrs_64 : decode cX5_purrs 64 = .ok (.invokestatic 34, 3) := by decide +kernel
theorem dX5_purrs_67 : decode cX5_purrs 67 = .ok (.iconst 4, 1) := by decide +kernel
theorem dX5_purrs_68 : decode cX5_purrs 68 = .ok (.iadd, 1) := by decide +kernel
theorem dX5_purrs_69 : decode cX5_purrs 69 = .ok (.dup2, 1) := by decide +kernel
theorem dX5_purrs_70 : decode cX5_purrs 70 = .ok (.iaload, 1) := by decide +kernel
theorem dX5_purrs_71 : decode cX5_purrs 71 = .ok (.iconst 1, 1) := by decide +kernel
theorem dX5_purrs_72 : decode cX5_purrs 72 = .ok (.iadd, 1) := by decide +kernel
theorem dX5_purrs_73 : decode cX5_purrs 73 = .ok (.iastore, 1) := by decide +kernel
theorem dX5_purrs_74 : decode cX5_purrs 74 = .ok (.aload_n 0, 1) := by decide +kernel
theorem dX5_purrs_75 : decode cX5_purrs 75 = .ok (.getfield 7, 3) := by decide +kernel
theorem dX5_purrs_78 : decode cX5_purrs 78 = .ok (.iload_n 1, 1) := by decide +kernel
theorem dX5_purrs_79 : decode cX5_purrs 79 = .ok (.bipush 13, 2) := by decide +kernel
theorem dX5_purrs_81 : decode cX5_purrs 81 = .ok (.iadd, 1) := by decide +kernel
theorem dX5_purrs_82 : decode cX5_purrs 82 = .ok (.dup2, 1) := by decide +kernel
theorem dX5_purrs_83 : decode cX5_purrs 83 = .ok (.iaload, 1) := by decide +kernel
theorem dX5_purrs_84 : decode cX5_purrs 84 = .ok (.iconst 1, 1) := by decide +kernel
theorem dX5_purrs_85 : decode cX5_purrs 85 = .ok (.iadd, 1) := by decide +kernel
theorem dX5_purrs_86 : decode cX5_purrs 86 = .ok (.iastore, 1) := by decide +kernel
theorem dX5_purrs_87 : decode cX5_purrs 87 = .ok (.iconst 1, 1) := by decide +kernel
theorem dX5_purrs_88 : decode cX5_purrs 88 = .ok (.ireturn, 1) := by decide +kernel
theorem dX5_purrs_89 : decode cX5_purrs 89 = .ok (.aload_n 0, 1) := by decide +kernel
theorem dX5_purrs_90 : decode cX5_purrs 90 = .ok (.iload_n 1, 1) := by decide +kernel
theorem dX5_purrs_91 : decode cX5_purrs 91 = .ok (.iload_n 2, 1) := by decide +kernel
theorem dX5_purrs_92 : decode cX5_purrs 92 = .ok (.invokevirtual 49, 3) := by decide +kernel
theorem dX5_purrs_95 : decode cX5_purrs 95 = .ok (.aload_n 0, 1) := by decide +kernel
theorem dX5_purrs_96 : decode cX5_purrs 96 = .ok (.getfield 7, 3) := by decide +kernel
theorem dX5_purrs_99 : decode cX5_purrs 99 = .ok (.iload_n 1, 1) := by decide +kernel
theorem dX5_purrs_100 : decode cX5_purrs 100 = .ok (.bipush 8, 2) := by decide +kernel
theorem dX5_purrs_102 : decode cX5_purrs 102 = .ok (.iadd, 1) := by decide +kernel
theorem dX5_purrs_103 : decode cX5_purrs 103 = .ok (.aload_n 0, 1) := by decide +kernel
theorem dX5_purrs_104 : decode cX5_purrs 104 = .ok (.getfield 7, 3) := by decide +kernel
theorem dX5_purrs_107 : decode cX5_purrs 107 = .ok (.iload_n 1, 1) := by decide +kernel
theorem dX5_purrs_108 : decode cX5_purrs 108 = .ok (.bipush 8, 2) := by decide +kernel
theorem dX5_purrs_110 : decode cX5_purrs 110 = .ok (.iadd, 1) := by decide +kernel
theorem dX5_purrs_111 : decode cX5_purrs 111 = .ok (.iaload, 1) := by decide +kernel
theorem dX5_purrs_112 : decode cX5_purrs 112 = .ok (.iconst 3, 1) := by decide +kernel
theorem dX5_purrs_113 : decode cX5_purrs 113 = .ok (.if_icmp .ge 7, 3) := by decide +kernel
theorem dX5_purrs_116 : decode cX5_purrs 116 = .ok (.iconst 0, 1) := by decide +kernel
theorem dX5_purrs_117 : decode cX5_purrs 117 = .ok (.goto 14, 3) := by decide +kernel
theorem dX5_purrs_120 : decode cX5_purrs 120 = .ok (.aload_n 0, 1) := by decide +kernel
theorem dX5_purrs_121 : decode cX5_purrs 121 = .ok (.getfield 7, 3) := by decide +kernel
theorem dX5_purrs_124 : decode cX5_purrs 124 = .ok (.iload_n 1, 1) := by decide +kernel
theorem dX5_purrs_125 : decode cX5_purrs 125 = .ok (.bipush 8, 2) := by decide +kernel
theorem dX5_purrs_127 : decode cX5_purrs 127 = .ok (.iadd, 1) := by decide +kernel
theorem dX5_purrs_128 : decode cX5_purrs 128 = .ok (.iaload, 1) := by decide +kernel
theorem dX5_purrs_129 : decode cX5_purrs 129 = .ok (.iconst 3, 1) := by decide +kernel
theorem dX5_purrs_130 : decode cX5_purrs 130 = .ok (.isub, 1) := by decide +kernel
theorem dX5_purrs_131 : decode cX5_purrs 131 = .ok (.iastore, 1) := by decide +kernel
theorem dX5_purrs_132 : decode cX5_purrs 132 = .ok (.aload_n 0, 1) := by decide +kernel
theorem dX5_purrs_133 : decode cX5_purrs 133 = .ok (.getfield 7, 3) := by decide +kernel
theorem dX5_purrs_136 : decode cX5_purrs 136 = .ok (.iload_n 1, 1) := by decide +kernel
theorem dX5_purrs_137 : decode cX5_purrs 137 = .ok (.bipush 10, 2) := by decide +kernel
theorem dX5_purrs_139 : decode cX5_purrs 139 = .ok (.iadd, 1) := by decide +kernel
theorem dX5_purrs_140 : decode cX5_purrs 140 = .ok (.aload_n 0, 1) := by decide +kernel
theorem dX5_purrs_141 : decode cX5_purrs 141 = .ok (.iload_n 1, 1) := by decide +kernel
theorem dX5_purrs_142 : decode cX5_purrs 142 = .ok (.iload_n 2, 1) := by decide +kernel
theorem dX5_purrs_143 : decode cX5_purrs 143 = .ok (.invokevirtual 53, 3) := by decide +kernel
theorem dX5_purrs_146 : decode cX5_purrs 146 = .ok (.iastore, 1) := by decide +kernel
theorem dX5_purrs_147 : decode cX5_purrs 147 = .ok (.iconst 0, 1) := by decide +kernel
theorem dX5_purrs_148 : decode cX5_purrs 148 = .ok (.ireturn, 1) := by decide +kernel
theorem dX5_deposes_0 : decode cX5_deposes 0 = .ok (.aload_n 0, 1) := by decide +kernel
theorem dX5_deposes_1 : decode cX5_deposes 1 = .ok (.getfield 7, 3) := by decide +kernel
theorem dX5_deposes_4 : decode cX5_deposes 4 = .ok (.iload_n 1, 1) := by decide +kernel
theorem dX5_deposes_5 : decode cX5_deposes 5 = .ok (.bipush 9, 2) := by decide +kernel
theorem dX5_deposes_7 : decode cX5_deposes 7 = .ok (.iadd, 1) := by decide +kernel
theorem dX5_deposes_8 : decode cX5_deposes 8 = .ok (.iconst (-1), 1) := by decide +kernel
theorem dX5_deposes_9 : decode cX5_deposes 9 = .ok (.iastore, 1) := by decide +kernel
theorem dX5_deposes_10 : decode cX5_deposes 10 = .ok (.aload_n 0, 1) := by decide +kernel
theorem dX5_deposes_11 : decode cX5_deposes 11 = .ok (.getfield 7, 3) := by decide +kernel
theorem dX5_deposes_14 : decode cX5_deposes 14 = .ok (.iload_n 1, 1) := by decide +kernel
theorem dX5_deposes_15 : decode cX5_deposes 15 = .ok (.bipush 10, 2) := by decide +kernel
theorem dX5_deposes_17 : decode cX5_deposes 17 = .ok (.iadd, 1) := by decide +kernel
theorem dX5_deposes_18 : decode cX5_deposes 18 = .ok (.iload_n 2, 1) := by decide +kernel
theorem dX5_deposes_19 : decode cX5_deposes 19 = .ok (.iastore, 1) := by decide +kernel
theorem dX5_deposes_20 : decode cX5_deposes 20 = .ok (.aload_n 0, 1) := by decide +kernel
theorem dX5_deposes_21 : decode cX5_deposes 21 = .ok (.getfield 7, 3) := by decide +kernel
theorem dX5_deposes_24 : decode cX5_deposes 24 = .ok (.iload_n 1, 1) := by decide +kernel
theorem dX5_deposes_25 : decode cX5_deposes 25 = .ok (.bipush 14, 2) := by decide +kernel
theorem dX5_deposes_27 : decode cX5_deposes 27 = .ok (.iadd, 1) := by decide +kernel
theorem dX5_deposes_28 : decode cX5_deposes 28 = .ok (.dup2, 1) := by decide +kernel
theorem dX5_deposes_29 : decode cX5_deposes 29 = .ok (.iaload, 1) := by decide +kernel
theorem dX5_deposes_30 : decode cX5_deposes 30 = .ok (.iconst 1, 1) := by decide +kernel
theorem dX5_deposes_31 : decode cX5_deposes 31 = .ok (.iadd, 1) := by decide +kernel
theorem dX5_deposes_32 : decode cX5_deposes 32 = .ok (.iastore, 1) := by decide +kernel
theorem dX5_deposes_33 : decode cX5_deposes 33 = .ok (.return_, 1) := by decide +kernel
theorem dX5_pays_0 : decode cX5_pays 0 = .ok (.aload_n 0, 1) := by decide +kernel
theorem dX5_pays_1 : decode cX5_pays 1 = .ok (.getfield 7, 3) := by decide +kernel
theorem dX5_pays_4 : decode cX5_pays 4 = .ok (.iload_n 1, 1) := by decide +kernel
theorem dX5_pays_5 : decode cX5_pays 5 = .ok (.bipush 9, 2) := by decide +kernel
theorem dX5_pays_7 : decode cX5_pays 7 = .ok (.iadd, 1) := by decide +kernel
theorem dX5_pays_8 : decode cX5_pays 8 = .ok (.iaload, 1) := by decide +kernel
theorem dX5_pays_9 : decode cX5_pays 9 = .ok (.istore_n 2, 1) := by decide +kernel
theorem dX5_pays_10 : decode cX5_pays 10 = .ok (.iload_n 2, 1) := by decide +kernel
theorem dX5_pays_11 : decode cX5_pays 11 = .ok (.ifCond .ge 16, 3) := by decide +kernel
theorem dX5_pays_14 : decode cX5_pays 14 = .ok (.aload_n 0, 1) := by decide +kernel
theorem dX5_pays_15 : decode cX5_pays 15 = .ok (.getfield 7, 3) := by decide +kernel
theorem dX5_pays_18 : decode cX5_pays 18 = .ok (.iload_n 1, 1) := by decide +kernel
theorem dX5_pays_19 : decode cX5_pays 19 = .ok (.iconst 1, 1) := by decide +kernel
theorem dX5_pays_20 : decode cX5_pays 20 = .ok (.iadd, 1) := by decide +kernel
theorem dX5_pays_21 : decode cX5_pays 21 = .ok (.iaload, 1) := by decide +kernel
theorem dX5_pays_22 : decode cX5_pays 22 = .ok (.iconst 2, 1) := by decide +kernel
theorem dX5_pays_23 : decode cX5_pays 23 = .ok (.idiv, 1) := by decide +kernel
theorem dX5_pays_24 : decode cX5_pays 24 = .ok (.goto 11, 3) := by decide +kernel
theorem dX5_pays_27 : decode cX5_pays 27 = .ok (.aload_n 0, 1) := by decide +kernel
theorem dX5_pays_28 : decode cX5_pays 28 = .ok (.getfield 7, 3) := by decide +kernel
theorem dX5_pays_31 : decode cX5_pays 31 = .ok (.iload_n 1, 1) := by decide +kernel
theorem dX5_pays_32 : decode cX5_pays 32 = .ok (.iconst 1, 1) := by decide +kernel
theorem dX5_pays_33 : decode cX5_pays 33 = .ok (.iadd, 1) := by decide +kernel
theorem dX5_pays_34 : decode cX5_pays 34 = .ok (.iaload, 1) := by decide +kernel
theorem dX5_pays_35 : decode cX5_pays 35 = .ok (.aload_n 0, 1) := by decide +kernel
theorem dX5_pays_36 : decode cX5_pays 36 = .ok (.getfield 7, 3) := by decide +kernel
theorem dX5_pays_39 : decode cX5_pays 39 = .ok (.iload_n 1, 1) := by decide +kernel
theorem dX5_pays_40 : decode cX5_pays 40 = .ok (.bipush 11, 2) := by decide +kernel
theorem dX5_pays_42 : decode cX5_pays 42 = .ok (.iadd, 1) := by decide +kernel
theorem dX5_pays_43 : decode cX5_pays 43 = .ok (.iaload, 1) := by decide +kernel
theorem dX5_pays_44 : decode cX5_pays 44 = .ok (.invokestatic 56, 3) := by decide +kernel
theorem dX5_pays_47 : decode cX5_pays 47 = .ok (.istore_n 3, 1) := by decide +kernel
theorem dX5_pays_48 : decode cX5_pays 48 = .ok (.iload_n 2, 1) := by decide +kernel
theorem dX5_pays_49 : decode cX5_pays 49 = .ok (.ifCond .ge 7, 3) := by decide +kernel
theorem dX5_pays_52 : decode cX5_pays 52 = .ok (.iload_n 3, 1) := by decide +kernel
theorem dX5_pays_53 : decode cX5_pays 53 = .ok (.goto 20, 3) := by decide +kernel
theorem dX5_pays_56 : decode cX5_pays 56 = .ok (.iload_n 3, 1) := by decide +kernel
theorem dX5_pays_57 : decode cX5_pays 57 = .ok (.aload_n 0, 1) := by decide +kernel
theorem dX5_pays_58 : decode cX5_pays 58 = .ok (.getfield 7, 3) := by decide +kernel
theorem dX5_pays_61 : decode cX5_pays 61 = .ok (.iload_n 1, 1) := by decide +kernel
theorem dX5_pays_62 : decode cX5_pays 62 = .ok (.iload_n 2, 1) := by decide +kernel
theorem dX5_pays_63 : decode cX5_pays 63 = .ok (.invokestatic 34, 3) := by decide +kernel
theorem dX5_pays_66 : decode cX5_pays 66 = .ok (.iconst 1, 1) := by decide +kernel
theorem dX5_pays_67 : decode cX5_pays 67 = .ok (.iadd, 1) := by decide +kernel
theorem dX5_pays_68 : decode cX5_pays 68 = .ok (.iaload, 1) := by decide +kernel
theorem dX5_pays_69 : decode cX5_pays 69 = .ok (.imul, 1) := by decide +kernel
theorem dX5_pays_70 : decode cX5_pays 70 = .ok (.bipush 100, 2) := by decide +kernel
theorem dX5_pays_72 : decode cX5_pays 72 = .ok (.idiv, 1) := by decide +kernel
theorem dX5_pays_73 : decode cX5_pays 73 = .ok (.istore 4, 2) := by decide +kernel
theorem dX5_pays_75 : decode cX5_pays 75 = .ok (.aload_n 0, 1) := by decide +kernel
theorem dX5_pays_76 : decode cX5_pays 76 = .ok (.getfield 7, 3) := by decide +kernel
theorem dX5_pays_79 : decode cX5_pays 79 = .ok (.iload_n 1, 1) := by decide +kernel
theorem dX5_pays_80 : decode cX5_pays 80 = .ok (.bipush 11, 2) := by decide +kernel
theorem dX5_pays_82 : decode cX5_pays 82 = .ok (.iadd, 1) := by decide +kernel
theorem dX5_pays_83 : decode cX5_pays 83 = .ok (.dup2, 1) := by decide +kernel
theorem dX5_pays_84 : decode cX5_pays 84 = .ok (.iaload, 1) := by decide +kernel
theorem dX5_pays_85 : decode cX5_pays 85 = .ok (.iload_n 3, 1) := by decide +kernel
theorem dX5_pays_86 : decode cX5_pays 86 = .ok (.isub, 1) := by decide +kernel
theorem dX5_pays_87 : decode cX5_pays 87 = .ok (.iastore, 1) := by decide +kernel
theorem dX5_pays_88 : decode cX5_pays 88 = .ok (.aload_n 0, 1) := by decide +kernel
theorem dX5_pays_89 : decode cX5_pays 89 = .ok (.getfield 7, 3) := by decide +kernel
theorem dX5_pays_92 : decode cX5_pays 92 = .ok (.iload_n 1, 1) := by decide +kernel
theorem dX5_pays_93 : decode cX5_pays 93 = .ok (.bipush 15, 2) := by decide +kernel
theorem dX5_pays_95 : decode cX5_pays 95 = .ok (.iadd, 1) := by decide +kernel
theorem dX5_pays_96 : decode cX5_pays 96 = .ok (.dup2, 1) := by decide +kernel
theorem dX5_pays_97 : decode cX5_pays 97 = .ok (.iaload, 1) := by decide +kernel
theorem dX5_pays_98 : decode cX5_pays 98 = .ok (.iload 4, 2) := by decide +kernel
theorem dX5_pays_100 : decode cX5_pays 100 = .ok (.iadd, 1) := by decide +kernel
theorem dX5_pays_101 : decode cX5_pays 101 = .ok (.iastore, 1) := by decide +kernel
theorem dX5_pays_102 : decode cX5_pays 102 = .ok (.iload_n 2, 1) := by decide +kernel
theorem dX5_pays_103 : decode cX5_pays 103 = .ok (.ifCond .lt 76, 3) := by decide +kernel
theorem dX5_pays_106 : decode cX5_pays 106 = .ok (.aload_n 0, 1) := by decide +kernel
theorem dX5_pays_107 : decode cX5_pays 107 = .ok (.getfield 7, 3) := by decide +kernel
theorem dX5_pays_110 : decode cX5_pays 110 = .ok (.iload_n 1, 1) := by decide +kernel
theorem dX5_pays_111 : decode cX5_pays 111 = .ok (.iload_n 2, 1) := by decide +kernel
theorem dX5_pays_112 : decode cX5_pays 112 = .ok (.invokestatic 34, 3) := by decide +kernel
theorem dX5_pays_115 : decode cX5_pays 115 = .ok (.iconst 3, 1) := by decide +kernel
theorem dX5_pays_116 : decode cX5_pays 116 = .ok (.iadd, 1) := by decide +kernel
theorem dX5_pays_117 : decode cX5_pays 117 = .ok (.dup2, 1) := by decide +kernel
theorem dX5_pays_118 : decode cX5_pays 118 = .ok (.iaload, 1) := by decide +kernel
theorem dX5_pays_119 : decode cX5_pays 119 = .ok (.iload_n 3, 1) := by decide +kernel
theorem dX5_pays_120 : decode cX5_pays 120 = .ok (.iload 4, 2) := by decide +kernel
theorem dX5_pays_122 : decode cX5_pays 122 = .ok (.isub, 1) := by decide +kernel
theorem dX5_pays_123 : decode cX5_pays 123 = .ok (.iadd, 1) := by decide +kernel
theorem dX5_pays_124 : decode cX5_pays 124 = .ok (.iastore, 1) := by decide +kernel
theorem dX5_pays_125 : decode cX5_pays 125 = .ok (.aload_n 0, 1) := by decide +kernel
theorem dX5_pays_126 : decode cX5_pays 126 = .ok (.getfield 7, 3) := by decide +kernel
theorem dX5_pays_129 : decode cX5_pays 129 = .ok (.iload_n 1, 1) := by decide +kernel
theorem dX5_pays_130 : decode cX5_pays 130 = .ok (.bipush 8, 2) := by decide +kernel
theorem dX5_pays_132 : decode cX5_pays 132 = .ok (.iadd, 1) := by decide +kernel
theorem dX5_pays_133 : decode cX5_pays 133 = .ok (.aload_n 0, 1) := by decide +kernel
theorem dX5_pays_134 : decode cX5_pays 134 = .ok (.getfield 7, 3) := by decide +kernel
theorem dX5_pays_137 : decode cX5_pays 137 = .ok (.iload_n 1, 1) := by decide +kernel
theorem dX5_pays_138 : decode cX5_pays 138 = .ok (.bipush 8, 2) := by decide +kernel
theorem dX5_pays_140 : decode cX5_pays 140 = .ok (.iadd, 1) := by decide +kernel
theorem dX5_pays_141 : decode cX5_pays 141 = .ok (.iaload, 1) := by decide +kernel
theorem dX5_pays_142 : decode cX5_pays 142 = .ok (.iload 4, 2) := by decide +kernel
theorem dX5_pays_144 : decode cX5_pays 144 = .ok (.iconst 2, 1) := by decide +kernel
theorem dX5_pays_145 : decode cX5_pays 145 = .ok (.idiv, 1) := by decide +kernel
theorem dX5_pays_146 : decode cX5_pays 146 = .ok (.iadd, 1) := by decide +kernel
theorem dX5_pays_147 : decode cX5_pays 147 = .ok (.bipush 99, 2) := by decide +kernel
theorem dX5_pays_149 : decode cX5_pays 149 = .ok (.invokestatic 56, 3) := by decide +kernel
theorem dX5_pays_152 : decode cX5_pays 152 = .ok (.iastore, 1) := by decide +kernel
theorem dX5_pays_153 : decode cX5_pays 153 = .ok (.aload_n 0, 1) := by decide +kernel
theorem dX5_pays_154 : decode cX5_pays 154 = .ok (.getfield 7, 3) := by decide +kernel
theorem dX5_pays_157 : decode cX5_pays 157 = .ok (.iload_n 1, 1) := by decide +kernel
theorem dX5_pays_158 : decode cX5_pays 158 = .ok (.bipush 8, 2) := by decide +kernel
theorem dX5_pays_160 : decode cX5_pays 160 = .ok (.iadd, 1) := by decide +kernel
theorem dX5_pays_161 : decode cX5_pays 161 = .ok (.iaload, 1) := by decide +kernel
theorem dX5_pays_162 : decode cX5_pays 162 = .ok (.aload_n 0, 1) := by decide +kernel
theorem dX5_pays_163 : decode cX5_pays 163 = .ok (.getfield 7, 3) := by decide +kernel
theorem dX5_pays_166 : decode cX5_pays 166 = .ok (.iload_n 1, 1) := by decide +kernel
theorem dX5_pays_167 : decode cX5_pays 167 = .ok (.iconst 5, 1) := by decide +kernel
theorem dX5_pays_168 : decode cX5_pays 168 = .ok (.iadd, 1) := by decide +kernel
theorem dX5_pays_169 : decode cX5_pays 169 = .ok (.iaload, 1) := by decide +kernel
theorem dX5_pays_170 : decode cX5_pays 170 = .ok (.if_icmp .ge 9, 3) := by decide +kernel
theorem dX5_pays_173 : decode cX5_pays 173 = .ok (.aload_n 0, 1) := by decide +kernel
theorem dX5_pays_174 : decode cX5_pays 174 = .ok (.iload_n 1, 1) := by decide +kernel
theorem dX5_pays_175 : decode cX5_pays 175 = .ok (.iconst 0, 1) := by decide +kernel
theorem dX5_pays_176 : decode cX5_pays 176 = .ok (.invokevirtual 59, 3) := by decide +kernel
theorem dX5_pays_179 : decode cX5_pays 179 = .ok (.return_, 1) := by decide +kernel
theorem dX5_passesOne_0 : decode cX5_passesOne 0 = .ok (.aload_n 0, 1) := by decide +kernel
theorem dX5_passesOne_1 : decode cX5_passesOne 1 = .ok (.getfield 7, 3) := by decide +kernel
theorem dX5_passesOne_4 : decode cX5_passesOne 4 = .ok (.iload_n 1, 1) := by decide +kernel
theorem dX5_passesOne_5 : decode cX5_passesOne 5 = .ok (.bipush 6, 2) := by decide +kernel
theorem dX5_passesOne_7 : decode cX5_passesOne 7 = .ok (.iadd, 1) := by decide +kernel
theorem dX5_passesOne_8 : decode cX5_passesOne 8 = .ok (.dup2, 1) := by decide +kernel
theorem dX5_passesOne_9 : decode cX5_passesOne 9 = .ok (.iaload, 1) := by decide +kernel
theorem dX5_passesOne_10 : decode cX5_passesOne 10 = .ok (.iconst 1, 1) := by decide +kernel
theorem dX5_passesOne_11 : decode cX5_passesOne 11 = .ok (.iadd, 1) := by decide +kernel
theorem dX5_passesOne_12 : decode cX5_passesOne 12 = .ok (.iastore, 1) := by decide +kernel
theorem dX5_passesOne_13 : decode cX5_passesOne 13 = .ok (.aload_n 0, 1) := by decide +kernel
theorem dX5_passesOne_14 : decode cX5_passesOne 14 = .ok (.iload_n 1, 1) := by decide +kernel
theorem dX5_passesOne_15 : decode cX5_passesOne 15 = .ok (.invokevirtual 62, 3) := by decide +kernel
theorem dX5_passesOne_18 : decode cX5_passesOne 18 = .ok (.istore_n 2, 1) := by decide +kernel
theorem dX5_passesOne_19 : decode cX5_passesOne 19 = .ok (.aload_n 0, 1) := by decide +kernel
theorem dX5_passesOne_20 : decode cX5_passesOne 20 = .ok (.getfield 7, 3) := by decide +kernel
theorem dX5_passesOne_23 : decode cX5_passesOne 23 = .ok (.iload_n 1, 1) := by decide +kernel
theorem dX5_passesOne_24 : decode cX5_passesOne 24 = .ok (.bipush 6, 2) := by decide +kernel
theorem dX5_passesOne_26 : decode cX5_passesOne 26 = .ok (.iadd, 1) := by decide +kernel
theorem dX5_passesOne_27 : decode cX5_passesOne 27 = .ok (.iaload, 1) := by decide +kernel
theorem dX5_passesOne_28 : decode cX5_passesOne 28 = .ok (.aload_n 0, 1) := by decide +kernel
theorem dX5_passesOne_29 : decode cX5_passesOne 29 = .ok (.getfield 7, 3) := by decide +kernel
theorem dX5_passesOne_32 : decode cX5_passesOne 32 = .ok (.iload_n 1, 1) := by decide +kernel
theorem dX5_passesOne_33 : decode cX5_passesOne 33 = .ok (.iconst 3, 1) := by decide +kernel
theorem dX5_passesOne_34 : decode cX5_passesOne 34 = .ok (.iadd, 1) := by decide +kernel
theorem dX5_passesOne_35 : decode cX5_passesOne 35 = .ok (.iaload, 1) := by decide +kernel
theorem dX5_passesOne_36 : decode cX5_passesOne 36 = .ok (.irem, 1) := by decide +kernel
theorem dX5_passesOne_37 : decode cX5_passesOne 37 = .ok (.ifCond .ne 8, 3) := by decide +kernel
theorem dX5_passesOne_40 : decode cX5_passesOne 40 = .ok (.aload_n 0, 1) := by decide +kernel
theorem dX5_passesOne_41 : decode cX5_passesOne 41 = .ok (.iload_n 1, 1) := by decide +kernel
theorem dX5_passesOne_42 : decode cX5_passesOne 42 = .ok (.invokevirtual 66, 3) := by decide +kernel
theorem dX5_passesOne_45 : decode cX5_passesOne 45 = .ok (.aload_n 0, 1) := by decide +kernel
theorem dX5_passesOne_46 : decode cX5_passesOne 46 = .ok (.getfield 7, 3) := by decide +kernel
theorem dX5_passesOne_49 : decode cX5_passesOne 49 = .ok (.iload_n 1, 1) := by decide +kernel
theorem dX5_passesOne_50 : decode cX5_passesOne 50 = .ok (.bipush 8, 2) := by decide +kernel
theorem dX5_passesOne_52 : decode cX5_passesOne 52 = .ok (.iadd, 1) := by decide +kernel
theorem dX5_passesOne_53 : decode cX5_passesOne 53 = .ok (.dup2, 1) := by decide +kernel
theorem dX5_passesOne_54 : decode cX5_passesOne 54 = .ok (.iaload, 1) := by decide +kernel
theorem dX5_passesOne_55 : decode cX5_passesOne 55 = .ok (.aload_n 0, 1) := by decide +kernel
theorem dX5_passesOne_56 : decode cX5_passesOne 56 = .ok (.getfield 7, 3) := by decide +kernel
theorem dX5_passesOne_59 : decode cX5_passesOne 59 = .ok (.iload_n 1, 1) := by decide +kernel
theorem dX5_passesOne_60 : decode cX5_passesOne 60 = .ok (.bipush 8, 2) := by decide +kernel
theorem dX5_passesOne_62 : decode cX5_passesOne 62 = .ok (.iadd, 1) := by decide +kernel
theorem dX5_passesOne_63 : decode cX5_passesOne 63 = .ok (.iaload, 1) := by decide +kernel
theorem dX5_passesOne_64 : decode cX5_passesOne 64 = .ok (.bipush 50, 2) := by decide +kernel
theorem dX5_passesOne_66 : decode cX5_passesOne 66 = .ok (.if_icmp .ge 7, 3) := by decide +kernel
theorem dX5_passesOne_69 : decode cX5_passesOne 69 = .ok (.iconst 1, 1) := by decide +kernel
theorem dX5_passesOne_70 : decode cX5_passesOne 70 = .ok (.goto 22, 3) := by decide +kernel
theorem dX5_passesOne_73 : decode cX5_passesOne 73 = .ok (.aload_n 0, 1) := by decide +kernel
theorem dX5_passesOne_74 : decode cX5_passesOne 74 = .ok (.getfield 7, 3) := by decide +kernel
theorem dX5_passesOne_77 : decode cX5_passesOne 77 = .ok (.iload_n 1, 1) := by decide +kernel
theorem dX5_passesOne_78 : decode cX5_passesOne 78 = .ok (.bipush 8, 2) := by decide +kernel
theorem dX5_passesOne_80 : decode cX5_passesOne 80 = .ok (.iadd, 1) := by decide +kernel
theorem dX5_passesOne_81 : decode cX5_passesOne 81 = .ok (.iaload, 1) := by decide +kernel
theorem dX5_passesOne_82 : decode cX5_passesOne 82 = .ok (.bipush 50, 2) := by decide +kernel
theorem dX5_passesOne_84 : decode cX5_passesOne 84 = .ok (.if_icmp .le 7, 3) := by decide +kernel
theorem dX5_passesOne_87 : decode cX5_passesOne 87 = .ok (.iconst (-1), 1) := by decide +kernel
theorem dX5_passesOne_88 : decode cX5_passesOne 88 = .ok (.goto 4, 3) := by decide +kernel
theorem dX5_passesOne_91 : decode cX5_passesOne 91 = .ok (.iconst 0, 1) := by decide +kernel
theorem dX5_passesOne_92 : decode cX5_passesOne 92 = .ok (.iadd, 1) := by decide +kernel
theorem dX5_passesOne_93 : decode cX5_passesOne 93 = .ok (.iastore, 1) := by decide +kernel
theorem dX5_passesOne_94 : decode cX5_passesOne 94 = .ok (.aload_n 0, 1) := by decide +kernel
theorem dX5_passesOne_95 : decode cX5_passesOne 95 = .ok (.getfield 7, 3) := by decide +kernel
theorem dX5_passesOne_98 : decode cX5_passesOne 98 = .ok (.iload_n 1, 1) := by decide +kernel
theorem dX5_passesOne_99 : decode cX5_passesOne 99 = .ok (.bipush 9, 2) := by decide +kernel
theorem dX5_passesOne_101 : decode cX5_passesOne 101 = .ok (.iadd, 1) := by decide +kernel
theorem dX5_passesOne_102 : decode cX5_passesOne 102 = .ok (.iaload, 1) := by decide +kernel
theorem dX5_passesOne_103 : decode cX5_passesOne 103 = .ok (.ifCond .lt 27, 3) := by decide +kernel
theorem dX5_passesOne_106 : decode cX5_passesOne 106 = .ok (.aload_n 0, 1) := by decide +kernel
theorem dX5_passesOne_107 : decode cX5_passesOne 107 = .ok (.getfield 7, 3) := by decide +kernel
theorem dX5_passesOne_110 : decode cX5_passesOne 110 = .ok (.iload_n 1, 1) := by decide +kernel
theorem dX5_passesOne_111 : decode cX5_passesOne 111 = .ok (.aload_n 0, 1) := by decide +kernel
theorem dX5_passesOne_112 : decode cX5_passesOne 112 = .ok (.getfield 7, 3) := by decide +kernel
theorem dX5_passesOne_115 : decode cX5_passesOne 115 = .ok (.iload_n 1, 1) := by decide +kernel
theorem dX5_passesOne_116 : decode cX5_passesOne 116 = .ok (.bipush 9, 2) := by decide +kernel
theorem dX5_passesOne_118 : decode cX5_passesOne 118 = .ok (.iadd, 1) := by decide +kernel
theorem dX5_passesOne_119 : decode cX5_passesOne 119 = .ok (.iaload, 1) := by decide +kernel
theorem dX5_passesOne_120 : decode cX5_passesOne 120 = .ok (.invokestatic 34, 3) := by decide +kernel
theorem dX5_passesOne_123 : decode cX5_passesOne 123 = .ok (.iconst 5, 1) := by decide +kernel
theorem dX5_passesOne_124 : decode cX5_passesOne 124 = .ok (.iadd, 1) := by decide +kernel
theorem dX5_passesOne_125 : decode cX5_passesOne 125 = .ok (.dup2, 1) := by decide +kernel
theorem dX5_passesOne_126 : decode cX5_passesOne 126 = .ok (.iaload, 1) := by decide +kernel
theorem dX5_passesOne_127 : decode cX5_passesOne 127 = .ok (.iconst 1, 1) := by decide +kernel
theorem dX5_passesOne_128 : decode cX5_passesOne 128 = .ok (.iadd, 1) := by decide +kernel
theorem dX5_passesOne_129 : decode cX5_passesOne 129 = .ok (.iastore, 1) := by decide +kernel
theorem dX5_passesOne_130 : decode cX5_passesOne 130 = .ok (.iload_n 2, 1) := by decide +kernel
theorem dX5_passesOne_131 : decode cX5_passesOne 131 = .ok (.ireturn, 1) := by decide +kernel
theorem dX5_passes_0 : decode cX5_passes 0 = .ok (.iconst 0, 1) := by decide +kernel
theorem dX5_passes_1 : decode cX5_passes 1 = .ok (.istore_n 3, 1) := by decide +kernel
theorem dX5_passes_2 : decode cX5_passes 2 = .ok (.iconst 0, 1) := by decide +kernel
theorem dX5_passes_3 : decode cX5_passes 3 = .ok (.istore 4, 2) := by decide +kernel
theorem dX5_passes_5 : decode cX5_passes 5 = .ok (.iload 4, 2) := by decide +kernel
theorem dX5_passes_7 : decode cX5_passes 7 = .ok (.iload_n 2, 1) := by decide +kernel
theorem dX5_passes_8 : decode cX5_passes 8 = .ok (.if_icmp .ge 25, 3) := by decide +kernel
theorem dX5_passes_11 : decode cX5_passes 11 = .ok (.iload_n 3, 1) := by decide +kernel
theorem dX5_passes_12 : decode cX5_passes 12 = .ok (.aload_n 0, 1) := by decide +kernel
theorem dX5_passes_13 : decode cX5_passes 13 = .ok (.iload_n 1, 1) := by decide +kernel
theorem dX5_passes_14 : decode cX5_passes 14 = .ok (.invokevirtual 70, 3) := by decide +kernel
theorem dX5_passes_17 : decode cX5_passes 17 = .ok (.ifCond .eq 7, 3) := by decide +kernel
theorem dX5_passes_20 : decode cX5_passes 20 = .ok (.iconst 1, 1) := by decide +kernel
theorem dX5_passes_21 : decode cX5_passes 21 = .ok (.goto 4, 3) := by decide +kernel
theorem dX5_passes_24 : decode cX5_passes 24 = .ok (.iconst 0, 1) := by decide +kernel
theorem dX5_passes_25 : decode cX5_passes 25 = .ok (.iadd, 1) := by decide +kernel
theorem dX5_passes_26 : decode cX5_passes 26 = .ok (.istore_n 3, 1) := by decide +kernel
theorem dX5_passes_27 : decode cX5_passes 27 = .ok (.iinc 4 1, 3) := by decide +kernel
theorem dX5_passes_30 : decode cX5_passes 30 = .ok (.goto (-25), 3) := by decide +kernel
theorem dX5_passes_33 : decode cX5_passes 33 = .ok (.iload_n 3, 1) := by decide +kernel
theorem dX5_passes_34 : decode cX5_passes 34 = .ok (.ireturn, 1) := by decide +kernel
theorem dX5_moved_0 : decode cX5_moved 0 = .ok (.iload_n 0, 1) := by decide +kernel
theorem dX5_moved_1 : decode cX5_moved 1 = .ok (.iload_n 1, 1) := by decide +kernel
theorem dX5_moved_2 : decode cX5_moved 2 = .ok (.if_icmp .ne 5, 3) := by decide +kernel
theorem dX5_moved_5 : decode cX5_moved 5 = .ok (.iload_n 2, 1) := by decide +kernel
theorem dX5_moved_6 : decode cX5_moved 6 = .ok (.ireturn, 1) := by decide +kernel
theorem dX5_moved_7 : decode cX5_moved 7 = .ok (.iload_n 0, 1) := by decide +kernel
theorem dX5_moved_8 : decode cX5_moved 8 = .ok (.iload_n 1, 1) := by decide +kernel
theorem dX5_moved_9 : decode cX5_moved 9 = .ok (.if_icmp .le 14, 3) := by decide +kernel
theorem dX5_moved_12 : decode cX5_moved 12 = .ok (.iload_n 0, 1) := by decide +kernel
theorem dX5_moved_13 : decode cX5_moved 13 = .ok (.iload_n 2, 1) := by decide +kernel
theorem dX5_moved_14 : decode cX5_moved 14 = .ok (.if_icmp .gt 9, 3) := by decide +kernel
theorem dX5_moved_17 : decode cX5_moved 17 = .ok (.iload_n 0, 1) := by decide +kernel
theorem dX5_moved_18 : decode cX5_moved 18 = .ok (.iconst 1, 1) := by decide +kernel
theorem dX5_moved_19 : decode cX5_moved 19 = .ok (.isub, 1) := by decide +kernel
theorem dX5_moved_20 : decode cX5_moved 20 = .ok (.goto 20, 3) := by decide +kernel
theorem dX5_moved_23 : decode cX5_moved 23 = .ok (.iload_n 0, 1) := by decide +kernel
theorem dX5_moved_24 : decode cX5_moved 24 = .ok (.iload_n 1, 1) := by decide +kernel
theorem dX5_moved_25 : decode cX5_moved 25 = .ok (.if_icmp .ge 14, 3) := by decide +kernel
theorem dX5_moved_28 : decode cX5_moved 28 = .ok (.iload_n 0, 1) := by decide +kernel
theorem dX5_moved_29 : decode cX5_moved 29 = .ok (.iload_n 2, 1) := by decide +kernel
theorem dX5_moved_30 : decode cX5_moved 30 = .ok (.if_icmp .lt 9, 3) := by decide +kernel
theorem dX5_moved_33 : decode cX5_moved 33 = .ok (.iload_n 0, 1) := by decide +kernel
theorem dX5_moved_34 : decode cX5_moved 34 = .ok (.iconst 1, 1) := by decide +kernel
theorem dX5_moved_35 : decode cX5_moved 35 = .ok (.iadd, 1) := by decide +kernel
theorem dX5_moved_36 : decode cX5_moved 36 = .ok (.goto 4, 3) := by decide +kernel
theorem dX5_moved_39 : decode cX5_moved 39 = .ok (.iload_n 0, 1) := by decide +kernel
theorem dX5_moved_40 : decode cX5_moved 40 = .ok (.ireturn, 1) := by decide +kernel
theorem dX5_changesPlaces_0 : decode cX5_changesPlaces 0 = .ok (.iconst 0, 1) := by decide +kernel
theorem dX5_changesPlaces_1 : decode cX5_changesPlaces 1 = .ok (.istore 4, 2) := by decide +kernel
theorem dX5_changesPlaces_3 : decode cX5_changesPlaces 3 = .ok (.iload 4, 2) := by decide +kernel
theorem dX5_changesPlaces_5 : decode cX5_changesPlaces 5 = .ok (.bipush 6, 2) := by decide +kernel
theorem dX5_changesPlaces_7 : decode cX5_changesPlaces 7 = .ok (.if_icmp .ge 65, 3) := by decide +kernel
theorem dX5_changesPlaces_10 : decode cX5_changesPlaces 10 = .ok (.aload_n 0, 1) := by decide +kernel
theorem dX5_changesPlaces_11 : decode cX5_changesPlaces 11 = .ok (.getfield 7, 3) := by decide +kernel
theorem dX5_changesPlaces_14 : decode cX5_changesPlaces 14 = .ok (.iload_n 1, 1) := by decide +kernel
theorem dX5_changesPlaces_15 : decode cX5_changesPlaces 15 = .ok (.iload_n 2, 1) := by decide +kernel
theorem dX5_changesPlaces_16 : decode cX5_changesPlaces 16 = .ok (.invokestatic 34, 3) := by decide +kernel
theorem dX5_changesPlaces_19 : decode cX5_changesPlaces 19 = .ok (.iload 4, 2) := by decide +kernel
theorem dX5_changesPlaces_21 : decode cX5_changesPlaces 21 = .ok (.iadd, 1) := by decide +kernel
theorem dX5_changesPlaces_22 : decode cX5_changesPlaces 22 = .ok (.iaload, 1) := by decide +kernel
theorem dX5_changesPlaces_23 : decode cX5_changesPlaces 23 = .ok (.istore 5, 2) := by decide +kernel
theorem dX5_changesPlaces_25 : decode cX5_changesPlaces 25 = .ok (.aload_n 0, 1) := by decide +kernel
theorem dX5_changesPlaces_26 : decode cX5_changesPlaces 26 = .ok (.getfield 7, 3) := by decide +kernel
theorem dX5_changesPlaces_29 : decode cX5_changesPlaces 29 = .ok (.iload_n 1, 1) := by decide +kernel
theorem dX5_changesPlaces_30 : decode cX5_changesPlaces 30 = .ok (.iload_n 2, 1) := by decide +kernel
theorem dX5_changesPlaces_31 : decode cX5_changesPlaces 31 = .ok (.invokestatic 34, 3) := by decide +kernel
theorem dX5_changesPlaces_34 : decode cX5_changesPlaces 34 = .ok (.iload 4, 2) := by decide +kernel
theorem dX5_changesPlaces_36 : decode cX5_changesPlaces 36 = .ok (.iadd, 1) := by decide +kernel
theorem dX5_changesPlaces_37 : decode cX5_changesPlaces 37 = .ok (.aload_n 0, 1) := by decide +kernel
theorem dX5_changesPlaces_38 : decode cX5_changesPlaces 38 = .ok (.getfield 7, 3) := by decide +kernel
theorem dX5_changesPlaces_41 : decode cX5_changesPlaces 41 = .ok (.iload_n 1, 1) := by decide +kernel
theorem dX5_changesPlaces_42 : decode cX5_changesPlaces 42 = .ok (.iload_n 3, 1) := by decide +kernel
theorem dX5_changesPlaces_43 : decode cX5_changesPlaces 43 = .ok (.invokestatic 34, 3) := by decide +kernel
theorem dX5_changesPlaces_46 : decode cX5_changesPlaces 46 = .ok (.iload 4, 2) := by decide +kernel
theorem dX5_changesPlaces_48 : decode cX5_changesPlaces 48 = .ok (.iadd, 1) := by decide +kernel
theorem dX5_changesPlaces_49 : decode cX5_changesPlaces 49 = .ok (.iaload, 1) := by decide +kernel
theorem dX5_changesPlaces_50 : decode cX5_changesPlaces 50 = .ok (.iastore, 1) := by decide +kernel
theorem dX5_changesPlaces_51 : decode cX5_changesPlaces 51 = .ok (.aload_n 0, 1) := by decide +kernel
theorem dX5_changesPlaces_52 : decode cX5_changesPlaces 52 = .ok (.getfield 7, 3) := by decide +kernel
theorem dX5_changesPlaces_55 : decode cX5_changesPlaces 55 = .ok (.iload_n 1, 1) := by decide +kernel
theorem dX5_changesPlaces_56 : decode cX5_changesPlaces 56 = .ok (.iload_n 3, 1) := by decide +kernel
theorem dX5_changesPlaces_57 : decode cX5_changesPlaces 57 = .ok (.invokestatic 34, 3) := by decide +kernel
theorem dX5_changesPlaces_60 : decode cX5_changesPlaces 60 = .ok (.iload 4, 2) := by decide +kernel
theorem dX5_changesPlaces_62 : decode cX5_changesPlaces 62 = .ok (.iadd, 1) := by decide +kernel
theorem dX5_changesPlaces_63 : decode cX5_changesPlaces 63 = .ok (.iload 5, 2) := by decide +kernel
theorem dX5_changesPlaces_65 : decode cX5_changesPlaces 65 = .ok (.iastore, 1) := by decide +kernel
theorem dX5_changesPlaces_66 : decode cX5_changesPlaces 66 = .ok (.iinc 4 1, 3) := by decide +kernel
theorem dX5_changesPlaces_69 : decode cX5_changesPlaces 69 = .ok (.goto (-66), 3) := by decide +kernel
theorem dX5_changesPlaces_72 : decode cX5_changesPlaces 72 = .ok (.return_, 1) := by decide +kernel
theorem dX5_moves_0 : decode cX5_moves 0 = .ok (.iload_n 3, 1) := by decide +kernel
theorem dX5_moves_1 : decode cX5_moves 1 = .ok (.iload_n 2, 1) := by decide +kernel
theorem dX5_moves_2 : decode cX5_moves 2 = .ok (.if_icmp .le 7, 3) := by decide +kernel
theorem dX5_moves_5 : decode cX5_moves 5 = .ok (.iconst 1, 1) := by decide +kernel
theorem dX5_moves_6 : decode cX5_moves 6 = .ok (.goto 4, 3) := by decide +kernel
theorem dX5_moves_9 : decode cX5_moves 9 = .ok (.iconst (-1), 1) := by decide +kernel
theorem dX5_moves_10 : decode cX5_moves 10 = .ok (.istore 4, 2) := by decide +kernel
theorem dX5_moves_12 : decode cX5_moves 12 = .ok (.iload_n 2, 1) := by decide +kernel
theorem dX5_moves_13 : decode cX5_moves 13 = .ok (.istore 5, 2) := by decide +kernel
theorem dX5_moves_15 : decode cX5_moves 15 = .ok (.iload 5, 2) := by decide +kernel
theorem dX5_moves_17 : decode cX5_moves 17 = .ok (.iload_n 3, 1) := by decide +kernel
theorem dX5_moves_18 : decode cX5_moves 18 = .ok (.if_icmp .eq 25, 3) := by decide +kernel
theorem dX5_moves_21 : decode cX5_moves 21 = .ok (.aload_n 0, 1) := by decide +kernel
theorem dX5_moves_22 : decode cX5_moves 22 = .ok (.iload_n 1, 1) := by decide +kernel
theorem dX5_moves_23 : decode cX5_moves 23 = .ok (.iload 5, 2) := by decide +kernel
theorem dX5_moves_25 : decode cX5_moves 25 = .ok (.iload 5, 2) := by decide +kernel
theorem dX5_moves_27 : decode cX5_moves 27 = .ok (.iload 4, 2) := by decide +kernel
theorem dX5_moves_29 : decode cX5_moves 29 = .ok (.iadd, 1) := by decide +kernel
theorem dX5_moves_30 : decode cX5_moves 30 = .ok (.invokevirtual 73, 3) := by decide +kernel
theorem dX5_moves_33 : decode cX5_moves 33 = .ok (.iload 5, 2) := by decide +kernel
theorem dX5_moves_35 : decode cX5_moves 35 = .ok (.iload 4, 2) := by decide +kernel
theorem dX5_moves_37 : decode cX5_moves 37 = .ok (.iadd, 1) := by decide +kernel
theorem dX5_moves_38 : decode cX5_moves 38 = .ok (.istore 5, 2) := by decide +kernel
theorem dX5_moves_40 : decode cX5_moves 40 = .ok (.goto (-25), 3) := by decide +kernel
theorem dX5_moves_43 : decode cX5_moves 43 = .ok (.aload_n 0, 1) := by decide +kernel
theorem dX5_moves_44 : decode cX5_moves 44 = .ok (.getfield 7, 3) := by decide +kernel
theorem dX5_moves_47 : decode cX5_moves 47 = .ok (.iload_n 1, 1) := by decide +kernel
theorem dX5_moves_48 : decode cX5_moves 48 = .ok (.bipush 9, 2) := by decide +kernel
theorem dX5_moves_50 : decode cX5_moves 50 = .ok (.iadd, 1) := by decide +kernel
theorem dX5_moves_51 : decode cX5_moves 51 = .ok (.aload_n 0, 1) := by decide +kernel
theorem dX5_moves_52 : decode cX5_moves 52 = .ok (.getfield 7, 3) := by decide +kernel
theorem dX5_moves_55 : decode cX5_moves 55 = .ok (.iload_n 1, 1) := by decide +kernel
theorem dX5_moves_56 : decode cX5_moves 56 = .ok (.bipush 9, 2) := by decide +kernel
theorem dX5_moves_58 : decode cX5_moves 58 = .ok (.iadd, 1) := by decide +kernel
theorem dX5_moves_59 : decode cX5_moves 59 = .ok (.iaload, 1) := by decide +kernel
theorem dX5_moves_60 : decode cX5_moves 60 = .ok (.ifCond .ge 7, 3) := by decide +kernel
theorem dX5_moves_63 : decode cX5_moves 63 = .ok (.iconst (-1), 1) := by decide +kernel
theorem dX5_moves_64 : decode cX5_moves 64 = .ok (.goto 17, 3) := by decide +kernel
theorem dX5_moves_67 : decode cX5_moves 67 = .ok (.aload_n 0, 1) := by decide +kernel
theorem dX5_moves_68 : decode cX5_moves 68 = .ok (.getfield 7, 3) := by decide +kernel
theorem dX5_moves_71 : decode cX5_moves 71 = .ok (.iload_n 1, 1) := by decide +kernel
theorem dX5_moves_72 : decode cX5_moves 72 = .ok (.bipush 9, 2) := by decide +kernel
theorem dX5_moves_74 : decode cX5_moves 74 = .ok (.iadd, 1) := by decide +kernel
theorem dX5_moves_75 : decode cX5_moves 75 = .ok (.iaload, 1) := by decide +kernel
theorem dX5_moves_76 : decode cX5_moves 76 = .ok (.iload_n 2, 1) := by decide +kernel
theorem dX5_moves_77 : decode cX5_moves 77 = .ok (.iload_n 3, 1) := by decide +kernel
theorem dX5_moves_78 : decode cX5_moves 78 = .ok (.invokestatic 77, 3) := by decide +kernel
theorem dX5_moves_81 : decode cX5_moves 81 = .ok (.iastore, 1) := by decide +kernel
theorem dX5_moves_82 : decode cX5_moves 82 = .ok (.aload_n 0, 1) := by decide +kernel
theorem dX5_moves_83 : decode cX5_moves 83 = .ok (.getfield 7, 3) := by decide +kernel
theorem dX5_moves_86 : decode cX5_moves 86 = .ok (.iload_n 1, 1) := by decide +kernel
theorem dX5_moves_87 : decode cX5_moves 87 = .ok (.bipush 10, 2) := by decide +kernel
theorem dX5_moves_89 : decode cX5_moves 89 = .ok (.iadd, 1) := by decide +kernel
theorem dX5_moves_90 : decode cX5_moves 90 = .ok (.aload_n 0, 1) := by decide +kernel
theorem dX5_moves_91 : decode cX5_moves 91 = .ok (.getfield 7, 3) := by decide +kernel
theorem dX5_moves_94 : decode cX5_moves 94 = .ok (.iload_n 1, 1) := by decide +kernel
theorem dX5_moves_95 : decode cX5_moves 95 = .ok (.bipush 10, 2) := by decide +kernel
theorem dX5_moves_97 : decode cX5_moves 97 = .ok (.iadd, 1) := by decide +kernel
theorem dX5_moves_98 : decode cX5_moves 98 = .ok (.iaload, 1) := by decide +kernel
theorem dX5_moves_99 : decode cX5_moves 99 = .ok (.iload_n 2, 1) := by decide +kernel
theorem dX5_moves_100 : decode cX5_moves 100 = .ok (.iload_n 3, 1) := by decide +kernel
theorem dX5_moves_101 : decode cX5_moves 101 = .ok (.invokestatic 77, 3) := by decide +kernel
theorem dX5_moves_104 : decode cX5_moves 104 = .ok (.iastore, 1) := by decide +kernel
theorem dX5_moves_105 : decode cX5_moves 105 = .ok (.return_, 1) := by decide +kernel
theorem dX5_lowOf_0 : decode cX5_lowOf 0 = .ok (.iload_n 0, 1) := by decide +kernel
theorem dX5_lowOf_1 : decode cX5_lowOf 1 = .ok (.ifCond .eq 8, 3) := by decide +kernel
theorem dX5_lowOf_4 : decode cX5_lowOf 4 = .ok (.iload_n 0, 1) := by decide +kernel
theorem dX5_lowOf_5 : decode cX5_lowOf 5 = .ok (.iconst 4, 1) := by decide +kernel
theorem dX5_lowOf_6 : decode cX5_lowOf 6 = .ok (.if_icmp .ne 7, 3) := by decide +kernel
theorem dX5_lowOf_9 : decode cX5_lowOf 9 = .ok (.iconst 1, 1) := by decide +kernel
theorem dX5_lowOf_10 : decode cX5_lowOf 10 = .ok (.goto 13, 3) := by decide +kernel
theorem dX5_lowOf_13 : decode cX5_lowOf 13 = .ok (.iload_n 0, 1) := by decide +kernel
theorem dX5_lowOf_14 : decode cX5_lowOf 14 = .ok (.iconst 3, 1) := by decide +kernel
theorem dX5_lowOf_15 : decode cX5_lowOf 15 = .ok (.if_icmp .ne 7, 3) := by decide +kernel
theorem dX5_lowOf_18 : decode cX5_lowOf 18 = .ok (.iconst 5, 1) := by decide +kernel
theorem dX5_lowOf_19 : decode cX5_lowOf 19 = .ok (.goto 4, 3) := by decide +kernel
theorem dX5_lowOf_22 : decode cX5_lowOf 22 = .ok (.iconst 0, 1) := by decide +kernel
theorem dX5_lowOf_23 : decode cX5_lowOf 23 = .ok (.ireturn, 1) := by decide +kernel
theorem dX5_highOf_0 : decode cX5_highOf 0 = .ok (.iload_n 0, 1) := by decide +kernel
theorem dX5_highOf_1 : decode cX5_highOf 1 = .ok (.tableswitch 43 2 5 #[31, 34, 37, 40], 31) := by decide +kernel
theorem dX5_highOf_32 : decode cX5_highOf 32 = .ok (.bipush 99, 2) := by decide +kernel
theorem dX5_highOf_34 : decode cX5_highOf 34 = .ok (.ireturn, 1) := by decide +kernel
theorem dX5_highOf_35 : decode cX5_highOf 35 = .ok (.bipush 40, 2) := by decide +kernel
theorem dX5_highOf_37 : decode cX5_highOf 37 = .ok (.ireturn, 1) := by decide +kernel
theorem dX5_highOf_38 : decode cX5_highOf 38 = .ok (.bipush 9, 2) := by decide +kernel
theorem dX5_highOf_40 : decode cX5_highOf 40 = .ok (.ireturn, 1) := by decide +kernel
theorem dX5_highOf_41 : decode cX5_highOf 41 = .ok (.bipush 60, 2) := by decide +kernel
theorem dX5_highOf_43 : decode cX5_highOf 43 = .ok (.ireturn, 1) := by decide +kernel
theorem dX5_highOf_44 : decode cX5_highOf 44 = .ok (.sipush 200, 3) := by decide +kernel
theorem dX5_highOf_47 : decode cX5_highOf 47 = .ok (.ireturn, 1) := by decide +kernel
theorem dX5_set_0 : decode cX5_set 0 = .ok (.iload_n 1, 1) := by decide +kernel
theorem dX5_set_1 : decode cX5_set 1 = .ok (.iconst 0, 1) := by decide +kernel
theorem dX5_set_2 : decode cX5_set 2 = .ok (.iconst 5, 1) := by decide +kernel
theorem dX5_set_3 : decode cX5_set 3 = .ok (.invokestatic 26, 3) := by decide +kernel
theorem dX5_set_6 : decode cX5_set 6 = .ok (.ifCond .eq 18, 3) := by decide +kernel
theorem dX5_set_9 : decode cX5_set 9 = .ok (.iload_n 2, 1) := by decide +kernel
theorem dX5_set_10 : decode cX5_set 10 = .ok (.iload_n 1, 1) := by decide +kernel
theorem dX5_set_11 : decode cX5_set 11 = .ok (.invokestatic 81, 3) := by decide +kernel
theorem dX5_set_14 : decode cX5_set 14 = .ok (.iload_n 1, 1) := by decide +kernel
theorem dX5_set_15 : decode cX5_set 15 = .ok (.invokestatic 84, 3) := by decide +kernel
theorem dX5_set_18 : decode cX5_set 18 = .ok (.invokestatic 26, 3) := by decide +kernel
theorem dX5_set_21 : decode cX5_set 21 = .ok (.ifCond .ne 6, 3) := by decide +kernel
theorem dX5_set_24 : decode cX5_set 24 = .ok (.bipush (-2), 2) := by decide +kernel
theorem dX5_set_26 : decode cX5_set 26 = .ok (.ireturn, 1) := by decide +kernel
theorem dX5_set_27 : decode cX5_set 27 = .ok (.aload_n 0, 1) := by decide +kernel
theorem dX5_set_28 : decode cX5_set 28 = .ok (.invokevirtual 87, 3) := by decide +kernel
theorem dX5_set_31 : decode cX5_set 31 = .ok (.aload_n 0, 1) := by decide +kernel
theorem dX5_set_32 : decode cX5_set 32 = .ok (.getfield 7, 3) := by decide +kernel
theorem dX5_set_35 : decode cX5_set 35 = .ok (.iload_n 1, 1) := by decide +kernel
theorem dX5_set_36 : decode cX5_set 36 = .ok (.iaload, 1) := by decide +kernel
theorem dX5_set_37 : decode cX5_set 37 = .ok (.istore_n 3, 1) := by decide +kernel
theorem dX5_set_38 : decode cX5_set 38 = .ok (.aload_n 0, 1) := by decide +kernel
theorem dX5_set_39 : decode cX5_set 39 = .ok (.getfield 7, 3) := by decide +kernel
theorem dX5_set_42 : decode cX5_set 42 = .ok (.iload_n 1, 1) := by decide +kernel
theorem dX5_set_43 : decode cX5_set 43 = .ok (.iload_n 2, 1) := by decide +kernel
theorem dX5_set_44 : decode cX5_set 44 = .ok (.iastore, 1) := by decide +kernel
theorem dX5_set_45 : decode cX5_set 45 = .ok (.iload_n 3, 1) := by decide +kernel
theorem dX5_set_46 : decode cX5_set 46 = .ok (.ireturn, 1) := by decide +kernel
theorem dX5_comes_0 : decode cX5_comes 0 = .ok (.iconst 0, 1) := by decide +kernel
theorem dX5_comes_1 : decode cX5_comes 1 = .ok (.aload_n 0, 1) := by decide +kernel
theorem dX5_comes_2 : decode cX5_comes 2 = .ok (.getfield 7, 3) := by decide +kernel
theorem dX5_comes_5 : decode cX5_comes 5 = .ok (.bipush 7, 2) := by decide +kernel
theorem dX5_comes_7 : decode cX5_comes 7 = .ok (.iaload, 1) := by decide +kernel
theorem dX5_comes_8 : decode cX5_comes 8 = .ok (.invokestatic 34, 3) := by decide +kernel
theorem dX5_comes_11 : decode cX5_comes 11 = .ok (.istore_n 3, 1) := by decide +kernel
theorem dX5_comes_12 : decode cX5_comes 12 = .ok (.iconst 0, 1) := by decide +kernel
theorem dX5_comes_13 : decode cX5_comes 13 = .ok (.istore 4, 2) := by decide +kernel
theorem dX5_comes_15 : decode cX5_comes 15 = .ok (.iload 4, 2) := by decide +kernel
theorem dX5_comes_17 : decode cX5_comes 17 = .ok (.bipush 6, 2) := by decide +kernel
theorem dX5_comes_19 : decode cX5_comes 19 = .ok (.if_icmp .ge 19, 3) := by decide +kernel
theorem dX5_comes_22 : decode cX5_comes 22 = .ok (.aload_n 0, 1) := by decide +kernel
theorem dX5_comes_23 : decode cX5_comes 23 = .ok (.getfield 7, 3) := by decide +kernel
theorem dX5_comes_26 : decode cX5_comes 26 = .ok (.iload_n 3, 1) := by decide +kernel
theorem dX5_comes_27 : decode cX5_comes 27 = .ok (.iload 4, 2) := by decide +kernel
theorem dX5_comes_29 : decode cX5_comes 29 = .ok (.iadd, 1) := by decide +kernel
theorem dX5_comes_30 : decode cX5_comes 30 = .ok (.iconst 0, 1) := by decide +kernel
theorem dX5_comes_31 : decode cX5_comes 31 = .ok (.iastore, 1) := by decide +kernel
theorem dX5_comes_32 : decode cX5_comes 32 = .ok (.iinc 4 1, 3) := by decide +kernel
theorem dX5_comes_35 : decode cX5_comes 35 = .ok (.goto (-20), 3) := by decide +kernel
theorem dX5_comes_38 : decode cX5_comes 38 = .ok (.aload_n 0, 1) := by decide +kernel
theorem dX5_comes_39 : decode cX5_comes 39 = .ok (.getfield 7, 3) := by decide +kernel
theorem dX5_comes_42 : decode cX5_comes 42 = .ok (.iload_n 3, 1) := by decide +kernel
theorem dX5_comes_43 : decode cX5_comes 43 = .ok (.iconst 0, 1) := by decide +kernel
theorem dX5_comes_44 : decode cX5_comes 44 = .ok (.iadd, 1) := by decide +kernel
theorem dX5_comes_45 : decode cX5_comes 45 = .ok (.iload_n 1, 1) := by decide +kernel
theorem dX5_comes_46 : decode cX5_comes 46 = .ok (.iastore, 1) := by decide +kernel
theorem dX5_comes_47 : decode cX5_comes 47 = .ok (.aload_n 0, 1) := by decide +kernel
theorem dX5_comes_48 : decode cX5_comes 48 = .ok (.getfield 7, 3) := by decide +kernel
theorem dX5_comes_51 : decode cX5_comes 51 = .ok (.iload_n 3, 1) := by decide +kernel
theorem dX5_comes_52 : decode cX5_comes 52 = .ok (.iconst 1, 1) := by decide +kernel
theorem dX5_comes_53 : decode cX5_comes 53 = .ok (.iadd, 1) := by decide +kernel
theorem dX5_comes_54 : decode cX5_comes 54 = .ok (.iload_n 2, 1) := by decide +kernel
theorem dX5_comes_55 : decode cX5_comes 55 = .ok (.iastore, 1) := by decide +kernel
theorem dX5_comes_56 : decode cX5_comes 56 = .ok (.aload_n 0, 1) := by decide +kernel
theorem dX5_comes_57 : decode cX5_comes 57 = .ok (.getfield 7, 3) := by decide +kernel
theorem dX5_comes_60 : decode cX5_comes 60 = .ok (.bipush 7, 2) := by decide +kernel
theorem dX5_comes_62 : decode cX5_comes 62 = .ok (.dup2, 1) := by decide +kernel
theorem dX5_comes_63 : decode cX5_comes 63 = .ok (.iaload, 1) := by decide +kernel
theorem dX5_comes_64 : decode cX5_comes 64 = .ok (.iconst 1, 1) := by decide +kernel
theorem dX5_comes_65 : decode cX5_comes 65 = .ok (.iadd, 1) := by decide +kernel
theorem dX5_comes_66 : decode cX5_comes 66 = .ok (.iastore, 1) := by decide +kernel
theorem dX5_comes_67 : decode cX5_comes 67 = .ok (.return_, 1) := by decide +kernel
theorem dX5_add_0 : decode cX5_add 0 = .ok (.iload_n 1, 1) := by decide +kernel
theorem dX5_add_1 : decode cX5_add 1 = .ok (.iconst 1, 1) := by decide +kernel
theorem dX5_add_2 : decode cX5_add 2 = .ok (.bipush 9, 2) := by decide +kernel
theorem dX5_add_4 : decode cX5_add 4 = .ok (.invokestatic 26, 3) := by decide +kernel
theorem dX5_add_7 : decode cX5_add 7 = .ok (.ifCond .eq 13, 3) := by decide +kernel
theorem dX5_add_10 : decode cX5_add 10 = .ok (.iload_n 2, 1) := by decide +kernel
theorem dX5_add_11 : decode cX5_add 11 = .ok (.iconst 0, 1) := by decide +kernel
theorem dX5_add_12 : decode cX5_add 12 = .ok (.bipush 100, 2) := by decide +kernel
theorem dX5_add_14 : decode cX5_add 14 = .ok (.invokestatic 26, 3) := by decide +kernel
theorem dX5_add_17 : decode cX5_add 17 = .ok (.ifCond .ne 6, 3) := by decide +kernel
theorem dX5_add_20 : decode cX5_add 20 = .ok (.bipush (-2), 2) := by decide +kernel
theorem dX5_add_22 : decode cX5_add 22 = .ok (.ireturn, 1) := by decide +kernel
theorem dX5_add_23 : decode cX5_add 23 = .ok (.aload_n 0, 1) := by decide +kernel
theorem dX5_add_24 : decode cX5_add 24 = .ok (.getfield 7, 3) := by decide +kernel
theorem dX5_add_27 : decode cX5_add 27 = .ok (.bipush 7, 2) := by decide +kernel
theorem dX5_add_29 : decode cX5_add 29 = .ok (.iaload, 1) := by decide +kernel
theorem dX5_add_30 : decode cX5_add 30 = .ok (.bipush 8, 2) := by decide +kernel
theorem dX5_add_32 : decode cX5_add 32 = .ok (.if_icmp .ne 6, 3) := by decide +kernel
theorem dX5_add_35 : decode cX5_add 35 = .ok (.bipush (-4), 2) := by decide +kernel
theorem dX5_add_37 : decode cX5_add 37 = .ok (.ireturn, 1) := by decide +kernel
theorem dX5_add_38 : decode cX5_add 38 = .ok (.aload_n 0, 1) := by decide +kernel
theorem dX5_add_39 : decode cX5_add 39 = .ok (.invokevirtual 87, 3) := by decide +kernel
theorem dX5_add_42 : decode cX5_add 42 = .ok (.aload_n 0, 1) := by decide +kernel
theorem dX5_add_43 : decode cX5_add 43 = .ok (.iload_n 1, 1) := by decide +kernel
theorem dX5_add_44 : decode cX5_add 44 = .ok (.iload_n 2, 1) := by decide +kernel
theorem dX5_add_45 : decode cX5_add 45 = .ok (.invokevirtual 90, 3) := by decide +kernel
theorem dX5_add_48 : decode cX5_add 48 = .ok (.aload_n 0, 1) := by decide +kernel
theorem dX5_add_49 : decode cX5_add 49 = .ok (.getfield 7, 3) := by decide +kernel
theorem dX5_add_52 : decode cX5_add 52 = .ok (.bipush 7, 2) := by decide +kernel
theorem dX5_add_54 : decode cX5_add 54 = .ok (.iaload, 1) := by decide +kernel
theorem dX5_add_55 : decode cX5_add 55 = .ok (.iconst 1, 1) := by decide +kernel
theorem dX5_add_56 : decode cX5_add 56 = .ok (.isub, 1) := by decide +kernel
theorem dX5_add_57 : decode cX5_add 57 = .ok (.ireturn, 1) := by decide +kernel
theorem dX5_move_0 : decode cX5_move 0 = .ok (.aload_n 0, 1) := by decide +kernel
theorem dX5_move_1 : decode cX5_move 1 = .ok (.iload_n 1, 1) := by decide +kernel
theorem dX5_move_2 : decode cX5_move 2 = .ok (.invokevirtual 93, 3) := by decide +kernel
theorem dX5_move_5 : decode cX5_move 5 = .ok (.ifCond .eq 11, 3) := by decide +kernel
theorem dX5_move_8 : decode cX5_move 8 = .ok (.aload_n 0, 1) := by decide +kernel
theorem dX5_move_9 : decode cX5_move 9 = .ok (.iload_n 2, 1) := by decide +kernel
theorem dX5_move_10 : decode cX5_move 10 = .ok (.invokevirtual 93, 3) := by decide +kernel
theorem dX5_move_13 : decode cX5_move 13 = .ok (.ifCond .ne 5, 3) := by decide +kernel
theorem dX5_move_16 : decode cX5_move 16 = .ok (.iconst (-1), 1) := by decide +kernel
theorem dX5_move_17 : decode cX5_move 17 = .ok (.ireturn, 1) := by decide +kernel
theorem dX5_move_18 : decode cX5_move 18 = .ok (.aload_n 0, 1) := by decide +kernel
theorem dX5_move_19 : decode cX5_move 19 = .ok (.invokevirtual 87, 3) := by decide +kernel
theorem dX5_move_22 : decode cX5_move 22 = .ok (.aload_n 0, 1) := by decide +kernel
theorem dX5_move_23 : decode cX5_move 23 = .ok (.iconst 0, 1) := by decide +kernel
theorem dX5_move_24 : decode cX5_move 24 = .ok (.iload_n 1, 1) := by decide +kernel
theorem dX5_move_25 : decode cX5_move 25 = .ok (.iload_n 2, 1) := by decide +kernel
theorem dX5_move_26 : decode cX5_move 26 = .ok (.invokevirtual 96, 3) := by decide +kernel
theorem dX5_move_29 : decode cX5_move 29 = .ok (.iload_n 1, 1) := by decide +kernel
theorem dX5_move_30 : decode cX5_move 30 = .ok (.iload_n 2, 1) := by decide +kernel
theorem dX5_move_31 : decode cX5_move 31 = .ok (.if_icmp .ge 9, 3) := by decide +kernel
theorem dX5_move_34 : decode cX5_move 34 = .ok (.iload_n 2, 1) := by decide +kernel
theorem dX5_move_35 : decode cX5_move 35 = .ok (.iload_n 1, 1) := by decide +kernel
theorem dX5_move_36 : decode cX5_move 36 = .ok (.isub, 1) := by decide +kernel
theorem dX5_move_37 : decode cX5_move 37 = .ok (.goto 6, 3) := by decide +kernel
theorem dX5_move_40 : decode cX5_move 40 = .ok (.iload_n 1, 1) := by decide +kernel
theorem dX5_move_41 : decode cX5_move 41 = .ok (.iload_n 2, 1) := by decide +kernel
theorem dX5_move_42 : decode cX5_move 42 = .ok (.isub, 1) := by decide +kernel
theorem dX5_move_43 : decode cX5_move 43 = .ok (.istore_n 3, 1) := by decide +kernel
theorem dX5_move_44 : decode cX5_move 44 = .ok (.iload_n 3, 1) := by decide +kernel
theorem dX5_move_45 : decode cX5_move 45 = .ok (.ifCond .ne 7, 3) := by decide +kernel
theorem dX5_move_48 : decode cX5_move 48 = .ok (.iconst 0, 1) := by decide +kernel
theorem dX5_move_49 : decode cX5_move 49 = .ok (.goto 6, 3) := by decide +kernel
theorem dX5_move_52 : decode cX5_move 52 = .ok (.iload_n 3, 1) := by decide +kernel
theorem dX5_move_53 : decode cX5_move 53 = .ok (.iconst 1, 1) := by decide +kernel
theorem dX5_move_54 : decode cX5_move 54 = .ok (.iadd, 1) := by decide +kernel
theorem dX5_move_55 : decode cX5_move 55 = .ok (.ireturn, 1) := by decide +kernel
theorem dX5_stepDown_0 : decode cX5_stepDown 0 = .ok (.aload_n 0, 1) := by decide +kernel
theorem dX5_stepDown_1 : decode cX5_stepDown 1 = .ok (.getfield 7, 3) := by decide +kernel
theorem dX5_stepDown_4 : decode cX5_stepDown 4 = .ok (.bipush 9, 2) := by decide +kernel
theorem dX5_stepDown_6 : decode cX5_stepDown 6 = .ok (.iaload, 1) := by decide +kernel
theorem dX5_stepDown_7 : decode cX5_stepDown 7 = .ok (.istore_n 1, 1) := by decide +kernel
theorem dX5_stepDown_8 : decode cX5_stepDown 8 = .ok (.iload_n 1, 1) := by decide +kernel
theorem dX5_stepDown_9 : decode cX5_stepDown 9 = .ok (.ifCond .ge 6, 3) := by decide +kernel
theorem dX5_stepDown_12 : decode cX5_stepDown 12 = .ok (.bipush (-5), 2) := by decide +kernel
theorem dX5_stepDown_14 : decode cX5_stepDown 14 = .ok (.ireturn, 1) := by decide +kernel
theorem dX5_stepDown_15 : decode cX5_stepDown 15 = .ok (.aload_n 0, 1) := by decide +kernel
theorem dX5_stepDown_16 : decode cX5_stepDown 16 = .ok (.invokevirtual 87, 3) := by decide +kernel
theorem dX5_stepDown_19 : decode cX5_stepDown 19 = .ok (.aload_n 0, 1) := by decide +kernel
theorem dX5_stepDown_20 : decode cX5_stepDown 20 = .ok (.getfield 7, 3) := by decide +kernel
theorem dX5_stepDown_23 : decode cX5_stepDown 23 = .ok (.bipush 9, 2) := by decide +kernel
theorem dX5_stepDown_25 : decode cX5_stepDown 25 = .ok (.iconst (-1), 1) := by decide +kernel
theorem dX5_stepDown_26 : decode cX5_stepDown 26 = .ok (.iastore, 1) := by decide +kernel
theorem dX5_stepDown_27 : decode cX5_stepDown 27 = .ok (.aload_n 0, 1) := by decide +kernel
theorem dX5_stepDown_28 : decode cX5_stepDown 28 = .ok (.getfield 7, 3) := by decide +kernel
theorem dX5_stepDown_31 : decode cX5_stepDown 31 = .ok (.bipush 10, 2) := by decide +kernel
theorem dX5_stepDown_33 : decode cX5_stepDown 33 = .ok (.aload_n 0, 1) := by decide +kernel
theorem dX5_stepDown_34 : decode cX5_stepDown 34 = .ok (.iconst 0, 1) := by decide +kernel
theorem dX5_stepDown_35 : decode cX5_stepDown 35 = .ok (.iload_n 1, 1) := by decide +kernel
theorem dX5_stepDown_36 : decode cX5_stepDown 36 = .ok (.invokevirtual 53, 3) := by decide +kernel
theorem dX5_stepDown_39 : decode cX5_stepDown 39 = .ok (.iastore, 1) := by decide +kernel
theorem dX5_stepDown_40 : decode cX5_stepDown 40 = .ok (.iload_n 1, 1) := by decide +kernel
theorem dX5_stepDown_41 : decode cX5_stepDown 41 = .ok (.ireturn, 1) := by decide +kernel
theorem dX5_canAppeal_0 : decode cX5_canAppeal 0 = .ok (.aload_n 0, 1) := by decide +kernel
theorem dX5_canAppeal_1 : decode cX5_canAppeal 1 = .ok (.getfield 7, 3) := by decide +kernel
theorem dX5_canAppeal_4 : decode cX5_canAppeal 4 = .ok (.bipush 9, 2) := by decide +kernel
theorem dX5_canAppeal_6 : decode cX5_canAppeal 6 = .ok (.iaload, 1) := by decide +kernel
theorem dX5_canAppeal_7 : decode cX5_canAppeal 7 = .ok (.ifCond .lt 27, 3) := by decide +kernel
theorem dX5_canAppeal_10 : decode cX5_canAppeal 10 = .ok (.aload_n 0, 1) := by decide +kernel
theorem dX5_canAppeal_11 : decode cX5_canAppeal 11 = .ok (.getfield 7, 3) := by decide +kernel
theorem dX5_canAppeal_14 : decode cX5_canAppeal 14 = .ok (.bipush 9, 2) := by decide +kernel
theorem dX5_canAppeal_16 : decode cX5_canAppeal 16 = .ok (.iaload, 1) := by decide +kernel
theorem dX5_canAppeal_17 : decode cX5_canAppeal 17 = .ok (.iload_n 1, 1) := by decide +kernel
theorem dX5_canAppeal_18 : decode cX5_canAppeal 18 = .ok (.if_icmp .eq 16, 3) := by decide +kernel
theorem dX5_canAppeal_21 : decode cX5_canAppeal 21 = .ok (.aload_n 0, 1) := by decide +kernel
theorem dX5_canAppeal_22 : decode cX5_canAppeal 22 = .ok (.iconst 0, 1) := by decide +kernel
theorem dX5_canAppeal_23 : decode cX5_canAppeal 23 = .ok (.iload_n 1, 1) := by decide +kernel
theorem dX5_canAppeal_24 : decode cX5_canAppeal 24 = .ok (.invokevirtual 38, 3) := by decide +kernel
theorem dX5_canAppeal_27 : decode cX5_canAppeal 27 = .ok (.ifCond .ne 7, 3) := by decide +kernel
theorem dX5_canAppeal_30 : decode cX5_canAppeal 30 = .ok (.iconst 1, 1) := by decide +kernel
theorem dX5_canAppeal_31 : decode cX5_canAppeal 31 = .ok (.goto 4, 3) := by decide +kernel
theorem dX5_canAppeal_34 : decode cX5_canAppeal 34 = .ok (.iconst 0, 1) := by decide +kernel
theorem dX5_canAppeal_35 : decode cX5_canAppeal 35 = .ok (.istore_n 2, 1) := by decide +kernel
theorem dX5_canAppeal_36 : decode cX5_canAppeal 36 = .ok (.iload_n 2, 1) := by decide +kernel
end
section
theorem dX5_canAppeal_37 : decode cX5_canAppeal 37 = .ok (.ifCond .eq 28, 3) := by decide +kernel
theorem dX5_canAppeal_40 : decode cX5_canAppeal 40 = .ok (.aload_n 0, 1) := by decide +kernel
theorem dX5_canAppeal_41 : decode cX5_canAppeal 41 = .ok (.getfield 7, 3) := by decide +kernel
theorem dX5_canAppeal_44 : decode cX5_canAppeal 44 = .ok (.iconst 0, 1) := by decide +kernel
theorem dX5_canAppeal_45 : decode cX5_canAppeal 45 = .ok (.iload_n 1, 1) := by decide +kernel
theorem dX5_canAppeal_46 : decode cX5_canAppeal 46 = .ok (.invokestatic 34, 3) := by decide +kernel
theorem dX5_canAppeal_49 : decode cX5_canAppeal 49 = .ok (.iconst 3, 1) := by decide +kernel
theorem dX5_canAppeal_50 : decode cX5_canAppeal 50 = .ok (.iadd, 1) := by decide +kernel
theorem dX5_canAppeal_51 : decode cX5_canAppeal 51 = .ok (.iaload, 1) := by decide +kernel
theorem dX5_canAppeal_52 : decode cX5_canAppeal 52 = .ok (.aload_n 0, 1) := by decide +kernel
theorem dX5_canAppeal_53 : decode cX5_canAppeal 53 = .ok (.getfield 7, 3) := by decide +kernel
theorem dX5_canAppeal_56 : decode cX5_canAppeal 56 = .ok (.iconst 2, 1) := by decide +kernel
theorem dX5_canAppeal_57 : decode cX5_canAppeal 57 = .ok (.iaload, 1) := by decide +kernel
theorem dX5_canAppeal_58 : decode cX5_canAppeal 58 = .ok (.if_icmp .lt 7, 3) := by decide +kernel
theorem dX5_canAppeal_61 : decode cX5_canAppeal 61 = .ok (.iconst 1, 1) := by decide +kernel
theorem dX5_canAppeal_62 : decode cX5_canAppeal 62 = .ok (.goto 4, 3) := by decide +kernel
theorem dX5_canAppeal_65 : decode cX5_canAppeal 65 = .ok (.iconst 0, 1) := by decide +kernel
theorem dX5_canAppeal_66 : decode cX5_canAppeal 66 = .ok (.ireturn, 1) := by decide +kernel
theorem dX5_appeal_0 : decode cX5_appeal 0 = .ok (.aload_n 0, 1) := by decide +kernel
theorem dX5_appeal_1 : decode cX5_appeal 1 = .ok (.iload_n 1, 1) := by decide +kernel
theorem dX5_appeal_2 : decode cX5_appeal 2 = .ok (.invokevirtual 93, 3) := by decide +kernel
theorem dX5_appeal_5 : decode cX5_appeal 5 = .ok (.ifCond .ne 5, 3) := by decide +kernel
theorem dX5_appeal_8 : decode cX5_appeal 8 = .ok (.iconst (-1), 1) := by decide +kernel
theorem dX5_appeal_9 : decode cX5_appeal 9 = .ok (.ireturn, 1) := by decide +kernel
theorem dX5_appeal_10 : decode cX5_appeal 10 = .ok (.aload_n 0, 1) := by decide +kernel
theorem dX5_appeal_11 : decode cX5_appeal 11 = .ok (.iload_n 1, 1) := by decide +kernel
theorem dX5_appeal_12 : decode cX5_appeal 12 = .ok (.invokevirtual 99, 3) := by decide +kernel
theorem dX5_appeal_15 : decode cX5_appeal 15 = .ok (.ifCond .ne 6, 3) := by decide +kernel
theorem dX5_appeal_18 : decode cX5_appeal 18 = .ok (.bipush (-5), 2) := by decide +kernel
theorem dX5_appeal_20 : decode cX5_appeal 20 = .ok (.ireturn, 1) := by decide +kernel
theorem dX5_appeal_21 : decode cX5_appeal 21 = .ok (.aload_n 0, 1) := by decide +kernel
theorem dX5_appeal_22 : decode cX5_appeal 22 = .ok (.invokevirtual 87, 3) := by decide +kernel
theorem dX5_appeal_25 : decode cX5_appeal 25 = .ok (.aload_n 0, 1) := by decide +kernel
theorem dX5_appeal_26 : decode cX5_appeal 26 = .ok (.getfield 7, 3) := by decide +kernel
theorem dX5_appeal_29 : decode cX5_appeal 29 = .ok (.iconst 0, 1) := by decide +kernel
theorem dX5_appeal_30 : decode cX5_appeal 30 = .ok (.iload_n 1, 1) := by decide +kernel
theorem dX5_appeal_31 : decode cX5_appeal 31 = .ok (.invokestatic 34, 3) := by decide +kernel
theorem dX5_appeal_34 : decode cX5_appeal 34 = .ok (.iconst 3, 1) := by decide +kernel
theorem dX5_appeal_35 : decode cX5_appeal 35 = .ok (.iadd, 1) := by decide +kernel
theorem dX5_appeal_36 : decode cX5_appeal 36 = .ok (.dup2, 1) := by decide +kernel
theorem dX5_appeal_37 : decode cX5_appeal 37 = .ok (.iaload, 1) := by decide +kernel
theorem dX5_appeal_38 : decode cX5_appeal 38 = .ok (.aload_n 0, 1) := by decide +kernel
theorem dX5_appeal_39 : decode cX5_appeal 39 = .ok (.getfield 7, 3) := by decide +kernel
theorem dX5_appeal_42 : decode cX5_appeal 42 = .ok (.iconst 2, 1) := by decide +kernel
theorem dX5_appeal_43 : decode cX5_appeal 43 = .ok (.iaload, 1) := by decide +kernel
theorem dX5_appeal_44 : decode cX5_appeal 44 = .ok (.isub, 1) := by decide +kernel
theorem dX5_appeal_45 : decode cX5_appeal 45 = .ok (.iastore, 1) := by decide +kernel
theorem dX5_appeal_46 : decode cX5_appeal 46 = .ok (.aload_n 0, 1) := by decide +kernel
theorem dX5_appeal_47 : decode cX5_appeal 47 = .ok (.getfield 7, 3) := by decide +kernel
theorem dX5_appeal_50 : decode cX5_appeal 50 = .ok (.bipush 11, 2) := by decide +kernel
theorem dX5_appeal_52 : decode cX5_appeal 52 = .ok (.dup2, 1) := by decide +kernel
theorem dX5_appeal_53 : decode cX5_appeal 53 = .ok (.iaload, 1) := by decide +kernel
theorem dX5_appeal_54 : decode cX5_appeal 54 = .ok (.aload_n 0, 1) := by decide +kernel
theorem dX5_appeal_55 : decode cX5_appeal 55 = .ok (.getfield 7, 3) := by decide +kernel
theorem dX5_appeal_58 : decode cX5_appeal 58 = .ok (.iconst 2, 1) := by decide +kernel
theorem dX5_appeal_59 : decode cX5_appeal 59 = .ok (.iaload, 1) := by decide +kernel
theorem dX5_appeal_60 : decode cX5_appeal 60 = .ok (.iadd, 1) := by decide +kernel
theorem dX5_appeal_61 : decode cX5_appeal 61 = .ok (.iastore, 1) := by decide +kernel
theorem dX5_appeal_62 : decode cX5_appeal 62 = .ok (.aload_n 0, 1) := by decide +kernel
theorem dX5_appeal_63 : decode cX5_appeal 63 = .ok (.iconst 0, 1) := by decide +kernel
theorem dX5_appeal_64 : decode cX5_appeal 64 = .ok (.iload_n 1, 1) := by decide +kernel
theorem dX5_appeal_65 : decode cX5_appeal 65 = .ok (.invokevirtual 46, 3) := by decide +kernel
theorem dX5_appeal_68 : decode cX5_appeal 68 = .ok (.aload_n 0, 1) := by decide +kernel
theorem dX5_appeal_69 : decode cX5_appeal 69 = .ok (.iconst 0, 1) := by decide +kernel
theorem dX5_appeal_70 : decode cX5_appeal 70 = .ok (.aload_n 0, 1) := by decide +kernel
theorem dX5_appeal_71 : decode cX5_appeal 71 = .ok (.getfield 7, 3) := by decide +kernel
theorem dX5_appeal_74 : decode cX5_appeal 74 = .ok (.bipush 9, 2) := by decide +kernel
theorem dX5_appeal_76 : decode cX5_appeal 76 = .ok (.iaload, 1) := by decide +kernel
theorem dX5_appeal_77 : decode cX5_appeal 77 = .ok (.invokevirtual 46, 3) := by decide +kernel
theorem dX5_appeal_80 : decode cX5_appeal 80 = .ok (.if_icmp .le 11, 3) := by decide +kernel
theorem dX5_appeal_83 : decode cX5_appeal 83 = .ok (.aload_n 0, 1) := by decide +kernel
theorem dX5_appeal_84 : decode cX5_appeal 84 = .ok (.iconst 0, 1) := by decide +kernel
theorem dX5_appeal_85 : decode cX5_appeal 85 = .ok (.iload_n 1, 1) := by decide +kernel
theorem dX5_appeal_86 : decode cX5_appeal 86 = .ok (.invokevirtual 59, 3) := by decide +kernel
theorem dX5_appeal_89 : decode cX5_appeal 89 = .ok (.iconst 1, 1) := by decide +kernel
theorem dX5_appeal_90 : decode cX5_appeal 90 = .ok (.ireturn, 1) := by decide +kernel
theorem dX5_appeal_91 : decode cX5_appeal 91 = .ok (.aload_n 0, 1) := by decide +kernel
theorem dX5_appeal_92 : decode cX5_appeal 92 = .ok (.iconst 0, 1) := by decide +kernel
theorem dX5_appeal_93 : decode cX5_appeal 93 = .ok (.iload_n 1, 1) := by decide +kernel
theorem dX5_appeal_94 : decode cX5_appeal 94 = .ok (.invokevirtual 49, 3) := by decide +kernel
theorem dX5_appeal_97 : decode cX5_appeal 97 = .ok (.iconst 0, 1) := by decide +kernel
theorem dX5_appeal_98 : decode cX5_appeal 98 = .ok (.ireturn, 1) := by decide +kernel
theorem dX5_give_0 : decode cX5_give 0 = .ok (.iload_n 1, 1) := by decide +kernel
theorem dX5_give_1 : decode cX5_give 1 = .ok (.iconst 1, 1) := by decide +kernel
theorem dX5_give_2 : decode cX5_give 2 = .ok (.sipush 9999, 3) := by decide +kernel
theorem dX5_give_5 : decode cX5_give 5 = .ok (.invokestatic 26, 3) := by decide +kernel
theorem dX5_give_8 : decode cX5_give 8 = .ok (.ifCond .ne 6, 3) := by decide +kernel
theorem dX5_give_11 : decode cX5_give 11 = .ok (.bipush (-2), 2) := by decide +kernel
theorem dX5_give_13 : decode cX5_give 13 = .ok (.ireturn, 1) := by decide +kernel
theorem dX5_give_14 : decode cX5_give 14 = .ok (.aload_n 0, 1) := by decide +kernel
theorem dX5_give_15 : decode cX5_give 15 = .ok (.getfield 7, 3) := by decide +kernel
theorem dX5_give_18 : decode cX5_give 18 = .ok (.bipush 11, 2) := by decide +kernel
theorem dX5_give_20 : decode cX5_give 20 = .ok (.iaload, 1) := by decide +kernel
theorem dX5_give_21 : decode cX5_give 21 = .ok (.iload_n 1, 1) := by decide +kernel
theorem dX5_give_22 : decode cX5_give 22 = .ok (.iadd, 1) := by decide +kernel
theorem dX5_give_23 : decode cX5_give 23 = .ok (.ldc 102, 2) := by decide +kernel
theorem dX5_give_25 : decode cX5_give 25 = .ok (.if_icmp .le 6, 3) := by decide +kernel
theorem dX5_give_28 : decode cX5_give 28 = .ok (.bipush (-4), 2) := by decide +kernel
theorem dX5_give_30 : decode cX5_give 30 = .ok (.ireturn, 1) := by decide +kernel
theorem dX5_give_31 : decode cX5_give 31 = .ok (.aload_n 0, 1) := by decide +kernel
theorem dX5_give_32 : decode cX5_give 32 = .ok (.invokevirtual 87, 3) := by decide +kernel
theorem dX5_give_35 : decode cX5_give 35 = .ok (.aload_n 0, 1) := by decide +kernel
theorem dX5_give_36 : decode cX5_give 36 = .ok (.getfield 7, 3) := by decide +kernel
theorem dX5_give_39 : decode cX5_give 39 = .ok (.bipush 11, 2) := by decide +kernel
theorem dX5_give_41 : decode cX5_give 41 = .ok (.dup2, 1) := by decide +kernel
theorem dX5_give_42 : decode cX5_give 42 = .ok (.iaload, 1) := by decide +kernel
theorem dX5_give_43 : decode cX5_give 43 = .ok (.iload_n 1, 1) := by decide +kernel
theorem dX5_give_44 : decode cX5_give 44 = .ok (.iadd, 1) := by decide +kernel
theorem dX5_give_45 : decode cX5_give 45 = .ok (.iastore, 1) := by decide +kernel
theorem dX5_give_46 : decode cX5_give 46 = .ok (.aload_n 0, 1) := by decide +kernel
theorem dX5_give_47 : decode cX5_give 47 = .ok (.getfield 7, 3) := by decide +kernel
theorem dX5_give_50 : decode cX5_give 50 = .ok (.bipush 16, 2) := by decide +kernel
theorem dX5_give_52 : decode cX5_give 52 = .ok (.dup2, 1) := by decide +kernel
theorem dX5_give_53 : decode cX5_give 53 = .ok (.iaload, 1) := by decide +kernel
theorem dX5_give_54 : decode cX5_give 54 = .ok (.iload_n 1, 1) := by decide +kernel
theorem dX5_give_55 : decode cX5_give 55 = .ok (.iadd, 1) := by decide +kernel
theorem dX5_give_56 : decode cX5_give 56 = .ok (.iastore, 1) := by decide +kernel
theorem dX5_give_57 : decode cX5_give 57 = .ok (.aload_n 0, 1) := by decide +kernel
theorem dX5_give_58 : decode cX5_give 58 = .ok (.getfield 7, 3) := by decide +kernel
theorem dX5_give_61 : decode cX5_give 61 = .ok (.bipush 11, 2) := by decide +kernel
theorem dX5_give_63 : decode cX5_give 63 = .ok (.iaload, 1) := by decide +kernel
theorem dX5_give_64 : decode cX5_give 64 = .ok (.ireturn, 1) := by decide +kernel
theorem dX5_pass_0 : decode cX5_pass 0 = .ok (.iload_n 1, 1) := by decide +kernel
theorem dX5_pass_1 : decode cX5_pass 1 = .ok (.iconst 1, 1) := by decide +kernel
theorem dX5_pass_2 : decode cX5_pass 2 = .ok (.bipush 99, 2) := by decide +kernel
theorem dX5_pass_4 : decode cX5_pass 4 = .ok (.invokestatic 26, 3) := by decide +kernel
theorem dX5_pass_7 : decode cX5_pass 7 = .ok (.ifCond .ne 6, 3) := by decide +kernel
theorem dX5_pass_10 : decode cX5_pass 10 = .ok (.bipush (-2), 2) := by decide +kernel
theorem dX5_pass_12 : decode cX5_pass 12 = .ok (.ireturn, 1) := by decide +kernel
theorem dX5_pass_13 : decode cX5_pass 13 = .ok (.aload_n 0, 1) := by decide +kernel
theorem dX5_pass_14 : decode cX5_pass 14 = .ok (.getfield 7, 3) := by decide +kernel
theorem dX5_pass_17 : decode cX5_pass 17 = .ok (.bipush 6, 2) := by decide +kernel
theorem dX5_pass_19 : decode cX5_pass 19 = .ok (.iaload, 1) := by decide +kernel
theorem dX5_pass_20 : decode cX5_pass 20 = .ok (.iload_n 1, 1) := by decide +kernel
theorem dX5_pass_21 : decode cX5_pass 21 = .ok (.iadd, 1) := by decide +kernel
theorem dX5_pass_22 : decode cX5_pass 22 = .ok (.sipush 9999, 3) := by decide +kernel
theorem dX5_pass_25 : decode cX5_pass 25 = .ok (.if_icmp .le 6, 3) := by decide +kernel
theorem dX5_pass_28 : decode cX5_pass 28 = .ok (.bipush (-4), 2) := by decide +kernel
theorem dX5_pass_30 : decode cX5_pass 30 = .ok (.ireturn, 1) := by decide +kernel
theorem dX5_pass_31 : decode cX5_pass 31 = .ok (.aload_n 0, 1) := by decide +kernel
theorem dX5_pass_32 : decode cX5_pass 32 = .ok (.invokevirtual 87, 3) := by decide +kernel
theorem dX5_pass_35 : decode cX5_pass 35 = .ok (.aload_n 0, 1) := by decide +kernel
theorem dX5_pass_36 : decode cX5_pass 36 = .ok (.iconst 0, 1) := by decide +kernel
theorem dX5_pass_37 : decode cX5_pass 37 = .ok (.iload_n 1, 1) := by decide +kernel
theorem dX5_pass_38 : decode cX5_pass 38 = .ok (.invokevirtual 103, 3) := by decide +kernel
theorem dX5_pass_41 : decode cX5_pass 41 = .ok (.ireturn, 1) := by decide +kernel
theorem dX5_person_0 : decode cX5_person 0 = .ok (.aload_n 0, 1) := by decide +kernel
theorem dX5_person_1 : decode cX5_person 1 = .ok (.iload_n 1, 1) := by decide +kernel
theorem dX5_person_2 : decode cX5_person 2 = .ok (.invokevirtual 93, 3) := by decide +kernel
theorem dX5_person_5 : decode cX5_person 5 = .ok (.ifCond .ne 5, 3) := by decide +kernel
theorem dX5_person_8 : decode cX5_person 8 = .ok (.iconst (-1), 1) := by decide +kernel
theorem dX5_person_9 : decode cX5_person 9 = .ok (.ireturn, 1) := by decide +kernel
theorem dX5_person_10 : decode cX5_person 10 = .ok (.iload_n 2, 1) := by decide +kernel
theorem dX5_person_11 : decode cX5_person 11 = .ok (.tableswitch 117 0 8 #[49, 49, 49, 49, 62, 77, 88, 88, 103], 49) := by decide +kernel
theorem dX5_person_60 : decode cX5_person 60 = .ok (.aload_n 0, 1) := by decide +kernel
theorem dX5_person_61 : decode cX5_person 61 = .ok (.getfield 7, 3) := by decide +kernel
theorem dX5_person_64 : decode cX5_person 64 = .ok (.iconst 0, 1) := by decide +kernel
theorem dX5_person_65 : decode cX5_person 65 = .ok (.iload_n 1, 1) := by decide +kernel
theorem dX5_person_66 : decode cX5_person 66 = .ok (.invokestatic 34, 3) := by decide +kernel
theorem dX5_person_69 : decode cX5_person 69 = .ok (.iload_n 2, 1) := by decide +kernel
theorem dX5_person_70 : decode cX5_person 70 = .ok (.iadd, 1) := by decide +kernel
theorem dX5_person_71 : decode cX5_person 71 = .ok (.iaload, 1) := by decide +kernel
theorem dX5_person_72 : decode cX5_person 72 = .ok (.ireturn, 1) := by decide +kernel
theorem dX5_person_73 : decode cX5_person 73 = .ok (.aload_n 0, 1) := by decide +kernel
theorem dX5_person_74 : decode cX5_person 74 = .ok (.iconst 0, 1) := by decide +kernel
theorem dX5_person_75 : decode cX5_person 75 = .ok (.iload_n 1, 1) := by decide +kernel
theorem dX5_person_76 : decode cX5_person 76 = .ok (.invokevirtual 38, 3) := by decide +kernel
theorem dX5_person_79 : decode cX5_person 79 = .ok (.ifCond .eq 7, 3) := by decide +kernel
theorem dX5_person_82 : decode cX5_person 82 = .ok (.iconst 1, 1) := by decide +kernel
theorem dX5_person_83 : decode cX5_person 83 = .ok (.goto 4, 3) := by decide +kernel
theorem dX5_person_86 : decode cX5_person 86 = .ok (.iconst 0, 1) := by decide +kernel
theorem dX5_person_87 : decode cX5_person 87 = .ok (.ireturn, 1) := by decide +kernel
theorem dX5_person_88 : decode cX5_person 88 = .ok (.aload_n 0, 1) := by decide +kernel
theorem dX5_person_89 : decode cX5_person 89 = .ok (.iconst 0, 1) := by decide +kernel
theorem dX5_person_90 : decode cX5_person 90 = .ok (.iload_n 1, 1) := by decide +kernel
theorem dX5_person_91 : decode cX5_person 91 = .ok (.invokevirtual 46, 3) := by decide +kernel
theorem dX5_person_94 : decode cX5_person 94 = .ok (.sipush 1000, 3) := by decide +kernel
theorem dX5_person_97 : decode cX5_person 97 = .ok (.iadd, 1) := by decide +kernel
theorem dX5_person_98 : decode cX5_person 98 = .ok (.ireturn, 1) := by decide +kernel
theorem dX5_person_99 : decode cX5_person 99 = .ok (.aload_n 0, 1) := by decide +kernel
theorem dX5_person_100 : decode cX5_person 100 = .ok (.getfield 7, 3) := by decide +kernel
theorem dX5_person_103 : decode cX5_person 103 = .ok (.iconst 0, 1) := by decide +kernel
theorem dX5_person_104 : decode cX5_person 104 = .ok (.iload_n 1, 1) := by decide +kernel
theorem dX5_person_105 : decode cX5_person 105 = .ok (.invokestatic 34, 3) := by decide +kernel
theorem dX5_person_108 : decode cX5_person 108 = .ok (.iload_n 2, 1) := by decide +kernel
theorem dX5_person_109 : decode cX5_person 109 = .ok (.iadd, 1) := by decide +kernel
theorem dX5_person_110 : decode cX5_person 110 = .ok (.iconst 2, 1) := by decide +kernel
theorem dX5_person_111 : decode cX5_person 111 = .ok (.isub, 1) := by decide +kernel
theorem dX5_person_112 : decode cX5_person 112 = .ok (.iaload, 1) := by decide +kernel
theorem dX5_person_113 : decode cX5_person 113 = .ok (.ireturn, 1) := by decide +kernel
theorem dX5_person_114 : decode cX5_person 114 = .ok (.aload_n 0, 1) := by decide +kernel
theorem dX5_person_115 : decode cX5_person 115 = .ok (.iload_n 1, 1) := by decide +kernel
theorem dX5_person_116 : decode cX5_person 116 = .ok (.invokevirtual 99, 3) := by decide +kernel
theorem dX5_person_119 : decode cX5_person 119 = .ok (.ifCond .eq 7, 3) := by decide +kernel
theorem dX5_person_122 : decode cX5_person 122 = .ok (.iconst 1, 1) := by decide +kernel
theorem dX5_person_123 : decode cX5_person 123 = .ok (.goto 4, 3) := by decide +kernel
theorem dX5_person_126 : decode cX5_person 126 = .ok (.iconst 0, 1) := by decide +kernel
theorem dX5_person_127 : decode cX5_person 127 = .ok (.ireturn, 1) := by decide +kernel
theorem dX5_person_128 : decode cX5_person 128 = .ok (.bipush (-2), 2) := by decide +kernel
theorem dX5_person_130 : decode cX5_person 130 = .ok (.ireturn, 1) := by decide +kernel
theorem dX5_ofAll_0 : decode cX5_ofAll 0 = .ok (.iconst 0, 1) := by decide +kernel
theorem dX5_ofAll_1 : decode cX5_ofAll 1 = .ok (.istore_n 2, 1) := by decide +kernel
theorem dX5_ofAll_2 : decode cX5_ofAll 2 = .ok (.iconst 0, 1) := by decide +kernel
theorem dX5_ofAll_3 : decode cX5_ofAll 3 = .ok (.istore_n 3, 1) := by decide +kernel
theorem dX5_ofAll_4 : decode cX5_ofAll 4 = .ok (.iload_n 3, 1) := by decide +kernel
theorem dX5_ofAll_5 : decode cX5_ofAll 5 = .ok (.aload_n 0, 1) := by decide +kernel
theorem dX5_ofAll_6 : decode cX5_ofAll 6 = .ok (.getfield 7, 3) := by decide +kernel
theorem dX5_ofAll_9 : decode cX5_ofAll 9 = .ok (.bipush 7, 2) := by decide +kernel
theorem dX5_ofAll_11 : decode cX5_ofAll 11 = .ok (.iaload, 1) := by decide +kernel
theorem dX5_ofAll_12 : decode cX5_ofAll 12 = .ok (.if_icmp .ge 47, 3) := by decide +kernel
theorem dX5_ofAll_15 : decode cX5_ofAll 15 = .ok (.iload_n 2, 1) := by decide +kernel
theorem dX5_ofAll_16 : decode cX5_ofAll 16 = .ok (.iload_n 1, 1) := by decide +kernel
theorem dX5_ofAll_17 : decode cX5_ofAll 17 = .ok (.bipush 17, 2) := by decide +kernel
theorem dX5_ofAll_19 : decode cX5_ofAll 19 = .ok (.if_icmp .ne 18, 3) := by decide +kernel
theorem dX5_ofAll_22 : decode cX5_ofAll 22 = .ok (.aload_n 0, 1) := by decide +kernel
theorem dX5_ofAll_23 : decode cX5_ofAll 23 = .ok (.getfield 7, 3) := by decide +kernel
theorem dX5_ofAll_26 : decode cX5_ofAll 26 = .ok (.iconst 0, 1) := by decide +kernel
theorem dX5_ofAll_27 : decode cX5_ofAll 27 = .ok (.iload_n 3, 1) := by decide +kernel
theorem dX5_ofAll_28 : decode cX5_ofAll 28 = .ok (.invokestatic 34, 3) := by decide +kernel
theorem dX5_ofAll_31 : decode cX5_ofAll 31 = .ok (.iconst 3, 1) := by decide +kernel
theorem dX5_ofAll_32 : decode cX5_ofAll 32 = .ok (.iadd, 1) := by decide +kernel
theorem dX5_ofAll_33 : decode cX5_ofAll 33 = .ok (.iaload, 1) := by decide +kernel
theorem dX5_ofAll_34 : decode cX5_ofAll 34 = .ok (.goto 17, 3) := by decide +kernel
theorem dX5_ofAll_37 : decode cX5_ofAll 37 = .ok (.aload_n 0, 1) := by decide +kernel
theorem dX5_ofAll_38 : decode cX5_ofAll 38 = .ok (.iconst 0, 1) := by decide +kernel
theorem dX5_ofAll_39 : decode cX5_ofAll 39 = .ok (.iload_n 3, 1) := by decide +kernel
theorem dX5_ofAll_40 : decode cX5_ofAll 40 = .ok (.invokevirtual 38, 3) := by decide +kernel
theorem dX5_ofAll_43 : decode cX5_ofAll 43 = .ok (.ifCond .eq 7, 3) := by decide +kernel
theorem dX5_ofAll_46 : decode cX5_ofAll 46 = .ok (.iconst 1, 1) := by decide +kernel
theorem dX5_ofAll_47 : decode cX5_ofAll 47 = .ok (.goto 4, 3) := by decide +kernel
theorem dX5_ofAll_50 : decode cX5_ofAll 50 = .ok (.iconst 0, 1) := by decide +kernel
theorem dX5_ofAll_51 : decode cX5_ofAll 51 = .ok (.iadd, 1) := by decide +kernel
theorem dX5_ofAll_52 : decode cX5_ofAll 52 = .ok (.istore_n 2, 1) := by decide +kernel
theorem dX5_ofAll_53 : decode cX5_ofAll 53 = .ok (.iinc 3 1, 3) := by decide +kernel
theorem dX5_ofAll_56 : decode cX5_ofAll 56 = .ok (.goto (-52), 3) := by decide +kernel
theorem dX5_ofAll_59 : decode cX5_ofAll 59 = .ok (.iload_n 2, 1) := by decide +kernel
theorem dX5_ofAll_60 : decode cX5_ofAll 60 = .ok (.ireturn, 1) := by decide +kernel
theorem dX5_count_0 : decode cX5_count 0 = .ok (.iload_n 1, 1) := by decide +kernel
theorem dX5_count_1 : decode cX5_count 1 = .ok (.tableswitch 142 9 20 #[63, 86, 142, 109, 115, 115, 115, 115, 109, 124, 132, 137], 63) := by decide +kernel
theorem dX5_count_64 : decode cX5_count 64 = .ok (.aload_n 0, 1) := by decide +kernel
theorem dX5_count_65 : decode cX5_count 65 = .ok (.getfield 7, 3) := by decide +kernel
theorem dX5_count_68 : decode cX5_count 68 = .ok (.bipush 9, 2) := by decide +kernel
theorem dX5_count_70 : decode cX5_count 70 = .ok (.iaload, 1) := by decide +kernel
theorem dX5_count_71 : decode cX5_count 71 = .ok (.ifCond .ge 8, 3) := by decide +kernel
theorem dX5_count_74 : decode cX5_count 74 = .ok (.bipush (-6), 2) := by decide +kernel
theorem dX5_count_76 : decode cX5_count 76 = .ok (.goto 10, 3) := by decide +kernel
theorem dX5_count_79 : decode cX5_count 79 = .ok (.aload_n 0, 1) := by decide +kernel
theorem dX5_count_80 : decode cX5_count 80 = .ok (.getfield 7, 3) := by decide +kernel
theorem dX5_count_83 : decode cX5_count 83 = .ok (.bipush 9, 2) := by decide +kernel
theorem dX5_count_85 : decode cX5_count 85 = .ok (.iaload, 1) := by decide +kernel
theorem dX5_count_86 : decode cX5_count 86 = .ok (.ireturn, 1) := by decide +kernel
theorem dX5_count_87 : decode cX5_count 87 = .ok (.aload_n 0, 1) := by decide +kernel
theorem dX5_count_88 : decode cX5_count 88 = .ok (.getfield 7, 3) := by decide +kernel
theorem dX5_count_91 : decode cX5_count 91 = .ok (.bipush 9, 2) := by decide +kernel
theorem dX5_count_93 : decode cX5_count 93 = .ok (.iaload, 1) := by decide +kernel
theorem dX5_count_94 : decode cX5_count 94 = .ok (.ifCond .ge 13, 3) := by decide +kernel
theorem dX5_count_97 : decode cX5_count 97 = .ok (.aload_n 0, 1) := by decide +kernel
theorem dX5_count_98 : decode cX5_count 98 = .ok (.getfield 7, 3) := by decide +kernel
theorem dX5_count_101 : decode cX5_count 101 = .ok (.bipush 10, 2) := by decide +kernel
theorem dX5_count_103 : decode cX5_count 103 = .ok (.iaload, 1) := by decide +kernel
theorem dX5_count_104 : decode cX5_count 104 = .ok (.goto 5, 3) := by decide +kernel
theorem dX5_count_107 : decode cX5_count 107 = .ok (.bipush (-6), 2) := by decide +kernel
theorem dX5_count_109 : decode cX5_count 109 = .ok (.ireturn, 1) := by decide +kernel
theorem dX5_count_110 : decode cX5_count 110 = .ok (.aload_n 0, 1) := by decide +kernel
theorem dX5_count_111 : decode cX5_count 111 = .ok (.iload_n 1, 1) := by decide +kernel
theorem dX5_count_112 : decode cX5_count 112 = .ok (.invokevirtual 106, 3) := by decide +kernel
theorem dX5_count_115 : decode cX5_count 115 = .ok (.ireturn, 1) := by decide +kernel
theorem dX5_count_116 : decode cX5_count 116 = .ok (.aload_n 0, 1) := by decide +kernel
theorem dX5_count_117 : decode cX5_count 117 = .ok (.getfield 7, 3) := by decide +kernel
theorem dX5_count_120 : decode cX5_count 120 = .ok (.iload_n 1, 1) := by decide +kernel
theorem dX5_count_121 : decode cX5_count 121 = .ok (.iconst 1, 1) := by decide +kernel
theorem dX5_count_122 : decode cX5_count 122 = .ok (.isub, 1) := by decide +kernel
theorem dX5_count_123 : decode cX5_count 123 = .ok (.iaload, 1) := by decide +kernel
theorem dX5_count_124 : decode cX5_count 124 = .ok (.ireturn, 1) := by decide +kernel
theorem dX5_count_125 : decode cX5_count 125 = .ok (.aload_n 0, 1) := by decide +kernel
theorem dX5_count_126 : decode cX5_count 126 = .ok (.getfield 7, 3) := by decide +kernel
theorem dX5_count_129 : decode cX5_count 129 = .ok (.bipush 16, 2) := by decide +kernel
theorem dX5_count_131 : decode cX5_count 131 = .ok (.iaload, 1) := by decide +kernel
theorem dX5_count_132 : decode cX5_count 132 = .ok (.ireturn, 1) := by decide +kernel
theorem dX5_count_133 : decode cX5_count 133 = .ok (.aload_n 0, 1) := by decide +kernel
theorem dX5_count_134 : decode cX5_count 134 = .ok (.getfield 109, 3) := by decide +kernel
theorem dX5_count_137 : decode cX5_count 137 = .ok (.ireturn, 1) := by decide +kernel
theorem dX5_count_138 : decode cX5_count 138 = .ok (.aload_n 0, 1) := by decide +kernel
theorem dX5_count_139 : decode cX5_count 139 = .ok (.getfield 30, 3) := by decide +kernel
theorem dX5_count_142 : decode cX5_count 142 = .ok (.ireturn, 1) := by decide +kernel
theorem dX5_count_143 : decode cX5_count 143 = .ok (.iload_n 1, 1) := by decide +kernel
theorem dX5_count_144 : decode cX5_count 144 = .ok (.iconst 0, 1) := by decide +kernel
theorem dX5_count_145 : decode cX5_count 145 = .ok (.bipush 11, 2) := by decide +kernel
theorem dX5_count_147 : decode cX5_count 147 = .ok (.invokestatic 26, 3) := by decide +kernel
theorem dX5_count_150 : decode cX5_count 150 = .ok (.ifCond .eq 12, 3) := by decide +kernel
theorem dX5_count_153 : decode cX5_count 153 = .ok (.aload_n 0, 1) := by decide +kernel
theorem dX5_count_154 : decode cX5_count 154 = .ok (.getfield 7, 3) := by decide +kernel
theorem dX5_count_157 : decode cX5_count 157 = .ok (.iload_n 1, 1) := by decide +kernel
theorem dX5_count_158 : decode cX5_count 158 = .ok (.iaload, 1) := by decide +kernel
theorem dX5_count_159 : decode cX5_count 159 = .ok (.goto 5, 3) := by decide +kernel
theorem dX5_count_162 : decode cX5_count 162 = .ok (.bipush (-2), 2) := by decide +kernel
theorem dX5_count_164 : decode cX5_count 164 = .ok (.ireturn, 1) := by decide +kernel
theorem dX5_next_0 : decode cX5_next 0 = .ok (.iload_n 1, 1) := by decide +kernel
theorem dX5_next_1 : decode cX5_next 1 = .ok (.iconst 0, 1) := by decide +kernel
theorem dX5_next_2 : decode cX5_next 2 = .ok (.iconst 1, 1) := by decide +kernel
theorem dX5_next_3 : decode cX5_next 3 = .ok (.invokestatic 26, 3) := by decide +kernel
theorem dX5_next_6 : decode cX5_next 6 = .ok (.ifCond .ne 6, 3) := by decide +kernel
theorem dX5_next_9 : decode cX5_next 9 = .ok (.bipush (-2), 2) := by decide +kernel
theorem dX5_next_11 : decode cX5_next 11 = .ok (.ireturn, 1) := by decide +kernel
theorem dX5_next_12 : decode cX5_next 12 = .ok (.aload_n 0, 1) := by decide +kernel
theorem dX5_next_13 : decode cX5_next 13 = .ok (.invokevirtual 112, 3) := by decide +kernel
theorem dX5_next_16 : decode cX5_next 16 = .ok (.iconst 1, 1) := by decide +kernel
theorem dX5_next_17 : decode cX5_next 17 = .ok (.istore_n 2, 1) := by decide +kernel
theorem dX5_next_18 : decode cX5_next 18 = .ok (.iload_n 2, 1) := by decide +kernel
theorem dX5_next_19 : decode cX5_next 19 = .ok (.sipush 500, 3) := by decide +kernel
theorem dX5_next_22 : decode cX5_next 22 = .ok (.if_icmp .gt 75, 3) := by decide +kernel
theorem dX5_next_25 : decode cX5_next 25 = .ok (.aload_n 0, 1) := by decide +kernel
theorem dX5_next_26 : decode cX5_next 26 = .ok (.getfield 7, 3) := by decide +kernel
theorem dX5_next_29 : decode cX5_next 29 = .ok (.bipush 78, 2) := by decide +kernel
theorem dX5_next_31 : decode cX5_next 31 = .ok (.iaload, 1) := by decide +kernel
theorem dX5_next_32 : decode cX5_next 32 = .ok (.istore_n 3, 1) := by decide +kernel
theorem dX5_next_33 : decode cX5_next 33 = .ok (.aload_n 0, 1) := by decide +kernel
theorem dX5_next_34 : decode cX5_next 34 = .ok (.getfield 7, 3) := by decide +kernel
theorem dX5_next_37 : decode cX5_next 37 = .ok (.bipush 74, 2) := by decide +kernel
theorem dX5_next_39 : decode cX5_next 39 = .ok (.iaload, 1) := by decide +kernel
theorem dX5_next_40 : decode cX5_next 40 = .ok (.ifCond .lt 8, 3) := by decide +kernel
theorem dX5_next_43 : decode cX5_next 43 = .ok (.bipush (-6), 2) := by decide +kernel
theorem dX5_next_45 : decode cX5_next 45 = .ok (.goto 9, 3) := by decide +kernel
theorem dX5_next_48 : decode cX5_next 48 = .ok (.aload_n 0, 1) := by decide +kernel
theorem dX5_next_49 : decode cX5_next 49 = .ok (.bipush 65, 2) := by decide +kernel
theorem dX5_next_51 : decode cX5_next 51 = .ok (.invokevirtual 42, 3) := by decide +kernel
theorem dX5_next_54 : decode cX5_next 54 = .ok (.istore 4, 2) := by decide +kernel
theorem dX5_next_56 : decode cX5_next 56 = .ok (.aload_n 0, 1) := by decide +kernel
theorem dX5_next_57 : decode cX5_next 57 = .ok (.bipush 65, 2) := by decide +kernel
theorem dX5_next_59 : decode cX5_next 59 = .ok (.invokevirtual 70, 3) := by decide +kernel
theorem dX5_next_62 : decode cX5_next 62 = .ok (.istore 5, 2) := by decide +kernel
theorem dX5_next_64 : decode cX5_next 64 = .ok (.iload 5, 2) := by decide +kernel
theorem dX5_next_66 : decode cX5_next 66 = .ok (.ifCond .eq 25, 3) := by decide +kernel
theorem dX5_next_69 : decode cX5_next 69 = .ok (.aload_n 0, 1) := by decide +kernel
theorem dX5_next_70 : decode cX5_next 70 = .ok (.getfield 7, 3) := by decide +kernel
theorem dX5_next_73 : decode cX5_next 73 = .ok (.bipush 78, 2) := by decide +kernel
theorem dX5_next_75 : decode cX5_next 75 = .ok (.iaload, 1) := by decide +kernel
theorem dX5_next_76 : decode cX5_next 76 = .ok (.iload_n 3, 1) := by decide +kernel
theorem dX5_next_77 : decode cX5_next 77 = .ok (.if_icmp .le 14, 3) := by decide +kernel
theorem dX5_next_80 : decode cX5_next 80 = .ok (.iload_n 1, 1) := by decide +kernel
theorem dX5_next_81 : decode cX5_next 81 = .ok (.ifCond .ne 8, 3) := by decide +kernel
theorem dX5_next_84 : decode cX5_next 84 = .ok (.iload 4, 2) := by decide +kernel
theorem dX5_next_86 : decode cX5_next 86 = .ok (.goto 4, 3) := by decide +kernel
theorem dX5_next_89 : decode cX5_next 89 = .ok (.iload_n 2, 1) := by decide +kernel
theorem dX5_next_90 : decode cX5_next 90 = .ok (.ireturn, 1) := by decide +kernel
theorem dX5_next_91 : decode cX5_next 91 = .ok (.iinc 2 1, 3) := by decide +kernel
theorem dX5_next_94 : decode cX5_next 94 = .ok (.goto (-76), 3) := by decide +kernel
theorem dX5_next_97 : decode cX5_next 97 = .ok (.bipush (-6), 2) := by decide +kernel
theorem dX5_next_99 : decode cX5_next 99 = .ok (.ireturn, 1) := by decide +kernel
theorem dX5_untilEmpty_0 : decode cX5_untilEmpty 0 = .ok (.aload_n 0, 1) := by decide +kernel
theorem dX5_untilEmpty_1 : decode cX5_untilEmpty 1 = .ok (.invokevirtual 112, 3) := by decide +kernel
theorem dX5_untilEmpty_4 : decode cX5_untilEmpty 4 = .ok (.iconst 0, 1) := by decide +kernel
theorem dX5_untilEmpty_5 : decode cX5_untilEmpty 5 = .ok (.istore_n 1, 1) := by decide +kernel
theorem dX5_untilEmpty_6 : decode cX5_untilEmpty 6 = .ok (.iload_n 1, 1) := by decide +kernel
theorem dX5_untilEmpty_7 : decode cX5_untilEmpty 7 = .ok (.sipush 2000, 3) := by decide +kernel
theorem dX5_untilEmpty_10 : decode cX5_untilEmpty 10 = .ok (.if_icmp .gt 28, 3) := by decide +kernel
theorem dX5_untilEmpty_13 : decode cX5_untilEmpty 13 = .ok (.aload_n 0, 1) := by decide +kernel
theorem dX5_untilEmpty_14 : decode cX5_untilEmpty 14 = .ok (.getfield 7, 3) := by decide +kernel
theorem dX5_untilEmpty_17 : decode cX5_untilEmpty 17 = .ok (.bipush 76, 2) := by decide +kernel
theorem dX5_untilEmpty_19 : decode cX5_untilEmpty 19 = .ok (.iaload, 1) := by decide +kernel
theorem dX5_untilEmpty_20 : decode cX5_untilEmpty 20 = .ok (.ifCond .ne 5, 3) := by decide +kernel
theorem dX5_untilEmpty_23 : decode cX5_untilEmpty 23 = .ok (.iload_n 1, 1) := by decide +kernel
theorem dX5_untilEmpty_24 : decode cX5_untilEmpty 24 = .ok (.ireturn, 1) := by decide +kernel
theorem dX5_untilEmpty_25 : decode cX5_untilEmpty 25 = .ok (.aload_n 0, 1) := by decide +kernel
theorem dX5_untilEmpty_26 : decode cX5_untilEmpty 26 = .ok (.bipush 65, 2) := by decide +kernel
theorem dX5_untilEmpty_28 : decode cX5_untilEmpty 28 = .ok (.invokevirtual 70, 3) := by decide +kernel
theorem dX5_untilEmpty_31 : decode cX5_untilEmpty 31 = .ok (.istore_n 2, 1) := by decide +kernel
theorem dX5_untilEmpty_32 : decode cX5_untilEmpty 32 = .ok (.iinc 1 1, 3) := by decide +kernel
theorem dX5_untilEmpty_35 : decode cX5_untilEmpty 35 = .ok (.goto (-29), 3) := by decide +kernel
theorem dX5_untilEmpty_38 : decode cX5_untilEmpty 38 = .ok (.bipush (-6), 2) := by decide +kernel
theorem dX5_untilEmpty_40 : decode cX5_untilEmpty 40 = .ok (.ireturn, 1) := by decide +kernel
theorem dX5_ifPassed_0 : decode cX5_ifPassed 0 = .ok (.iload_n 1, 1) := by decide +kernel
theorem dX5_ifPassed_1 : decode cX5_ifPassed 1 = .ok (.iconst 1, 1) := by decide +kernel
theorem dX5_ifPassed_2 : decode cX5_ifPassed 2 = .ok (.sipush 500, 3) := by decide +kernel
theorem dX5_ifPassed_5 : decode cX5_ifPassed 5 = .ok (.invokestatic 26, 3) := by decide +kernel
theorem dX5_ifPassed_8 : decode cX5_ifPassed 8 = .ok (.ifCond .eq 12, 3) := by decide +kernel
theorem dX5_ifPassed_11 : decode cX5_ifPassed 11 = .ok (.iload_n 2, 1) := by decide +kernel
theorem dX5_ifPassed_12 : decode cX5_ifPassed 12 = .ok (.iconst 0, 1) := by decide +kernel
theorem dX5_ifPassed_13 : decode cX5_ifPassed 13 = .ok (.iconst 4, 1) := by decide +kernel
theorem dX5_ifPassed_14 : decode cX5_ifPassed 14 = .ok (.invokestatic 26, 3) := by decide +kernel
theorem dX5_ifPassed_17 : decode cX5_ifPassed 17 = .ok (.ifCond .ne 6, 3) := by decide +kernel
theorem dX5_ifPassed_20 : decode cX5_ifPassed 20 = .ok (.bipush (-2), 2) := by decide +kernel
theorem dX5_ifPassed_22 : decode cX5_ifPassed 22 = .ok (.ireturn, 1) := by decide +kernel
theorem dX5_ifPassed_23 : decode cX5_ifPassed 23 = .ok (.aload_n 0, 1) := by decide +kernel
theorem dX5_ifPassed_24 : decode cX5_ifPassed 24 = .ok (.invokevirtual 112, 3) := by decide +kernel
theorem dX5_ifPassed_27 : decode cX5_ifPassed 27 = .ok (.aload_n 0, 1) := by decide +kernel
theorem dX5_ifPassed_28 : decode cX5_ifPassed 28 = .ok (.bipush 65, 2) := by decide +kernel
theorem dX5_ifPassed_30 : decode cX5_ifPassed 30 = .ok (.iload_n 1, 1) := by decide +kernel
theorem dX5_ifPassed_31 : decode cX5_ifPassed 31 = .ok (.invokevirtual 103, 3) := by decide +kernel
theorem dX5_ifPassed_34 : decode cX5_ifPassed 34 = .ok (.istore_n 3, 1) := by decide +kernel
theorem dX5_ifPassed_35 : decode cX5_ifPassed 35 = .ok (.iload_n 2, 1) := by decide +kernel
theorem dX5_ifPassed_36 : decode cX5_ifPassed 36 = .ok (.tableswitch 74 0 3 #[32, 34, 50, 66], 32) := by decide +kernel
theorem dX5_ifPassed_68 : decode cX5_ifPassed 68 = .ok (.iload_n 3, 1) := by decide +kernel
theorem dX5_ifPassed_69 : decode cX5_ifPassed 69 = .ok (.ireturn, 1) := by decide +kernel
theorem dX5_ifPassed_70 : decode cX5_ifPassed 70 = .ok (.aload_n 0, 1) := by decide +kernel
theorem dX5_ifPassed_71 : decode cX5_ifPassed 71 = .ok (.getfield 7, 3) := by decide +kernel
theorem dX5_ifPassed_74 : decode cX5_ifPassed 74 = .ok (.bipush 77, 2) := by decide +kernel
theorem dX5_ifPassed_76 : decode cX5_ifPassed 76 = .ok (.iaload, 1) := by decide +kernel
theorem dX5_ifPassed_77 : decode cX5_ifPassed 77 = .ok (.aload_n 0, 1) := by decide +kernel
theorem dX5_ifPassed_78 : decode cX5_ifPassed 78 = .ok (.getfield 7, 3) := by decide +kernel
theorem dX5_ifPassed_81 : decode cX5_ifPassed 81 = .ok (.bipush 12, 2) := by decide +kernel
theorem dX5_ifPassed_83 : decode cX5_ifPassed 83 = .ok (.iaload, 1) := by decide +kernel
theorem dX5_ifPassed_84 : decode cX5_ifPassed 84 = .ok (.isub, 1) := by decide +kernel
theorem dX5_ifPassed_85 : decode cX5_ifPassed 85 = .ok (.ireturn, 1) := by decide +kernel
theorem dX5_ifPassed_86 : decode cX5_ifPassed 86 = .ok (.aload_n 0, 1) := by decide +kernel
theorem dX5_ifPassed_87 : decode cX5_ifPassed 87 = .ok (.getfield 7, 3) := by decide +kernel
theorem dX5_ifPassed_90 : decode cX5_ifPassed 90 = .ok (.bipush 80, 2) := by decide +kernel
theorem dX5_ifPassed_92 : decode cX5_ifPassed 92 = .ok (.iaload, 1) := by decide +kernel
theorem dX5_ifPassed_93 : decode cX5_ifPassed 93 = .ok (.aload_n 0, 1) := by decide +kernel
theorem dX5_ifPassed_94 : decode cX5_ifPassed 94 = .ok (.getfield 7, 3) := by decide +kernel
theorem dX5_ifPassed_97 : decode cX5_ifPassed 97 = .ok (.bipush 15, 2) := by decide +kernel
theorem dX5_ifPassed_99 : decode cX5_ifPassed 99 = .ok (.iaload, 1) := by decide +kernel
theorem dX5_ifPassed_100 : decode cX5_ifPassed 100 = .ok (.isub, 1) := by decide +kernel
theorem dX5_ifPassed_101 : decode cX5_ifPassed 101 = .ok (.ireturn, 1) := by decide +kernel
theorem dX5_ifPassed_102 : decode cX5_ifPassed 102 = .ok (.aload_n 0, 1) := by decide +kernel
theorem dX5_ifPassed_103 : decode cX5_ifPassed 103 = .ok (.getfield 7, 3) := by decide +kernel
theorem dX5_ifPassed_106 : decode cX5_ifPassed 106 = .ok (.bipush 73, 2) := by decide +kernel
theorem dX5_ifPassed_108 : decode cX5_ifPassed 108 = .ok (.iaload, 1) := by decide +kernel
theorem dX5_ifPassed_109 : decode cX5_ifPassed 109 = .ok (.ireturn, 1) := by decide +kernel
theorem dX5_ifPassed_110 : decode cX5_ifPassed 110 = .ok (.aload_n 0, 1) := by decide +kernel
theorem dX5_ifPassed_111 : decode cX5_ifPassed 111 = .ok (.getfield 7, 3) := by decide +kernel
theorem dX5_ifPassed_114 : decode cX5_ifPassed 114 = .ok (.bipush 74, 2) := by decide +kernel
theorem dX5_ifPassed_116 : decode cX5_ifPassed 116 = .ok (.iaload, 1) := by decide +kernel
theorem dX5_ifPassed_117 : decode cX5_ifPassed 117 = .ok (.ifCond .ge 8, 3) := by decide +kernel
theorem dX5_ifPassed_120 : decode cX5_ifPassed 120 = .ok (.bipush (-6), 2) := by decide +kernel
theorem dX5_ifPassed_122 : decode cX5_ifPassed 122 = .ok (.goto 10, 3) := by decide +kernel
theorem dX5_ifPassed_125 : decode cX5_ifPassed 125 = .ok (.aload_n 0, 1) := by decide +kernel
theorem dX5_ifPassed_126 : decode cX5_ifPassed 126 = .ok (.getfield 7, 3) := by decide +kernel
theorem dX5_ifPassed_129 : decode cX5_ifPassed 129 = .ok (.bipush 74, 2) := by decide +kernel
theorem dX5_ifPassed_131 : decode cX5_ifPassed 131 = .ok (.iaload, 1) := by decide +kernel
theorem dX5_ifPassed_132 : decode cX5_ifPassed 132 = .ok (.ireturn, 1) := by decide +kernel
theorem dX5_bestPlace_0 : decode cX5_bestPlace 0 = .ok (.aload_n 0, 1) := by decide +kernel
theorem dX5_bestPlace_1 : decode cX5_bestPlace 1 = .ok (.iload_n 1, 1) := by decide +kernel
theorem dX5_bestPlace_2 : decode cX5_bestPlace 2 = .ok (.invokevirtual 93, 3) := by decide +kernel
theorem dX5_bestPlace_5 : decode cX5_bestPlace 5 = .ok (.ifCond .ne 5, 3) := by decide +kernel
theorem dX5_bestPlace_8 : decode cX5_bestPlace 8 = .ok (.iconst (-1), 1) := by decide +kernel
theorem dX5_bestPlace_9 : decode cX5_bestPlace 9 = .ok (.ireturn, 1) := by decide +kernel
theorem dX5_bestPlace_10 : decode cX5_bestPlace 10 = .ok (.iload_n 2, 1) := by decide +kernel
theorem dX5_bestPlace_11 : decode cX5_bestPlace 11 = .ok (.iconst 0, 1) := by decide +kernel
theorem dX5_bestPlace_12 : decode cX5_bestPlace 12 = .ok (.iconst 1, 1) := by decide +kernel
theorem dX5_bestPlace_13 : decode cX5_bestPlace 13 = .ok (.invokestatic 26, 3) := by decide +kernel
theorem dX5_bestPlace_16 : decode cX5_bestPlace 16 = .ok (.ifCond .ne 6, 3) := by decide +kernel
theorem dX5_bestPlace_19 : decode cX5_bestPlace 19 = .ok (.bipush (-2), 2) := by decide +kernel
theorem dX5_bestPlace_21 : decode cX5_bestPlace 21 = .ok (.ireturn, 1) := by decide +kernel
theorem dX5_bestPlace_22 : decode cX5_bestPlace 22 = .ok (.iconst 0, 1) := by decide +kernel
theorem dX5_bestPlace_23 : decode cX5_bestPlace 23 = .ok (.istore_n 3, 1) := by decide +kernel
theorem dX5_bestPlace_24 : decode cX5_bestPlace 24 = .ok (.iconst (-1), 1) := by decide +kernel
theorem dX5_bestPlace_25 : decode cX5_bestPlace 25 = .ok (.istore 4, 2) := by decide +kernel
theorem dX5_bestPlace_27 : decode cX5_bestPlace 27 = .ok (.iconst 0, 1) := by decide +kernel
theorem dX5_bestPlace_28 : decode cX5_bestPlace 28 = .ok (.istore 5, 2) := by decide +kernel
theorem dX5_bestPlace_30 : decode cX5_bestPlace 30 = .ok (.iload 5, 2) := by decide +kernel
theorem dX5_bestPlace_32 : decode cX5_bestPlace 32 = .ok (.aload_n 0, 1) := by decide +kernel
theorem dX5_bestPlace_33 : decode cX5_bestPlace 33 = .ok (.getfield 7, 3) := by decide +kernel
theorem dX5_bestPlace_36 : decode cX5_bestPlace 36 = .ok (.bipush 7, 2) := by decide +kernel
theorem dX5_bestPlace_38 : decode cX5_bestPlace 38 = .ok (.iaload, 1) := by decide +kernel
theorem dX5_bestPlace_39 : decode cX5_bestPlace 39 = .ok (.if_icmp .ge 97, 3) := by decide +kernel
theorem dX5_bestPlace_42 : decode cX5_bestPlace 42 = .ok (.aload_n 0, 1) := by decide +kernel
theorem dX5_bestPlace_43 : decode cX5_bestPlace 43 = .ok (.invokevirtual 112, 3) := by decide +kernel
theorem dX5_bestPlace_46 : decode cX5_bestPlace 46 = .ok (.aload_n 0, 1) := by decide +kernel
theorem dX5_bestPlace_47 : decode cX5_bestPlace 47 = .ok (.bipush 65, 2) := by decide +kernel
theorem dX5_bestPlace_49 : decode cX5_bestPlace 49 = .ok (.iload_n 1, 1) := by decide +kernel
theorem dX5_bestPlace_50 : decode cX5_bestPlace 50 = .ok (.iload 5, 2) := by decide +kernel
theorem dX5_bestPlace_52 : decode cX5_bestPlace 52 = .ok (.invokevirtual 96, 3) := by decide +kernel
theorem dX5_bestPlace_55 : decode cX5_bestPlace 55 = .ok (.aload_n 0, 1) := by decide +kernel
theorem dX5_bestPlace_56 : decode cX5_bestPlace 56 = .ok (.getfield 7, 3) := by decide +kernel
theorem dX5_bestPlace_59 : decode cX5_bestPlace 59 = .ok (.bipush 65, 2) := by decide +kernel
theorem dX5_bestPlace_61 : decode cX5_bestPlace 61 = .ok (.iload 5, 2) := by decide +kernel
theorem dX5_bestPlace_63 : decode cX5_bestPlace 63 = .ok (.invokestatic 34, 3) := by decide +kernel
theorem dX5_bestPlace_66 : decode cX5_bestPlace 66 = .ok (.iconst 5, 1) := by decide +kernel
theorem dX5_bestPlace_67 : decode cX5_bestPlace 67 = .ok (.iadd, 1) := by decide +kernel
theorem dX5_bestPlace_68 : decode cX5_bestPlace 68 = .ok (.iaload, 1) := by decide +kernel
theorem dX5_bestPlace_69 : decode cX5_bestPlace 69 = .ok (.istore 6, 2) := by decide +kernel
theorem dX5_bestPlace_71 : decode cX5_bestPlace 71 = .ok (.aload_n 0, 1) := by decide +kernel
theorem dX5_bestPlace_72 : decode cX5_bestPlace 72 = .ok (.bipush 65, 2) := by decide +kernel
theorem dX5_bestPlace_74 : decode cX5_bestPlace 74 = .ok (.bipush 100, 2) := by decide +kernel
theorem dX5_bestPlace_76 : decode cX5_bestPlace 76 = .ok (.invokevirtual 103, 3) := by decide +kernel
theorem dX5_bestPlace_79 : decode cX5_bestPlace 79 = .ok (.istore 7, 2) := by decide +kernel
theorem dX5_bestPlace_81 : decode cX5_bestPlace 81 = .ok (.aload_n 0, 1) := by decide +kernel
theorem dX5_bestPlace_82 : decode cX5_bestPlace 82 = .ok (.getfield 7, 3) := by decide +kernel
theorem dX5_bestPlace_85 : decode cX5_bestPlace 85 = .ok (.bipush 65, 2) := by decide +kernel
theorem dX5_bestPlace_87 : decode cX5_bestPlace 87 = .ok (.iload 5, 2) := by decide +kernel
theorem dX5_bestPlace_89 : decode cX5_bestPlace 89 = .ok (.invokestatic 34, 3) := by decide +kernel
theorem dX5_bestPlace_92 : decode cX5_bestPlace 92 = .ok (.iconst 5, 1) := by decide +kernel
theorem dX5_bestPlace_93 : decode cX5_bestPlace 93 = .ok (.iadd, 1) := by decide +kernel
theorem dX5_bestPlace_94 : decode cX5_bestPlace 94 = .ok (.iaload, 1) := by decide +kernel
theorem dX5_bestPlace_95 : decode cX5_bestPlace 95 = .ok (.iload 6, 2) := by decide +kernel
theorem dX5_bestPlace_97 : decode cX5_bestPlace 97 = .ok (.isub, 1) := by decide +kernel
theorem dX5_bestPlace_98 : decode cX5_bestPlace 98 = .ok (.istore 8, 2) := by decide +kernel
theorem dX5_bestPlace_100 : decode cX5_bestPlace 100 = .ok (.iload 8, 2) := by decide +kernel
theorem dX5_bestPlace_102 : decode cX5_bestPlace 102 = .ok (.iload 4, 2) := by decide +kernel
theorem dX5_bestPlace_104 : decode cX5_bestPlace 104 = .ok (.if_icmp .le 8, 3) := by decide +kernel
theorem dX5_bestPlace_107 : decode cX5_bestPlace 107 = .ok (.iload 5, 2) := by decide +kernel
theorem dX5_bestPlace_109 : decode cX5_bestPlace 109 = .ok (.goto 4, 3) := by decide +kernel
theorem dX5_bestPlace_112 : decode cX5_bestPlace 112 = .ok (.iload_n 3, 1) := by decide +kernel
theorem dX5_bestPlace_113 : decode cX5_bestPlace 113 = .ok (.istore_n 3, 1) := by decide +kernel
theorem dX5_bestPlace_114 : decode cX5_bestPlace 114 = .ok (.iload 8, 2) := by decide +kernel
theorem dX5_bestPlace_116 : decode cX5_bestPlace 116 = .ok (.iload 4, 2) := by decide +kernel
theorem dX5_bestPlace_118 : decode cX5_bestPlace 118 = .ok (.if_icmp .le 8, 3) := by decide +kernel
theorem dX5_bestPlace_121 : decode cX5_bestPlace 121 = .ok (.iload 8, 2) := by decide +kernel
theorem dX5_bestPlace_123 : decode cX5_bestPlace 123 = .ok (.goto 5, 3) := by decide +kernel
theorem dX5_bestPlace_126 : decode cX5_bestPlace 126 = .ok (.iload 4, 2) := by decide +kernel
theorem dX5_bestPlace_128 : decode cX5_bestPlace 128 = .ok (.istore 4, 2) := by decide +kernel
theorem dX5_bestPlace_130 : decode cX5_bestPlace 130 = .ok (.iinc 5 1, 3) := by decide +kernel
theorem dX5_bestPlace_133 : decode cX5_bestPlace 133 = .ok (.goto (-103), 3) := by decide +kernel
theorem dX5_bestPlace_136 : decode cX5_bestPlace 136 = .ok (.iload_n 2, 1) := by decide +kernel
theorem dX5_bestPlace_137 : decode cX5_bestPlace 137 = .ok (.ifCond .ne 7, 3) := by decide +kernel
theorem dX5_bestPlace_140 : decode cX5_bestPlace 140 = .ok (.iload_n 3, 1) := by decide +kernel
theorem dX5_bestPlace_141 : decode cX5_bestPlace 141 = .ok (.goto 5, 3) := by decide +kernel
theorem dX5_bestPlace_144 : decode cX5_bestPlace 144 = .ok (.iload 4, 2) := by decide +kernel
theorem dX5_bestPlace_146 : decode cX5_bestPlace 146 = .ok (.ireturn, 1) := by decide +kernel
theorem dX5_put_0 : decode cX5_put 0 = .ok (.iconst 0, 1) := by decide +kernel
theorem dX5_put_1 : decode cX5_put 1 = .ok (.istore_n 3, 1) := by decide +kernel
theorem dX5_put_2 : decode cX5_put 2 = .ok (.iconst 1, 1) := by decide +kernel
theorem dX5_put_3 : decode cX5_put 3 = .ok (.istore 4, 2) := by decide +kernel
theorem dX5_put_5 : decode cX5_put 5 = .ok (.iconst 0, 1) := by decide +kernel
theorem dX5_put_6 : decode cX5_put 6 = .ok (.istore 5, 2) := by decide +kernel
theorem dX5_put_8 : decode cX5_put 8 = .ok (.iconst 0, 1) := by decide +kernel
theorem dX5_put_9 : decode cX5_put 9 = .ok (.istore 6, 2) := by decide +kernel
theorem dX5_put_11 : decode cX5_put 11 = .ok (.iload 6, 2) := by decide +kernel
theorem dX5_put_13 : decode cX5_put 13 = .ok (.bipush 8, 2) := by decide +kernel
theorem dX5_put_15 : decode cX5_put 15 = .ok (.if_icmp .ge 90, 3) := by decide +kernel
theorem dX5_put_18 : decode cX5_put 18 = .ok (.lload_n 1, 1) := by decide +kernel
theorem dX5_put_19 : decode cX5_put 19 = .ok (.bipush 8, 2) := by decide +kernel
theorem dX5_put_21 : decode cX5_put 21 = .ok (.iload 6, 2) := by decide +kernel
theorem dX5_put_23 : decode cX5_put 23 = .ok (.imul, 1) := by decide +kernel
theorem dX5_put_24 : decode cX5_put 24 = .ok (.lshr, 1) := by decide +kernel
theorem dX5_put_25 : decode cX5_put 25 = .ok (.ldc2_w 115, 3) := by decide +kernel
theorem dX5_put_28 : decode cX5_put 28 = .ok (.land, 1) := by decide +kernel
theorem dX5_put_29 : decode cX5_put 29 = .ok (.l2i, 1) := by decide +kernel
theorem dX5_put_30 : decode cX5_put 30 = .ok (.istore 7, 2) := by decide +kernel
theorem dX5_put_32 : decode cX5_put 32 = .ok (.iload 5, 2) := by decide +kernel
theorem dX5_put_34 : decode cX5_put 34 = .ok (.ifCond .ne 8, 3) := by decide +kernel
theorem dX5_put_37 : decode cX5_put 37 = .ok (.iload 7, 2) := by decide +kernel
theorem dX5_put_39 : decode cX5_put 39 = .ok (.ifCond .ne 7, 3) := by decide +kernel
theorem dX5_put_42 : decode cX5_put 42 = .ok (.iconst 1, 1) := by decide +kernel
theorem dX5_put_43 : decode cX5_put 43 = .ok (.goto 4, 3) := by decide +kernel
theorem dX5_put_46 : decode cX5_put 46 = .ok (.iconst 0, 1) := by decide +kernel
theorem dX5_put_47 : decode cX5_put 47 = .ok (.istore 5, 2) := by decide +kernel
theorem dX5_put_49 : decode cX5_put 49 = .ok (.iload 4, 2) := by decide +kernel
theorem dX5_put_51 : decode cX5_put 51 = .ok (.ifCond .eq 32, 3) := by decide +kernel
theorem dX5_put_54 : decode cX5_put 54 = .ok (.iload 5, 2) := by decide +kernel
theorem dX5_put_56 : decode cX5_put 56 = .ok (.ifCond .eq 11, 3) := by decide +kernel
theorem dX5_put_59 : decode cX5_put 59 = .ok (.iload 7, 2) := by decide +kernel
theorem dX5_put_61 : decode cX5_put 61 = .ok (.ifCond .ne 22, 3) := by decide +kernel
theorem dX5_put_64 : decode cX5_put 64 = .ok (.goto 15, 3) := by decide +kernel
theorem dX5_put_67 : decode cX5_put 67 = .ok (.iload 7, 2) := by decide +kernel
theorem dX5_put_69 : decode cX5_put 69 = .ok (.bipush 33, 2) := by decide +kernel
theorem dX5_put_71 : decode cX5_put 71 = .ok (.bipush 126, 2) := by decide +kernel
theorem dX5_put_73 : decode cX5_put 73 = .ok (.invokestatic 26, 3) := by decide +kernel
theorem dX5_put_76 : decode cX5_put 76 = .ok (.ifCond .eq 7, 3) := by decide +kernel
theorem dX5_put_79 : decode cX5_put 79 = .ok (.iconst 1, 1) := by decide +kernel
theorem dX5_put_80 : decode cX5_put 80 = .ok (.goto 4, 3) := by decide +kernel
theorem dX5_put_83 : decode cX5_put 83 = .ok (.iconst 0, 1) := by decide +kernel
theorem dX5_put_84 : decode cX5_put 84 = .ok (.istore 4, 2) := by decide +kernel
theorem dX5_put_86 : decode cX5_put 86 = .ok (.iload_n 3, 1) := by decide +kernel
theorem dX5_put_87 : decode cX5_put 87 = .ok (.iload 5, 2) := by decide +kernel
theorem dX5_put_89 : decode cX5_put 89 = .ok (.ifCond .eq 7, 3) := by decide +kernel
theorem dX5_put_92 : decode cX5_put 92 = .ok (.iconst 0, 1) := by decide +kernel
theorem dX5_put_93 : decode cX5_put 93 = .ok (.goto 4, 3) := by decide +kernel
theorem dX5_put_96 : decode cX5_put 96 = .ok (.iconst 1, 1) := by decide +kernel
theorem dX5_put_97 : decode cX5_put 97 = .ok (.iadd, 1) := by decide +kernel
theorem dX5_put_98 : decode cX5_put 98 = .ok (.istore_n 3, 1) := by decide +kernel
theorem dX5_put_99 : decode cX5_put 99 = .ok (.iinc 6 1, 3) := by decide +kernel
theorem dX5_put_102 : decode cX5_put 102 = .ok (.goto (-91), 3) := by decide +kernel
theorem dX5_put_105 : decode cX5_put 105 = .ok (.iload 4, 2) := by decide +kernel
theorem dX5_put_107 : decode cX5_put 107 = .ok (.ifCond .eq 7, 3) := by decide +kernel
theorem dX5_put_110 : decode cX5_put 110 = .ok (.iload_n 3, 1) := by decide +kernel
theorem dX5_put_111 : decode cX5_put 111 = .ok (.ifCond .ne 6, 3) := by decide +kernel
theorem dX5_put_114 : decode cX5_put 114 = .ok (.bipush (-2), 2) := by decide +kernel
theorem dX5_put_116 : decode cX5_put 116 = .ok (.ireturn, 1) := by decide +kernel
theorem dX5_put_117 : decode cX5_put 117 = .ok (.aload_n 0, 1) := by decide +kernel
theorem dX5_put_118 : decode cX5_put 118 = .ok (.getfield 109, 3) := by decide +kernel
theorem dX5_put_121 : decode cX5_put 121 = .ok (.iload_n 3, 1) := by decide +kernel
theorem dX5_put_122 : decode cX5_put 122 = .ok (.iadd, 1) := by decide +kernel
theorem dX5_put_123 : decode cX5_put 123 = .ok (.bipush 60, 2) := by decide +kernel
theorem dX5_put_125 : decode cX5_put 125 = .ok (.if_icmp .le 6, 3) := by decide +kernel
theorem dX5_put_128 : decode cX5_put 128 = .ok (.bipush (-4), 2) := by decide +kernel
theorem dX5_put_130 : decode cX5_put 130 = .ok (.ireturn, 1) := by decide +kernel
theorem dX5_put_131 : decode cX5_put 131 = .ok (.iload_n 3, 1) := by decide +kernel
theorem dX5_put_132 : decode cX5_put 132 = .ok (.iconst 1, 1) := by decide +kernel
theorem dX5_put_133 : decode cX5_put 133 = .ok (.isub, 1) := by decide +kernel
theorem dX5_put_134 : decode cX5_put 134 = .ok (.istore 6, 2) := by decide +kernel
theorem dX5_put_136 : decode cX5_put 136 = .ok (.iload 6, 2) := by decide +kernel
theorem dX5_put_138 : decode cX5_put 138 = .ok (.ifCond .lt 40, 3) := by decide +kernel
theorem dX5_put_141 : decode cX5_put 141 = .ok (.aload_n 0, 1) := by decide +kernel
theorem dX5_put_142 : decode cX5_put 142 = .ok (.getfield 23, 3) := by decide +kernel
theorem dX5_put_145 : decode cX5_put 145 = .ok (.aload_n 0, 1) := by decide +kernel
theorem dX5_put_146 : decode cX5_put 146 = .ok (.getfield 109, 3) := by decide +kernel
theorem dX5_put_149 : decode cX5_put 149 = .ok (.lload_n 1, 1) := by decide +kernel
theorem dX5_put_150 : decode cX5_put 150 = .ok (.bipush 8, 2) := by decide +kernel
theorem dX5_put_152 : decode cX5_put 152 = .ok (.iload 6, 2) := by decide +kernel
theorem dX5_put_154 : decode cX5_put 154 = .ok (.imul, 1) := by decide +kernel
theorem dX5_put_155 : decode cX5_put 155 = .ok (.lshr, 1) := by decide +kernel
theorem dX5_put_156 : decode cX5_put 156 = .ok (.ldc2_w 115, 3) := by decide +kernel
theorem dX5_put_159 : decode cX5_put 159 = .ok (.land, 1) := by decide +kernel
theorem dX5_put_160 : decode cX5_put 160 = .ok (.l2i, 1) := by decide +kernel
theorem dX5_put_161 : decode cX5_put 161 = .ok (.iastore, 1) := by decide +kernel
theorem dX5_put_162 : decode cX5_put 162 = .ok (.aload_n 0, 1) := by decide +kernel
theorem dX5_put_163 : decode cX5_put 163 = .ok (.dup, 1) := by decide +kernel
theorem dX5_put_164 : decode cX5_put 164 = .ok (.getfield 109, 3) := by decide +kernel
theorem dX5_put_167 : decode cX5_put 167 = .ok (.iconst 1, 1) := by decide +kernel
theorem dX5_put_168 : decode cX5_put 168 = .ok (.iadd, 1) := by decide +kernel
theorem dX5_put_169 : decode cX5_put 169 = .ok (.putfield 109, 3) := by decide +kernel
theorem dX5_put_172 : decode cX5_put 172 = .ok (.iinc 6 (-1), 3) := by decide +kernel
theorem dX5_put_175 : decode cX5_put 175 = .ok (.goto (-39), 3) := by decide +kernel
theorem dX5_put_178 : decode cX5_put 178 = .ok (.aload_n 0, 1) := by decide +kernel
theorem dX5_put_179 : decode cX5_put 179 = .ok (.getfield 109, 3) := by decide +kernel
theorem dX5_put_182 : decode cX5_put 182 = .ok (.ireturn, 1) := by decide +kernel
theorem dX5_wipe_0 : decode cX5_wipe 0 = .ok (.aload_n 0, 1) := by decide +kernel
theorem dX5_wipe_1 : decode cX5_wipe 1 = .ok (.getfield 109, 3) := by decide +kernel
theorem dX5_wipe_4 : decode cX5_wipe 4 = .ok (.istore_n 1, 1) := by decide +kernel
theorem dX5_wipe_5 : decode cX5_wipe 5 = .ok (.aload_n 0, 1) := by decide +kernel
theorem dX5_wipe_6 : decode cX5_wipe 6 = .ok (.iconst 0, 1) := by decide +kernel
theorem dX5_wipe_7 : decode cX5_wipe 7 = .ok (.putfield 109, 3) := by decide +kernel
theorem dX5_wipe_10 : decode cX5_wipe 10 = .ok (.iload_n 1, 1) := by decide +kernel
theorem dX5_wipe_11 : decode cX5_wipe 11 = .ok (.ireturn, 1) := by decide +kernel
theorem dX5_sign_0 : decode cX5_sign 0 = .ok (.iload_n 1, 1) := by decide +kernel
theorem dX5_sign_1 : decode cX5_sign 1 = .ok (.aload_n 0, 1) := by decide +kernel
theorem dX5_sign_2 : decode cX5_sign 2 = .ok (.getfield 109, 3) := by decide +kernel
theorem dX5_sign_5 : decode cX5_sign 5 = .ok (.if_icmp .ge 12, 3) := by decide +kernel
theorem dX5_sign_8 : decode cX5_sign 8 = .ok (.aload_n 0, 1) := by decide +kernel
theorem dX5_sign_9 : decode cX5_sign 9 = .ok (.getfield 23, 3) := by decide +kernel
theorem dX5_sign_12 : decode cX5_sign 12 = .ok (.iload_n 1, 1) := by decide +kernel
theorem dX5_sign_13 : decode cX5_sign 13 = .ok (.iaload, 1) := by decide +kernel
theorem dX5_sign_14 : decode cX5_sign 14 = .ok (.goto 4, 3) := by decide +kernel
theorem dX5_sign_17 : decode cX5_sign 17 = .ok (.iconst (-1), 1) := by decide +kernel
theorem dX5_sign_18 : decode cX5_sign 18 = .ok (.ireturn, 1) := by decide +kernel
theorem dX5_digit_0 : decode cX5_digit 0 = .ok (.aload_n 0, 1) := by decide +kernel
theorem dX5_digit_1 : decode cX5_digit 1 = .ok (.iload_n 1, 1) := by decide +kernel
theorem dX5_digit_2 : decode cX5_digit 2 = .ok (.invokevirtual 117, 3) := by decide +kernel
theorem dX5_digit_5 : decode cX5_digit 5 = .ok (.bipush 48, 2) := by decide +kernel
theorem dX5_digit_7 : decode cX5_digit 7 = .ok (.bipush 57, 2) := by decide +kernel
theorem dX5_digit_9 : decode cX5_digit 9 = .ok (.invokestatic 26, 3) := by decide +kernel
theorem dX5_digit_12 : decode cX5_digit 12 = .ok (.ifCond .eq 14, 3) := by decide +kernel
theorem dX5_digit_15 : decode cX5_digit 15 = .ok (.aload_n 0, 1) := by decide +kernel
theorem dX5_digit_16 : decode cX5_digit 16 = .ok (.iload_n 1, 1) := by decide +kernel
theorem dX5_digit_17 : decode cX5_digit 17 = .ok (.invokevirtual 117, 3) := by decide +kernel
theorem dX5_digit_20 : decode cX5_digit 20 = .ok (.bipush 48, 2) := by decide +kernel
theorem dX5_digit_22 : decode cX5_digit 22 = .ok (.isub, 1) := by decide +kernel
theorem dX5_digit_23 : decode cX5_digit 23 = .ok (.goto 4, 3) := by decide +kernel
theorem dX5_digit_26 : decode cX5_digit 26 = .ok (.iconst (-1), 1) := by decide +kernel
theorem dX5_digit_27 : decode cX5_digit 27 = .ok (.ireturn, 1) := by decide +kernel
theorem dX5_shareEnd_0 : decode cX5_shareEnd 0 = .ok (.aload_n 0, 1) := by decide +kernel
theorem dX5_shareEnd_1 : decode cX5_shareEnd 1 = .ok (.iload_n 1, 1) := by decide +kernel
theorem dX5_shareEnd_2 : decode cX5_shareEnd 2 = .ok (.invokevirtual 120, 3) := by decide +kernel
theorem dX5_shareEnd_5 : decode cX5_shareEnd 5 = .ok (.ifCond .ge 7, 3) := by decide +kernel
theorem dX5_shareEnd_8 : decode cX5_shareEnd 8 = .ok (.iconst (-1), 1) := by decide +kernel
theorem dX5_shareEnd_9 : decode cX5_shareEnd 9 = .ok (.iload_n 1, 1) := by decide +kernel
theorem dX5_shareEnd_10 : decode cX5_shareEnd 10 = .ok (.isub, 1) := by decide +kernel
theorem dX5_shareEnd_11 : decode cX5_shareEnd 11 = .ok (.ireturn, 1) := by decide +kernel
theorem dX5_shareEnd_12 : decode cX5_shareEnd 12 = .ok (.aload_n 0, 1) := by decide +kernel
theorem dX5_shareEnd_13 : decode cX5_shareEnd 13 = .ok (.iload_n 1, 1) := by decide +kernel
theorem dX5_shareEnd_14 : decode cX5_shareEnd 14 = .ok (.invokevirtual 120, 3) := by decide +kernel
theorem dX5_shareEnd_17 : decode cX5_shareEnd 17 = .ok (.ifCond .eq 13, 3) := by decide +kernel
theorem dX5_shareEnd_20 : decode cX5_shareEnd 20 = .ok (.aload_n 0, 1) := by decide +kernel
theorem dX5_shareEnd_21 : decode cX5_shareEnd 21 = .ok (.iload_n 1, 1) := by decide +kernel
theorem dX5_shareEnd_22 : decode cX5_shareEnd 22 = .ok (.iconst 1, 1) := by decide +kernel
theorem dX5_shareEnd_23 : decode cX5_shareEnd 23 = .ok (.iadd, 1) := by decide +kernel
theorem dX5_shareEnd_24 : decode cX5_shareEnd 24 = .ok (.invokevirtual 120, 3) := by decide +kernel
theorem dX5_shareEnd_27 : decode cX5_shareEnd 27 = .ok (.ifCond .ge 7, 3) := by decide +kernel
theorem dX5_shareEnd_30 : decode cX5_shareEnd 30 = .ok (.iload_n 1, 1) := by decide +kernel
theorem dX5_shareEnd_31 : decode cX5_shareEnd 31 = .ok (.iconst 1, 1) := by decide +kernel
theorem dX5_shareEnd_32 : decode cX5_shareEnd 32 = .ok (.iadd, 1) := by decide +kernel
theorem dX5_shareEnd_33 : decode cX5_shareEnd 33 = .ok (.ireturn, 1) := by decide +kernel
theorem dX5_shareEnd_34 : decode cX5_shareEnd 34 = .ok (.aload_n 0, 1) := by decide +kernel
theorem dX5_shareEnd_35 : decode cX5_shareEnd 35 = .ok (.iload_n 1, 1) := by decide +kernel
theorem dX5_shareEnd_36 : decode cX5_shareEnd 36 = .ok (.invokevirtual 120, 3) := by decide +kernel
theorem dX5_shareEnd_39 : decode cX5_shareEnd 39 = .ok (.iconst 1, 1) := by decide +kernel
theorem dX5_shareEnd_40 : decode cX5_shareEnd 40 = .ok (.if_icmp .ne 27, 3) := by decide +kernel
theorem dX5_shareEnd_43 : decode cX5_shareEnd 43 = .ok (.aload_n 0, 1) := by decide +kernel
theorem dX5_shareEnd_44 : decode cX5_shareEnd 44 = .ok (.iload_n 1, 1) := by decide +kernel
theorem dX5_shareEnd_45 : decode cX5_shareEnd 45 = .ok (.iconst 1, 1) := by decide +kernel
theorem dX5_shareEnd_46 : decode cX5_shareEnd 46 = .ok (.iadd, 1) := by decide +kernel
theorem dX5_shareEnd_47 : decode cX5_shareEnd 47 = .ok (.invokevirtual 120, 3) := by decide +kernel
theorem dX5_shareEnd_50 : decode cX5_shareEnd 50 = .ok (.ifCond .ne 17, 3) := by decide +kernel
theorem dX5_shareEnd_53 : decode cX5_shareEnd 53 = .ok (.aload_n 0, 1) := by decide +kernel
theorem dX5_shareEnd_54 : decode cX5_shareEnd 54 = .ok (.iload_n 1, 1) := by decide +kernel
theorem dX5_shareEnd_55 : decode cX5_shareEnd 55 = .ok (.iconst 2, 1) := by decide +kernel
theorem dX5_shareEnd_56 : decode cX5_shareEnd 56 = .ok (.iadd, 1) := by decide +kernel
theorem dX5_shareEnd_57 : decode cX5_shareEnd 57 = .ok (.invokevirtual 120, 3) := by decide +kernel
theorem dX5_shareEnd_60 : decode cX5_shareEnd 60 = .ok (.ifCond .ne 7, 3) := by decide +kernel
theorem dX5_shareEnd_63 : decode cX5_shareEnd 63 = .ok (.iconst 1, 1) := by decide +kernel
theorem dX5_shareEnd_64 : decode cX5_shareEnd 64 = .ok (.goto 4, 3) := by decide +kernel
theorem dX5_shareEnd_67 : decode cX5_shareEnd 67 = .ok (.iconst 0, 1) := by decide +kernel
theorem dX5_shareEnd_68 : decode cX5_shareEnd 68 = .ok (.istore_n 2, 1) := by decide +kernel
theorem dX5_shareEnd_69 : decode cX5_shareEnd 69 = .ok (.iload_n 2, 1) := by decide +kernel
theorem dX5_shareEnd_70 : decode cX5_shareEnd 70 = .ok (.ifCond .eq 9, 3) := by decide +kernel
theorem dX5_shareEnd_73 : decode cX5_shareEnd 73 = .ok (.iload_n 1, 1) := by decide +kernel
theorem dX5_shareEnd_74 : decode cX5_shareEnd 74 = .ok (.iconst 3, 1) := by decide +kernel
theorem dX5_shareEnd_75 : decode cX5_shareEnd 75 = .ok (.iadd, 1) := by decide +kernel
theorem dX5_shareEnd_76 : decode cX5_shareEnd 76 = .ok (.goto 6, 3) := by decide +kernel
theorem dX5_shareEnd_79 : decode cX5_shareEnd 79 = .ok (.iload_n 1, 1) := by decide +kernel
theorem dX5_shareEnd_80 : decode cX5_shareEnd 80 = .ok (.iconst 2, 1) := by decide +kernel
theorem dX5_shareEnd_81 : decode cX5_shareEnd 81 = .ok (.iadd, 1) := by decide +kernel
theorem dX5_shareEnd_82 : decode cX5_shareEnd 82 = .ok (.ireturn, 1) := by decide +kernel
theorem dX5_shareAt_0 : decode cX5_shareAt 0 = .ok (.iconst 0, 1) := by decide +kernel
theorem dX5_shareAt_1 : decode cX5_shareAt 1 = .ok (.istore_n 2, 1) := by decide +kernel
theorem dX5_shareAt_2 : decode cX5_shareAt 2 = .ok (.iload_n 1, 1) := by decide +kernel
theorem dX5_shareAt_3 : decode cX5_shareAt 3 = .ok (.istore_n 3, 1) := by decide +kernel
theorem dX5_shareAt_4 : decode cX5_shareAt 4 = .ok (.iload_n 3, 1) := by decide +kernel
theorem dX5_shareAt_5 : decode cX5_shareAt 5 = .ok (.aload_n 0, 1) := by decide +kernel
theorem dX5_shareAt_6 : decode cX5_shareAt 6 = .ok (.iload_n 1, 1) := by decide +kernel
theorem dX5_shareAt_7 : decode cX5_shareAt 7 = .ok (.invokevirtual 123, 3) := by decide +kernel
theorem dX5_shareAt_10 : decode cX5_shareAt 10 = .ok (.if_icmp .ge 20, 3) := by decide +kernel
theorem dX5_shareAt_13 : decode cX5_shareAt 13 = .ok (.bipush 10, 2) := by decide +kernel
theorem dX5_shareAt_15 : decode cX5_shareAt 15 = .ok (.iload_n 2, 1) := by decide +kernel
theorem dX5_shareAt_16 : decode cX5_shareAt 16 = .ok (.imul, 1) := by decide +kernel
theorem dX5_shareAt_17 : decode cX5_shareAt 17 = .ok (.aload_n 0, 1) := by decide +kernel
theorem dX5_shareAt_18 : decode cX5_shareAt 18 = .ok (.iload_n 3, 1) := by decide +kernel
theorem dX5_shareAt_19 : decode cX5_shareAt 19 = .ok (.invokevirtual 120, 3) := by decide +kernel
theorem dX5_shareAt_22 : decode cX5_shareAt 22 = .ok (.iadd, 1) := by decide +kernel
theorem dX5_shareAt_23 : decode cX5_shareAt 23 = .ok (.istore_n 2, 1) := by decide +kernel
theorem dX5_shareAt_24 : decode cX5_shareAt 24 = .ok (.iinc 3 1, 3) := by decide +kernel
theorem dX5_shareAt_27 : decode cX5_shareAt 27 = .ok (.goto (-23), 3) := by decide +kernel
theorem dX5_shareAt_30 : decode cX5_shareAt 30 = .ok (.iload_n 2, 1) := by decide +kernel
theorem dX5_shareAt_31 : decode cX5_shareAt 31 = .ok (.ireturn, 1) := by decide +kernel
theorem dX5_personEnd_0 : decode cX5_personEnd 0 = .ok (.aload_n 0, 1) := by decide +kernel
theorem dX5_personEnd_1 : decode cX5_personEnd 1 = .ok (.iload_n 1, 1) := by decide +kernel
theorem dX5_personEnd_2 : decode cX5_personEnd 2 = .ok (.invokevirtual 120, 3) := by decide +kernel
theorem dX5_personEnd_5 : decode cX5_personEnd 5 = .ok (.iconst 1, 1) := by decide +kernel
theorem dX5_personEnd_6 : decode cX5_personEnd 6 = .ok (.if_icmp .ge 7, 3) := by decide +kernel
theorem dX5_personEnd_9 : decode cX5_personEnd 9 = .ok (.iconst (-1), 1) := by decide +kernel
theorem dX5_personEnd_10 : decode cX5_personEnd 10 = .ok (.iload_n 1, 1) := by decide +kernel
theorem dX5_personEnd_11 : decode cX5_personEnd 11 = .ok (.isub, 1) := by decide +kernel
theorem dX5_personEnd_12 : decode cX5_personEnd 12 = .ok (.ireturn, 1) := by decide +kernel
theorem dX5_personEnd_13 : decode cX5_personEnd 13 = .ok (.aload_n 0, 1) := by decide +kernel
theorem dX5_personEnd_14 : decode cX5_personEnd 14 = .ok (.iload_n 1, 1) := by decide +kernel
theorem dX5_personEnd_15 : decode cX5_personEnd 15 = .ok (.iconst 1, 1) := by decide +kernel
theorem dX5_personEnd_16 : decode cX5_personEnd 16 = .ok (.iadd, 1) := by decide +kernel
theorem dX5_personEnd_17 : decode cX5_personEnd 17 = .ok (.invokevirtual 117, 3) := by decide +kernel
theorem dX5_personEnd_20 : decode cX5_personEnd 20 = .ok (.bipush 102, 2) := by decide +kernel
theorem dX5_personEnd_22 : decode cX5_personEnd 22 = .ok (.if_icmp .ne 13, 3) := by decide +kernel
theorem dX5_personEnd_25 : decode cX5_personEnd 25 = .ok (.aload_n 0, 1) := by decide +kernel
theorem dX5_personEnd_26 : decode cX5_personEnd 26 = .ok (.iload_n 1, 1) := by decide +kernel
theorem dX5_personEnd_27 : decode cX5_personEnd 27 = .ok (.iconst 2, 1) := by decide +kernel
theorem dX5_personEnd_28 : decode cX5_personEnd 28 = .ok (.iadd, 1) := by decide +kernel
theorem dX5_personEnd_29 : decode cX5_personEnd 29 = .ok (.invokevirtual 123, 3) := by decide +kernel
theorem dX5_personEnd_32 : decode cX5_personEnd 32 = .ok (.goto 7, 3) := by decide +kernel
theorem dX5_personEnd_35 : decode cX5_personEnd 35 = .ok (.bipush (-2), 2) := by decide +kernel
theorem dX5_personEnd_37 : decode cX5_personEnd 37 = .ok (.iload_n 1, 1) := by decide +kernel
theorem dX5_personEnd_38 : decode cX5_personEnd 38 = .ok (.isub, 1) := by decide +kernel
theorem dX5_personEnd_39 : decode cX5_personEnd 39 = .ok (.ireturn, 1) := by decide +kernel
theorem dX5_fault_0 : decode cX5_fault 0 = .ok (.iconst 0, 1) := by decide +kernel
theorem dX5_fault_1 : decode cX5_fault 1 = .ok (.istore_n 1, 1) := by decide +kernel
theorem dX5_fault_2 : decode cX5_fault 2 = .ok (.iconst 0, 1) := by decide +kernel
theorem dX5_fault_3 : decode cX5_fault 3 = .ok (.istore_n 2, 1) := by decide +kernel
theorem dX5_fault_4 : decode cX5_fault 4 = .ok (.iload_n 2, 1) := by decide +kernel
theorem dX5_fault_5 : decode cX5_fault 5 = .ok (.bipush 60, 2) := by decide +kernel
theorem dX5_fault_7 : decode cX5_fault 7 = .ok (.if_icmp .ge 50, 3) := by decide +kernel
theorem dX5_fault_10 : decode cX5_fault 10 = .ok (.aload_n 0, 1) := by decide +kernel
theorem dX5_fault_11 : decode cX5_fault 11 = .ok (.iload_n 1, 1) := by decide +kernel
theorem dX5_fault_12 : decode cX5_fault 12 = .ok (.invokevirtual 126, 3) := by decide +kernel
theorem dX5_fault_15 : decode cX5_fault 15 = .ok (.istore_n 3, 1) := by decide +kernel
theorem dX5_fault_16 : decode cX5_fault 16 = .ok (.iload_n 3, 1) := by decide +kernel
theorem dX5_fault_17 : decode cX5_fault 17 = .ok (.ifCond .ge 7, 3) := by decide +kernel
theorem dX5_fault_20 : decode cX5_fault 20 = .ok (.iconst (-1), 1) := by decide +kernel
theorem dX5_fault_21 : decode cX5_fault 21 = .ok (.iload_n 3, 1) := by decide +kernel
theorem dX5_fault_22 : decode cX5_fault 22 = .ok (.isub, 1) := by decide +kernel
theorem dX5_fault_23 : decode cX5_fault 23 = .ok (.ireturn, 1) := by decide +kernel
theorem dX5_fault_24 : decode cX5_fault 24 = .ok (.iload_n 3, 1) := by decide +kernel
theorem dX5_fault_25 : decode cX5_fault 25 = .ok (.aload_n 0, 1) := by decide +kernel
theorem dX5_fault_26 : decode cX5_fault 26 = .ok (.getfield 109, 3) := by decide +kernel
theorem dX5_fault_29 : decode cX5_fault 29 = .ok (.if_icmp .ne 6, 3) := by decide +kernel
theorem dX5_fault_32 : decode cX5_fault 32 = .ok (.bipush (-6), 2) := by decide +kernel
theorem dX5_fault_34 : decode cX5_fault 34 = .ok (.ireturn, 1) := by decide +kernel
theorem dX5_fault_35 : decode cX5_fault 35 = .ok (.aload_n 0, 1) := by decide +kernel
theorem dX5_fault_36 : decode cX5_fault 36 = .ok (.iload_n 3, 1) := by decide +kernel
theorem dX5_fault_37 : decode cX5_fault 37 = .ok (.invokevirtual 117, 3) := by decide +kernel
theorem dX5_fault_40 : decode cX5_fault 40 = .ok (.bipush 44, 2) := by decide +kernel
theorem dX5_fault_42 : decode cX5_fault 42 = .ok (.if_icmp .eq 5, 3) := by decide +kernel
theorem dX5_fault_45 : decode cX5_fault 45 = .ok (.iload_n 3, 1) := by decide +kernel
theorem dX5_fault_46 : decode cX5_fault 46 = .ok (.ireturn, 1) := by decide +kernel
theorem dX5_fault_47 : decode cX5_fault 47 = .ok (.iload_n 3, 1) := by decide +kernel
theorem dX5_fault_48 : decode cX5_fault 48 = .ok (.iconst 1, 1) := by decide +kernel
theorem dX5_fault_49 : decode cX5_fault 49 = .ok (.iadd, 1) := by decide +kernel
theorem dX5_fault_50 : decode cX5_fault 50 = .ok (.istore_n 1, 1) := by decide +kernel
theorem dX5_fault_51 : decode cX5_fault 51 = .ok (.iinc 2 1, 3) := by decide +kernel
theorem dX5_fault_54 : decode cX5_fault 54 = .ok (.goto (-50), 3) := by decide +kernel
theorem dX5_fault_57 : decode cX5_fault 57 = .ok (.bipush (-6), 2) := by decide +kernel
theorem dX5_fault_59 : decode cX5_fault 59 = .ok (.ireturn, 1) := by decide +kernel
theorem dX5_peopleOfPad_0 : decode cX5_peopleOfPad 0 = .ok (.iconst 0, 1) := by decide +kernel
theorem dX5_peopleOfPad_1 : decode cX5_peopleOfPad 1 = .ok (.istore_n 1, 1) := by decide +kernel
theorem dX5_peopleOfPad_2 : decode cX5_peopleOfPad 2 = .ok (.iconst 0, 1) := by decide +kernel
theorem dX5_peopleOfPad_3 : decode cX5_peopleOfPad 3 = .ok (.istore_n 2, 1) := by decide +kernel
theorem dX5_peopleOfPad_4 : decode cX5_peopleOfPad 4 = .ok (.iload_n 2, 1) := by decide +kernel
theorem dX5_peopleOfPad_5 : decode cX5_peopleOfPad 5 = .ok (.aload_n 0, 1) := by decide +kernel
theorem dX5_peopleOfPad_6 : decode cX5_peopleOfPad 6 = .ok (.getfield 109, 3) := by decide +kernel
theorem dX5_peopleOfPad_9 : decode cX5_peopleOfPad 9 = .ok (.if_icmp .ge 17, 3) := by decide +kernel
theorem dX5_peopleOfPad_12 : decode cX5_peopleOfPad 12 = .ok (.iinc 1 1, 3) := by decide +kernel
theorem dX5_peopleOfPad_15 : decode cX5_peopleOfPad 15 = .ok (.aload_n 0, 1) := by decide +kernel
theorem dX5_peopleOfPad_16 : decode cX5_peopleOfPad 16 = .ok (.iload_n 2, 1) := by decide +kernel
theorem dX5_peopleOfPad_17 : decode cX5_peopleOfPad 17 = .ok (.invokevirtual 126, 3) := by decide +kernel
theorem dX5_peopleOfPad_20 : decode cX5_peopleOfPad 20 = .ok (.iconst 1, 1) := by decide +kernel
theorem dX5_peopleOfPad_21 : decode cX5_peopleOfPad 21 = .ok (.iadd, 1) := by decide +kernel
theorem dX5_peopleOfPad_22 : decode cX5_peopleOfPad 22 = .ok (.istore_n 2, 1) := by decide +kernel
theorem dX5_peopleOfPad_23 : decode cX5_peopleOfPad 23 = .ok (.goto (-19), 3) := by decide +kernel
theorem dX5_peopleOfPad_26 : decode cX5_peopleOfPad 26 = .ok (.iload_n 1, 1) := by decide +kernel
theorem dX5_peopleOfPad_27 : decode cX5_peopleOfPad 27 = .ok (.ireturn, 1) := by decide +kernel
theorem dX5_read_0 : decode cX5_read 0 = .ok (.aload_n 0, 1) := by decide +kernel
theorem dX5_read_1 : decode cX5_read 1 = .ok (.invokevirtual 129, 3) := by decide +kernel
theorem dX5_read_4 : decode cX5_read 4 = .ok (.bipush (-6), 2) := by decide +kernel
theorem dX5_read_6 : decode cX5_read 6 = .ok (.if_icmp .eq 6, 3) := by decide +kernel
theorem dX5_read_9 : decode cX5_read 9 = .ok (.bipush (-3), 2) := by decide +kernel
theorem dX5_read_11 : decode cX5_read 11 = .ok (.ireturn, 1) := by decide +kernel
theorem dX5_read_12 : decode cX5_read 12 = .ok (.aload_n 0, 1) := by decide +kernel
theorem dX5_read_13 : decode cX5_read 13 = .ok (.getfield 7, 3) := by decide +kernel
theorem dX5_read_16 : decode cX5_read 16 = .ok (.bipush 7, 2) := by decide +kernel
theorem dX5_read_18 : decode cX5_read 18 = .ok (.iaload, 1) := by decide +kernel
theorem dX5_read_19 : decode cX5_read 19 = .ok (.aload_n 0, 1) := by decide +kernel
theorem dX5_read_20 : decode cX5_read 20 = .ok (.invokevirtual 133, 3) := by decide +kernel
theorem dX5_read_23 : decode cX5_read 23 = .ok (.iadd, 1) := by decide +kernel
theorem dX5_read_24 : decode cX5_read 24 = .ok (.bipush 8, 2) := by decide +kernel
theorem dX5_read_26 : decode cX5_read 26 = .ok (.if_icmp .le 6, 3) := by decide +kernel
theorem dX5_read_29 : decode cX5_read 29 = .ok (.bipush (-4), 2) := by decide +kernel
theorem dX5_read_31 : decode cX5_read 31 = .ok (.ireturn, 1) := by decide +kernel
theorem dX5_read_32 : decode cX5_read 32 = .ok (.aload_n 0, 1) := by decide +kernel
theorem dX5_read_33 : decode cX5_read 33 = .ok (.invokevirtual 87, 3) := by decide +kernel
theorem dX5_read_36 : decode cX5_read 36 = .ok (.iconst 0, 1) := by decide +kernel
theorem dX5_read_37 : decode cX5_read 37 = .ok (.istore_n 1, 1) := by decide +kernel
theorem dX5_read_38 : decode cX5_read 38 = .ok (.iload_n 1, 1) := by decide +kernel
theorem dX5_read_39 : decode cX5_read 39 = .ok (.aload_n 0, 1) := by decide +kernel
theorem dX5_read_40 : decode cX5_read 40 = .ok (.getfield 109, 3) := by decide +kernel
theorem dX5_read_43 : decode cX5_read 43 = .ok (.if_icmp .ge 30, 3) := by decide +kernel
theorem dX5_read_46 : decode cX5_read 46 = .ok (.aload_n 0, 1) := by decide +kernel
theorem dX5_read_47 : decode cX5_read 47 = .ok (.aload_n 0, 1) := by decide +kernel
theorem dX5_read_48 : decode cX5_read 48 = .ok (.iload_n 1, 1) := by decide +kernel
theorem dX5_read_49 : decode cX5_read 49 = .ok (.invokevirtual 120, 3) := by decide +kernel
theorem dX5_read_52 : decode cX5_read 52 = .ok (.aload_n 0, 1) := by decide +kernel
theorem dX5_read_53 : decode cX5_read 53 = .ok (.iload_n 1, 1) := by decide +kernel
theorem dX5_read_54 : decode cX5_read 54 = .ok (.iconst 2, 1) := by decide +kernel
theorem dX5_read_55 : decode cX5_read 55 = .ok (.iadd, 1) := by decide +kernel
theorem dX5_read_56 : decode cX5_read 56 = .ok (.invokevirtual 136, 3) := by decide +kernel
theorem dX5_read_59 : decode cX5_read 59 = .ok (.invokevirtual 90, 3) := by decide +kernel
theorem dX5_read_62 : decode cX5_read 62 = .ok (.aload_n 0, 1) := by decide +kernel
theorem dX5_read_63 : decode cX5_read 63 = .ok (.iload_n 1, 1) := by decide +kernel
theorem dX5_read_64 : decode cX5_read 64 = .ok (.invokevirtual 126, 3) := by decide +kernel
theorem dX5_read_67 : decode cX5_read 67 = .ok (.iconst 1, 1) := by decide +kernel
theorem dX5_read_68 : decode cX5_read 68 = .ok (.iadd, 1) := by decide +kernel
theorem dX5_read_69 : decode cX5_read 69 = .ok (.istore_n 1, 1) := by decide +kernel
theorem dX5_read_70 : decode cX5_read 70 = .ok (.goto (-32), 3) := by decide +kernel
theorem dX5_read_73 : decode cX5_read 73 = .ok (.aload_n 0, 1) := by decide +kernel
theorem dX5_read_74 : decode cX5_read 74 = .ok (.iconst 0, 1) := by decide +kernel
theorem dX5_read_75 : decode cX5_read 75 = .ok (.putfield 109, 3) := by decide +kernel
theorem dX5_read_78 : decode cX5_read 78 = .ok (.aload_n 0, 1) := by decide +kernel
theorem dX5_read_79 : decode cX5_read 79 = .ok (.getfield 7, 3) := by decide +kernel
theorem dX5_read_82 : decode cX5_read 82 = .ok (.bipush 7, 2) := by decide +kernel
theorem dX5_read_84 : decode cX5_read 84 = .ok (.iaload, 1) := by decide +kernel
theorem dX5_read_85 : decode cX5_read 85 = .ok (.ireturn, 1) := by decide +kernel
theorem dX5_undo_0 : decode cX5_undo 0 = .ok (.aload_n 0, 1) := by decide +kernel
theorem dX5_undo_1 : decode cX5_undo 1 = .ok (.getfield 30, 3) := by decide +kernel
theorem dX5_undo_4 : decode cX5_undo 4 = .ok (.ifCond .ne 6, 3) := by decide +kernel
theorem dX5_undo_7 : decode cX5_undo 7 = .ok (.bipush (-5), 2) := by decide +kernel
theorem dX5_undo_9 : decode cX5_undo 9 = .ok (.ireturn, 1) := by decide +kernel
theorem dX5_undo_10 : decode cX5_undo 10 = .ok (.aload_n 0, 1) := by decide +kernel
theorem dX5_undo_11 : decode cX5_undo 11 = .ok (.dup, 1) := by decide +kernel
theorem dX5_undo_12 : decode cX5_undo 12 = .ok (.getfield 30, 3) := by decide +kernel
theorem dX5_undo_15 : decode cX5_undo 15 = .ok (.iconst 1, 1) := by decide +kernel
theorem dX5_undo_16 : decode cX5_undo 16 = .ok (.isub, 1) := by decide +kernel
theorem dX5_undo_17 : decode cX5_undo 17 = .ok (.putfield 30, 3) := by decide +kernel
theorem dX5_undo_20 : decode cX5_undo 20 = .ok (.iconst 0, 1) := by decide +kernel
theorem dX5_undo_21 : decode cX5_undo 21 = .ok (.istore_n 1, 1) := by decide +kernel
theorem dX5_undo_22 : decode cX5_undo 22 = .ok (.iload_n 1, 1) := by decide +kernel
theorem dX5_undo_23 : decode cX5_undo 23 = .ok (.bipush 65, 2) := by decide +kernel
theorem dX5_undo_25 : decode cX5_undo 25 = .ok (.if_icmp .ge 29, 3) := by decide +kernel
theorem dX5_undo_28 : decode cX5_undo 28 = .ok (.aload_n 0, 1) := by decide +kernel
theorem dX5_undo_29 : decode cX5_undo 29 = .ok (.getfield 7, 3) := by decide +kernel
theorem dX5_undo_32 : decode cX5_undo 32 = .ok (.iload_n 1, 1) := by decide +kernel
theorem dX5_undo_33 : decode cX5_undo 33 = .ok (.aload_n 0, 1) := by decide +kernel
theorem dX5_undo_34 : decode cX5_undo 34 = .ok (.getfield 13, 3) := by decide +kernel
theorem dX5_undo_37 : decode cX5_undo 37 = .ok (.bipush 65, 2) := by decide +kernel
theorem dX5_undo_39 : decode cX5_undo 39 = .ok (.aload_n 0, 1) := by decide +kernel
theorem dX5_undo_40 : decode cX5_undo 40 = .ok (.getfield 30, 3) := by decide +kernel
theorem dX5_undo_43 : decode cX5_undo 43 = .ok (.imul, 1) := by decide +kernel
theorem dX5_undo_44 : decode cX5_undo 44 = .ok (.iload_n 1, 1) := by decide +kernel
theorem dX5_undo_45 : decode cX5_undo 45 = .ok (.iadd, 1) := by decide +kernel
theorem dX5_undo_46 : decode cX5_undo 46 = .ok (.iaload, 1) := by decide +kernel
theorem dX5_undo_47 : decode cX5_undo 47 = .ok (.iastore, 1) := by decide +kernel
theorem dX5_undo_48 : decode cX5_undo 48 = .ok (.iinc 1 1, 3) := by decide +kernel
theorem dX5_undo_51 : decode cX5_undo 51 = .ok (.goto (-29), 3) := by decide +kernel
theorem dX5_undo_54 : decode cX5_undo 54 = .ok (.aload_n 0, 1) := by decide +kernel
theorem dX5_undo_55 : decode cX5_undo 55 = .ok (.getfield 30, 3) := by decide +kernel
theorem dX5_undo_58 : decode cX5_undo 58 = .ok (.ireturn, 1) := by decide +kernel
theorem dX5_save_0 : decode cX5_save 0 = .ok (.iload_n 1, 1) := by decide +kernel
theorem dX5_save_1 : decode cX5_save 1 = .ok (.iconst 0, 1) := by decide +kernel
theorem dX5_save_2 : decode cX5_save 2 = .ok (.iconst 1, 1) := by decide +kernel
theorem dX5_save_3 : decode cX5_save 3 = .ok (.invokestatic 26, 3) := by decide +kernel
theorem dX5_save_6 : decode cX5_save 6 = .ok (.ifCond .ne 6, 3) := by decide +kernel
theorem dX5_save_9 : decode cX5_save 9 = .ok (.bipush (-2), 2) := by decide +kernel
theorem dX5_save_11 : decode cX5_save 11 = .ok (.ireturn, 1) := by decide +kernel
theorem dX5_save_12 : decode cX5_save 12 = .ok (.iconst 0, 1) := by decide +kernel
theorem dX5_save_13 : decode cX5_save 13 = .ok (.istore_n 2, 1) := by decide +kernel
theorem dX5_save_14 : decode cX5_save 14 = .ok (.iload_n 2, 1) := by decide +kernel
theorem dX5_save_15 : decode cX5_save 15 = .ok (.bipush 65, 2) := by decide +kernel
theorem dX5_save_17 : decode cX5_save 17 = .ok (.if_icmp .ge 26, 3) := by decide +kernel
theorem dX5_save_20 : decode cX5_save 20 = .ok (.aload_n 0, 1) := by decide +kernel
theorem dX5_save_21 : decode cX5_save 21 = .ok (.getfield 16, 3) := by decide +kernel
theorem dX5_save_24 : decode cX5_save 24 = .ok (.bipush 65, 2) := by decide +kernel
theorem dX5_save_26 : decode cX5_save 26 = .ok (.iload_n 1, 1) := by decide +kernel
theorem dX5_save_27 : decode cX5_save 27 = .ok (.imul, 1) := by decide +kernel
theorem dX5_save_28 : decode cX5_save 28 = .ok (.iload_n 2, 1) := by decide +kernel
theorem dX5_save_29 : decode cX5_save 29 = .ok (.iadd, 1) := by decide +kernel
theorem dX5_save_30 : decode cX5_save 30 = .ok (.aload_n 0, 1) := by decide +kernel
theorem dX5_save_31 : decode cX5_save 31 = .ok (.getfield 7, 3) := by decide +kernel
theorem dX5_save_34 : decode cX5_save 34 = .ok (.iload_n 2, 1) := by decide +kernel
theorem dX5_save_35 : decode cX5_save 35 = .ok (.iaload, 1) := by decide +kernel
theorem dX5_save_36 : decode cX5_save 36 = .ok (.iastore, 1) := by decide +kernel
theorem dX5_save_37 : decode cX5_save 37 = .ok (.iinc 2 1, 3) := by decide +kernel
theorem dX5_save_40 : decode cX5_save 40 = .ok (.goto (-26), 3) := by decide +kernel
theorem dX5_save_43 : decode cX5_save 43 = .ok (.aload_n 0, 1) := by decide +kernel
theorem dX5_save_44 : decode cX5_save 44 = .ok (.getfield 19, 3) := by decide +kernel
theorem dX5_save_47 : decode cX5_save 47 = .ok (.iload_n 1, 1) := by decide +kernel
theorem dX5_save_48 : decode cX5_save 48 = .ok (.iconst 1, 1) := by decide +kernel
theorem dX5_save_49 : decode cX5_save 49 = .ok (.bastore, 1) := by decide +kernel
theorem dX5_save_50 : decode cX5_save 50 = .ok (.aload_n 0, 1) := by decide +kernel
theorem dX5_save_51 : decode cX5_save 51 = .ok (.getfield 7, 3) := by decide +kernel
theorem dX5_save_54 : decode cX5_save 54 = .ok (.bipush 6, 2) := by decide +kernel
theorem dX5_save_56 : decode cX5_save 56 = .ok (.iaload, 1) := by decide +kernel
theorem dX5_save_57 : decode cX5_save 57 = .ok (.ireturn, 1) := by decide +kernel
theorem dX5_restore_0 : decode cX5_restore 0 = .ok (.iload_n 1, 1) := by decide +kernel
theorem dX5_restore_1 : decode cX5_restore 1 = .ok (.iconst 0, 1) := by decide +kernel
theorem dX5_restore_2 : decode cX5_restore 2 = .ok (.iconst 1, 1) := by decide +kernel
theorem dX5_restore_3 : decode cX5_restore 3 = .ok (.invokestatic 26, 3) := by decide +kernel
theorem dX5_restore_6 : decode cX5_restore 6 = .ok (.ifCond .ne 6, 3) := by decide +kernel
theorem dX5_restore_9 : decode cX5_restore 9 = .ok (.bipush (-2), 2) := by decide +kernel
theorem dX5_restore_11 : decode cX5_restore 11 = .ok (.ireturn, 1) := by decide +kernel
theorem dX5_restore_12 : decode cX5_restore 12 = .ok (.aload_n 0, 1) := by decide +kernel
theorem dX5_restore_13 : decode cX5_restore 13 = .ok (.getfield 19, 3) := by decide +kernel
theorem dX5_restore_16 : decode cX5_restore 16 = .ok (.iload_n 1, 1) := by decide +kernel
theorem dX5_restore_17 : decode cX5_restore 17 = .ok (.baload, 1) := by decide +kernel
theorem dX5_restore_18 : decode cX5_restore 18 = .ok (.ifCond .ne 6, 3) := by decide +kernel
theorem dX5_restore_21 : decode cX5_restore 21 = .ok (.bipush (-5), 2) := by decide +kernel
theorem dX5_restore_23 : decode cX5_restore 23 = .ok (.ireturn, 1) := by decide +kernel
theorem dX5_restore_24 : decode cX5_restore 24 = .ok (.aload_n 0, 1) := by decide +kernel
theorem dX5_restore_25 : decode cX5_restore 25 = .ok (.invokevirtual 87, 3) := by decide +kernel
theorem dX5_restore_28 : decode cX5_restore 28 = .ok (.iconst 0, 1) := by decide +kernel
theorem dX5_restore_29 : decode cX5_restore 29 = .ok (.istore_n 2, 1) := by decide +kernel
theorem dX5_restore_30 : decode cX5_restore 30 = .ok (.iload_n 2, 1) := by decide +kernel
theorem dX5_restore_31 : decode cX5_restore 31 = .ok (.bipush 65, 2) := by decide +kernel
theorem dX5_restore_33 : decode cX5_restore 33 = .ok (.if_icmp .ge 26, 3) := by decide +kernel
theorem dX5_restore_36 : decode cX5_restore 36 = .ok (.aload_n 0, 1) := by decide +kernel
theorem dX5_restore_37 : decode cX5_restore 37 = .ok (.getfield 7, 3) := by decide +kernel
theorem dX5_restore_40 : decode cX5_restore 40 = .ok (.iload_n 2, 1) := by decide +kernel
theorem dX5_restore_41 : decode cX5_restore 41 = .ok (.aload_n 0, 1) := by decide +kernel
theorem dX5_restore_42 : decode cX5_restore 42 = .ok (.getfield 16, 3) := by decide +kernel
theorem dX5_restore_45 : decode cX5_restore 45 = .ok (.bipush 65, 2) := by decide +kernel
theorem dX5_restore_47 : decode cX5_restore 47 = .ok (.iload_n 1, 1) := by decide +kernel
theorem dX5_restore_48 : decode cX5_restore 48 = .ok (.imul, 1) := by decide +kernel
theorem dX5_restore_49 : decode cX5_restore 49 = .ok (.iload_n 2, 1) := by decide +kernel
theorem dX5_restore_50 : decode cX5_restore 50 = .ok (.iadd, 1) := by decide +kernel
theorem dX5_restore_51 : decode cX5_restore 51 = .ok (.iaload, 1) := by decide +kernel
theorem dX5_restore_52 : decode cX5_restore 52 = .ok (.iastore, 1) := by decide +kernel
theorem dX5_restore_53 : decode cX5_restore 53 = .ok (.iinc 2 1, 3) := by decide +kernel
theorem dX5_restore_56 : decode cX5_restore 56 = .ok (.goto (-26), 3) := by decide +kernel
theorem dX5_restore_59 : decode cX5_restore 59 = .ok (.aload_n 0, 1) := by decide +kernel
theorem dX5_restore_60 : decode cX5_restore 60 = .ok (.getfield 7, 3) := by decide +kernel
theorem dX5_restore_63 : decode cX5_restore 63 = .ok (.bipush 6, 2) := by decide +kernel
theorem dX5_restore_65 : decode cX5_restore 65 = .ok (.iaload, 1) := by decide +kernel
theorem dX5_restore_66 : decode cX5_restore 66 = .ok (.ireturn, 1) := by decide +kernel
end
section
theorem dL_law_0 : decode cL_law 0 = .ok (.new 7, 3) := by decide +kernel
theorem dL_law_3 : decode cL_law 3 = .ok (.dup, 1) := by decide +kernel
theorem dL_law_4 : decode cL_law 4 = .ok (.invokespecial 9, 3) := by decide +kernel
theorem dL_law_7 : decode cL_law 7 = .ok (.astore_n 1, 1) := by decide +kernel
theorem dL_law_8 : decode cL_law 8 = .ok (.new 10, 3) := by decide +kernel
theorem dL_law_11 : decode cL_law 11 = .ok (.dup, 1) := by decide +kernel
theorem dL_law_12 : decode cL_law 12 = .ok (.invokespecial 12, 3) := by decide +kernel
theorem dL_law_15 : decode cL_law 15 = .ok (.astore_n 2, 1) := by decide +kernel
theorem dL_law_16 : decode cL_law 16 = .ok (.iconst 0, 1) := by decide +kernel
theorem dL_law_17 : decode cL_law 17 = .ok (.istore_n 3, 1) := by decide +kernel
theorem dL_law_18 : decode cL_law 18 = .ok (.iload_n 3, 1) := by decide +kernel
theorem dL_law_19 : decode cL_law 19 = .ok (.aload_n 0, 1) := by decide +kernel
theorem dL_law_20 : decode cL_law 20 = .ok (.arraylength, 1) := by decide +kernel
theorem dL_law_21 : decode cL_law 21 = .ok (.iconst 3, 1) := by decide +kernel
theorem dL_law_22 : decode cL_law 22 = .ok (.isub, 1) := by decide +kernel
theorem dL_law_23 : decode cL_law 23 = .ok (.if_icmp .gt 601, 3) := by decide +kernel
theorem dL_law_26 : decode cL_law 26 = .ok (.aload_n 0, 1) := by decide +kernel
theorem dL_law_27 : decode cL_law 27 = .ok (.iload_n 3, 1) := by decide +kernel
theorem dL_law_28 : decode cL_law 28 = .ok (.iaload, 1) := by decide +kernel
theorem dL_law_29 : decode cL_law 29 = .ok (.bipush 31, 2) := by decide +kernel
theorem dL_law_31 : decode cL_law 31 = .ok (.iand, 1) := by decide +kernel
theorem dL_law_32 : decode cL_law 32 = .ok (.tableswitch 586 0 19 #[96, 129, 162, 175, 208, 221, 244, 267, 290, 323, 346, 369, 382, 415, 448, 501, 514, 527, 540, 563], 96) := by decide +kernel
theorem dL_law_128 : decode cL_law 128 = .ok (.aload_n 1, 1) := by decide +kernel
theorem dL_law_129 : decode cL_law 129 = .ok (.aload_n 0, 1) := by decide +kernel
theorem dL_law_130 : decode cL_law 130 = .ok (.iload_n 3, 1) := by decide +kernel
theorem dL_law_131 : decode cL_law 131 = .ok (.iconst 1, 1) := by decide +kernel
theorem dL_law_132 : decode cL_law 132 = .ok (.iadd, 1) := by decide +kernel
theorem dL_law_133 : decode cL_law 133 = .ok (.iaload, 1) := by decide +kernel
theorem dL_law_134 : decode cL_law 134 = .ok (.aload_n 0, 1) := by decide +kernel
theorem dL_law_135 : decode cL_law 135 = .ok (.iload_n 3, 1) := by decide +kernel
theorem dL_law_136 : decode cL_law 136 = .ok (.iconst 2, 1) := by decide +kernel
theorem dL_law_137 : decode cL_law 137 = .ok (.iadd, 1) := by decide +kernel
theorem dL_law_138 : decode cL_law 138 = .ok (.iaload, 1) := by decide +kernel
theorem dL_law_139 : decode cL_law 139 = .ok (.invokevirtual 13, 3) := by decide +kernel
theorem dL_law_142 : decode cL_law 142 = .ok (.aload_n 2, 1) := by decide +kernel
theorem dL_law_143 : decode cL_law 143 = .ok (.aload_n 0, 1) := by decide +kernel
theorem dL_law_144 : decode cL_law 144 = .ok (.iload_n 3, 1) := by decide +kernel
theorem dL_law_145 : decode cL_law 145 = .ok (.iconst 1, 1) := by decide +kernel
theorem dL_law_146 : decode cL_law 146 = .ok (.iadd, 1) := by decide +kernel
theorem dL_law_147 : decode cL_law 147 = .ok (.iaload, 1) := by decide +kernel
theorem dL_law_148 : decode cL_law 148 = .ok (.aload_n 0, 1) := by decide +kernel
theorem dL_law_149 : decode cL_law 149 = .ok (.iload_n 3, 1) := by decide +kernel
theorem dL_law_150 : decode cL_law 150 = .ok (.iconst 2, 1) := by decide +kernel
theorem dL_law_151 : decode cL_law 151 = .ok (.iadd, 1) := by decide +kernel
theorem dL_law_152 : decode cL_law 152 = .ok (.iaload, 1) := by decide +kernel
theorem dL_law_153 : decode cL_law 153 = .ok (.invokevirtual 17, 3) := by decide +kernel
theorem dL_law_156 : decode cL_law 156 = .ok (.if_icmp .eq 462, 3) := by decide +kernel
theorem dL_law_159 : decode cL_law 159 = .ok (.iconst 0, 1) := by decide +kernel
theorem dL_law_160 : decode cL_law 160 = .ok (.ireturn, 1) := by decide +kernel
theorem dL_law_161 : decode cL_law 161 = .ok (.aload_n 1, 1) := by decide +kernel
theorem dL_law_162 : decode cL_law 162 = .ok (.aload_n 0, 1) := by decide +kernel
theorem dL_law_163 : decode cL_law 163 = .ok (.iload_n 3, 1) := by decide +kernel
theorem dL_law_164 : decode cL_law 164 = .ok (.iconst 1, 1) := by decide +kernel
theorem dL_law_165 : decode cL_law 165 = .ok (.iadd, 1) := by decide +kernel
theorem dL_law_166 : decode cL_law 166 = .ok (.iaload, 1) := by decide +kernel
theorem dL_law_167 : decode cL_law 167 = .ok (.aload_n 0, 1) := by decide +kernel
theorem dL_law_168 : decode cL_law 168 = .ok (.iload_n 3, 1) := by decide +kernel
theorem dL_law_169 : decode cL_law 169 = .ok (.iconst 2, 1) := by decide +kernel
theorem dL_law_170 : decode cL_law 170 = .ok (.iadd, 1) := by decide +kernel
theorem dL_law_171 : decode cL_law 171 = .ok (.iaload, 1) := by decide +kernel
theorem dL_law_172 : decode cL_law 172 = .ok (.invokevirtual 18, 3) := by decide +kernel
theorem dL_law_175 : decode cL_law 175 = .ok (.aload_n 2, 1) := by decide +kernel
theorem dL_law_176 : decode cL_law 176 = .ok (.aload_n 0, 1) := by decide +kernel
theorem dL_law_177 : decode cL_law 177 = .ok (.iload_n 3, 1) := by decide +kernel
theorem dL_law_178 : decode cL_law 178 = .ok (.iconst 1, 1) := by decide +kernel
theorem dL_law_179 : decode cL_law 179 = .ok (.iadd, 1) := by decide +kernel
theorem dL_law_180 : decode cL_law 180 = .ok (.iaload, 1) := by decide +kernel
theorem dL_law_181 : decode cL_law 181 = .ok (.aload_n 0, 1) := by decide +kernel
theorem dL_law_182 : decode cL_law 182 = .ok (.iload_n 3, 1) := by decide +kernel
theorem dL_law_183 : decode cL_law 183 = .ok (.iconst 2, 1) := by decide +kernel
theorem dL_law_184 : decode cL_law 184 = .ok (.iadd, 1) := by decide +kernel
theorem dL_law_185 : decode cL_law 185 = .ok (.iaload, 1) := by decide +kernel
theorem dL_law_186 : decode cL_law 186 = .ok (.invokevirtual 21, 3) := by decide +kernel
theorem dL_law_189 : decode cL_law 189 = .ok (.if_icmp .eq 429, 3) := by decide +kernel
theorem dL_law_192 : decode cL_law 192 = .ok (.iconst 0, 1) := by decide +kernel
theorem dL_law_193 : decode cL_law 193 = .ok (.ireturn, 1) := by decide +kernel
theorem dL_law_194 : decode cL_law 194 = .ok (.aload_n 1, 1) := by decide +kernel
theorem dL_law_195 : decode cL_law 195 = .ok (.invokevirtual 22, 3) := by decide +kernel
theorem dL_law_198 : decode cL_law 198 = .ok (.aload_n 2, 1) := by decide +kernel
theorem dL_law_199 : decode cL_law 199 = .ok (.invokevirtual 26, 3) := by decide +kernel
theorem dL_law_202 : decode cL_law 202 = .ok (.if_icmp .eq 416, 3) := by decide +kernel
theorem dL_law_205 : decode cL_law 205 = .ok (.iconst 0, 1) := by decide +kernel
theorem dL_law_206 : decode cL_law 206 = .ok (.ireturn, 1) := by decide +kernel
theorem dL_law_207 : decode cL_law 207 = .ok (.aload_n 1, 1) := by decide +kernel
theorem dL_law_208 : decode cL_law 208 = .ok (.aload_n 0, 1) := by decide +kernel
theorem dL_law_209 : decode cL_law 209 = .ok (.iload_n 3, 1) := by decide +kernel
theorem dL_law_210 : decode cL_law 210 = .ok (.iconst 1, 1) := by decide +kernel
theorem dL_law_211 : decode cL_law 211 = .ok (.iadd, 1) := by decide +kernel
theorem dL_law_212 : decode cL_law 212 = .ok (.iaload, 1) := by decide +kernel
theorem dL_law_213 : decode cL_law 213 = .ok (.aload_n 0, 1) := by decide +kernel
theorem dL_law_214 : decode cL_law 214 = .ok (.iload_n 3, 1) := by decide +kernel
theorem dL_law_215 : decode cL_law 215 = .ok (.iconst 2, 1) := by decide +kernel
theorem dL_law_216 : decode cL_law 216 = .ok (.iadd, 1) := by decide +kernel
theorem dL_law_217 : decode cL_law 217 = .ok (.iaload, 1) := by decide +kernel
theorem dL_law_218 : decode cL_law 218 = .ok (.invokevirtual 27, 3) := by decide +kernel
theorem dL_law_221 : decode cL_law 221 = .ok (.aload_n 2, 1) := by decide +kernel
theorem dL_law_222 : decode cL_law 222 = .ok (.aload_n 0, 1) := by decide +kernel
theorem dL_law_223 : decode cL_law 223 = .ok (.iload_n 3, 1) := by decide +kernel
theorem dL_law_224 : decode cL_law 224 = .ok (.iconst 1, 1) := by decide +kernel
theorem dL_law_225 : decode cL_law 225 = .ok (.iadd, 1) := by decide +kernel
theorem dL_law_226 : decode cL_law 226 = .ok (.iaload, 1) := by decide +kernel
theorem dL_law_227 : decode cL_law 227 = .ok (.aload_n 0, 1) := by decide +kernel
theorem dL_law_228 : decode cL_law 228 = .ok (.iload_n 3, 1) := by decide +kernel
theorem dL_law_229 : decode cL_law 229 = .ok (.iconst 2, 1) := by decide +kernel
theorem dL_law_230 : decode cL_law 230 = .ok (.iadd, 1) := by decide +kernel
theorem dL_law_231 : decode cL_law 231 = .ok (.iaload, 1) := by decide +kernel
theorem dL_law_232 : decode cL_law 232 = .ok (.invokevirtual 30, 3) := by decide +kernel
theorem dL_law_235 : decode cL_law 235 = .ok (.if_icmp .eq 383, 3) := by decide +kernel
theorem dL_law_238 : decode cL_law 238 = .ok (.iconst 0, 1) := by decide +kernel
theorem dL_law_239 : decode cL_law 239 = .ok (.ireturn, 1) := by decide +kernel
theorem dL_law_240 : decode cL_law 240 = .ok (.aload_n 1, 1) := by decide +kernel
theorem dL_law_241 : decode cL_law 241 = .ok (.invokevirtual 31, 3) := by decide +kernel
theorem dL_law_244 : decode cL_law 244 = .ok (.aload_n 2, 1) := by decide +kernel
theorem dL_law_245 : decode cL_law 245 = .ok (.invokevirtual 34, 3) := by decide +kernel
theorem dL_law_248 : decode cL_law 248 = .ok (.if_icmp .eq 370, 3) := by decide +kernel
theorem dL_law_251 : decode cL_law 251 = .ok (.iconst 0, 1) := by decide +kernel
theorem dL_law_252 : decode cL_law 252 = .ok (.ireturn, 1) := by decide +kernel
theorem dL_law_253 : decode cL_law 253 = .ok (.aload_n 1, 1) := by decide +kernel
theorem dL_law_254 : decode cL_law 254 = .ok (.aload_n 0, 1) := by decide +kernel
theorem dL_law_255 : decode cL_law 255 = .ok (.iload_n 3, 1) := by decide +kernel
theorem dL_law_256 : decode cL_law 256 = .ok (.iconst 1, 1) := by decide +kernel
theorem dL_law_257 : decode cL_law 257 = .ok (.iadd, 1) := by decide +kernel
theorem dL_law_258 : decode cL_law 258 = .ok (.iaload, 1) := by decide +kernel
theorem dL_law_259 : decode cL_law 259 = .ok (.invokevirtual 35, 3) := by decide +kernel
theorem dL_law_262 : decode cL_law 262 = .ok (.aload_n 2, 1) := by decide +kernel
theorem dL_law_263 : decode cL_law 263 = .ok (.aload_n 0, 1) := by decide +kernel
theorem dL_law_264 : decode cL_law 264 = .ok (.iload_n 3, 1) := by decide +kernel
theorem dL_law_265 : decode cL_law 265 = .ok (.iconst 1, 1) := by decide +kernel
theorem dL_law_266 : decode cL_law 266 = .ok (.iadd, 1) := by decide +kernel
theorem dL_law_267 : decode cL_law 267 = .ok (.iaload, 1) := by decide +kernel
theorem dL_law_268 : decode cL_law 268 = .ok (.invokevirtual 39, 3) := by decide +kernel
theorem dL_law_271 : decode cL_law 271 = .ok (.if_icmp .eq 347, 3) := by decide +kernel
theorem dL_law_274 : decode cL_law 274 = .ok (.iconst 0, 1) := by decide +kernel
theorem dL_law_275 : decode cL_law 275 = .ok (.ireturn, 1) := by decide +kernel
theorem dL_law_276 : decode cL_law 276 = .ok (.aload_n 1, 1) := by decide +kernel
theorem dL_law_277 : decode cL_law 277 = .ok (.aload_n 0, 1) := by decide +kernel
theorem dL_law_278 : decode cL_law 278 = .ok (.iload_n 3, 1) := by decide +kernel
theorem dL_law_279 : decode cL_law 279 = .ok (.iconst 1, 1) := by decide +kernel
theorem dL_law_280 : decode cL_law 280 = .ok (.iadd, 1) := by decide +kernel
theorem dL_law_281 : decode cL_law 281 = .ok (.iaload, 1) := by decide +kernel
theorem dL_law_282 : decode cL_law 282 = .ok (.invokevirtual 40, 3) := by decide +kernel
theorem dL_law_285 : decode cL_law 285 = .ok (.aload_n 2, 1) := by decide +kernel
theorem dL_law_286 : decode cL_law 286 = .ok (.aload_n 0, 1) := by decide +kernel
theorem dL_law_287 : decode cL_law 287 = .ok (.iload_n 3, 1) := by decide +kernel
theorem dL_law_288 : decode cL_law 288 = .ok (.iconst 1, 1) := by decide +kernel
theorem dL_law_289 : decode cL_law 289 = .ok (.iadd, 1) := by decide +kernel
theorem dL_law_290 : decode cL_law 290 = .ok (.iaload, 1) := by decide +kernel
theorem dL_law_291 : decode cL_law 291 = .ok (.invokevirtual 43, 3) := by decide +kernel
theorem dL_law_294 : decode cL_law 294 = .ok (.if_icmp .eq 324, 3) := by decide +kernel
theorem dL_law_297 : decode cL_law 297 = .ok (.iconst 0, 1) := by decide +kernel
theorem dL_law_298 : decode cL_law 298 = .ok (.ireturn, 1) := by decide +kernel
theorem dL_law_299 : decode cL_law 299 = .ok (.aload_n 1, 1) := by decide +kernel
theorem dL_law_300 : decode cL_law 300 = .ok (.aload_n 0, 1) := by decide +kernel
theorem dL_law_301 : decode cL_law 301 = .ok (.iload_n 3, 1) := by decide +kernel
theorem dL_law_302 : decode cL_law 302 = .ok (.iconst 1, 1) := by decide +kernel
theorem dL_law_303 : decode cL_law 303 = .ok (.iadd, 1) := by decide +kernel
theorem dL_law_304 : decode cL_law 304 = .ok (.iaload, 1) := by decide +kernel
theorem dL_law_305 : decode cL_law 305 = .ok (.invokevirtual 44, 3) := by decide +kernel
theorem dL_law_308 : decode cL_law 308 = .ok (.aload_n 2, 1) := by decide +kernel
theorem dL_law_309 : decode cL_law 309 = .ok (.aload_n 0, 1) := by decide +kernel
theorem dL_law_310 : decode cL_law 310 = .ok (.iload_n 3, 1) := by decide +kernel
theorem dL_law_311 : decode cL_law 311 = .ok (.iconst 1, 1) := by decide +kernel
theorem dL_law_312 : decode cL_law 312 = .ok (.iadd, 1) := by decide +kernel
theorem dL_law_313 : decode cL_law 313 = .ok (.iaload, 1) := by decide +kernel
theorem dL_law_314 : decode cL_law 314 = .ok (.invokevirtual 47, 3) := by decide +kernel
theorem dL_law_317 : decode cL_law 317 = .ok (.if_icmp .eq 301, 3) := by decide +kernel
theorem dL_law_320 : decode cL_law 320 = .ok (.iconst 0, 1) := by decide +kernel
theorem dL_law_321 : decode cL_law 321 = .ok (.ireturn, 1) := by decide +kernel
theorem dL_law_322 : decode cL_law 322 = .ok (.aload_n 1, 1) := by decide +kernel
theorem dL_law_323 : decode cL_law 323 = .ok (.aload_n 0, 1) := by decide +kernel
theorem dL_law_324 : decode cL_law 324 = .ok (.iload_n 3, 1) := by decide +kernel
theorem dL_law_325 : decode cL_law 325 = .ok (.iconst 1, 1) := by decide +kernel
theorem dL_law_326 : decode cL_law 326 = .ok (.iadd, 1) := by decide +kernel
theorem dL_law_327 : decode cL_law 327 = .ok (.iaload, 1) := by decide +kernel
theorem dL_law_328 : decode cL_law 328 = .ok (.aload_n 0, 1) := by decide +kernel
theorem dL_law_329 : decode cL_law 329 = .ok (.iload_n 3, 1) := by decide +kernel
theorem dL_law_330 : decode cL_law 330 = .ok (.iconst 2, 1) := by decide +kernel
theorem dL_law_331 : decode cL_law 331 = .ok (.iadd, 1) := by decide +kernel
theorem dL_law_332 : decode cL_law 332 = .ok (.iaload, 1) := by decide +kernel
theorem dL_law_333 : decode cL_law 333 = .ok (.invokevirtual 48, 3) := by decide +kernel
theorem dL_law_336 : decode cL_law 336 = .ok (.aload_n 2, 1) := by decide +kernel
theorem dL_law_337 : decode cL_law 337 = .ok (.aload_n 0, 1) := by decide +kernel
theorem dL_law_338 : decode cL_law 338 = .ok (.iload_n 3, 1) := by decide +kernel
theorem dL_law_339 : decode cL_law 339 = .ok (.iconst 1, 1) := by decide +kernel
theorem dL_law_340 : decode cL_law 340 = .ok (.iadd, 1) := by decide +kernel
theorem dL_law_341 : decode cL_law 341 = .ok (.iaload, 1) := by decide +kernel
theorem dL_law_342 : decode cL_law 342 = .ok (.aload_n 0, 1) := by decide +kernel
theorem dL_law_343 : decode cL_law 343 = .ok (.iload_n 3, 1) := by decide +kernel
theorem dL_law_344 : decode cL_law 344 = .ok (.iconst 2, 1) := by decide +kernel
theorem dL_law_345 : decode cL_law 345 = .ok (.iadd, 1) := by decide +kernel
theorem dL_law_346 : decode cL_law 346 = .ok (.iaload, 1) := by decide +kernel
theorem dL_law_347 : decode cL_law 347 = .ok (.invokevirtual 51, 3) := by decide +kernel
theorem dL_law_350 : decode cL_law 350 = .ok (.if_icmp .eq 268, 3) := by decide +kernel
theorem dL_law_353 : decode cL_law 353 = .ok (.iconst 0, 1) := by decide +kernel
theorem dL_law_354 : decode cL_law 354 = .ok (.ireturn, 1) := by decide +kernel
theorem dL_law_355 : decode cL_law 355 = .ok (.aload_n 1, 1) := by decide +kernel
theorem dL_law_356 : decode cL_law 356 = .ok (.aload_n 0, 1) := by decide +kernel
theorem dL_law_357 : decode cL_law 357 = .ok (.iload_n 3, 1) := by decide +kernel
theorem dL_law_358 : decode cL_law 358 = .ok (.iconst 1, 1) := by decide +kernel
theorem dL_law_359 : decode cL_law 359 = .ok (.iadd, 1) := by decide +kernel
theorem dL_law_360 : decode cL_law 360 = .ok (.iaload, 1) := by decide +kernel
theorem dL_law_361 : decode cL_law 361 = .ok (.invokevirtual 52, 3) := by decide +kernel
theorem dL_law_364 : decode cL_law 364 = .ok (.aload_n 2, 1) := by decide +kernel
theorem dL_law_365 : decode cL_law 365 = .ok (.aload_n 0, 1) := by decide +kernel
theorem dL_law_366 : decode cL_law 366 = .ok (.iload_n 3, 1) := by decide +kernel
theorem dL_law_367 : decode cL_law 367 = .ok (.iconst 1, 1) := by decide +kernel
theorem dL_law_368 : decode cL_law 368 = .ok (.iadd, 1) := by decide +kernel
theorem dL_law_369 : decode cL_law 369 = .ok (.iaload, 1) := by decide +kernel
theorem dL_law_370 : decode cL_law 370 = .ok (.invokevirtual 55, 3) := by decide +kernel
theorem dL_law_373 : decode cL_law 373 = .ok (.if_icmp .eq 245, 3) := by decide +kernel
theorem dL_law_376 : decode cL_law 376 = .ok (.iconst 0, 1) := by decide +kernel
theorem dL_law_377 : decode cL_law 377 = .ok (.ireturn, 1) := by decide +kernel
theorem dL_law_378 : decode cL_law 378 = .ok (.aload_n 1, 1) := by decide +kernel
theorem dL_law_379 : decode cL_law 379 = .ok (.aload_n 0, 1) := by decide +kernel
theorem dL_law_380 : decode cL_law 380 = .ok (.iload_n 3, 1) := by decide +kernel
theorem dL_law_381 : decode cL_law 381 = .ok (.iconst 1, 1) := by decide +kernel
theorem dL_law_382 : decode cL_law 382 = .ok (.iadd, 1) := by decide +kernel
theorem dL_law_383 : decode cL_law 383 = .ok (.iaload, 1) := by decide +kernel
theorem dL_law_384 : decode cL_law 384 = .ok (.invokevirtual 56, 3) := by decide +kernel
theorem dL_law_387 : decode cL_law 387 = .ok (.aload_n 2, 1) := by decide +kernel
theorem dL_law_388 : decode cL_law 388 = .ok (.aload_n 0, 1) := by decide +kernel
theorem dL_law_389 : decode cL_law 389 = .ok (.iload_n 3, 1) := by decide +kernel
theorem dL_law_390 : decode cL_law 390 = .ok (.iconst 1, 1) := by decide +kernel
theorem dL_law_391 : decode cL_law 391 = .ok (.iadd, 1) := by decide +kernel
theorem dL_law_392 : decode cL_law 392 = .ok (.iaload, 1) := by decide +kernel
theorem dL_law_393 : decode cL_law 393 = .ok (.invokevirtual 59, 3) := by decide +kernel
theorem dL_law_396 : decode cL_law 396 = .ok (.if_icmp .eq 222, 3) := by decide +kernel
theorem dL_law_399 : decode cL_law 399 = .ok (.iconst 0, 1) := by decide +kernel
theorem dL_law_400 : decode cL_law 400 = .ok (.ireturn, 1) := by decide +kernel
theorem dL_law_401 : decode cL_law 401 = .ok (.aload_n 1, 1) := by decide +kernel
theorem dL_law_402 : decode cL_law 402 = .ok (.invokevirtual 60, 3) := by decide +kernel
theorem dL_law_405 : decode cL_law 405 = .ok (.aload_n 2, 1) := by decide +kernel
theorem dL_law_406 : decode cL_law 406 = .ok (.invokevirtual 63, 3) := by decide +kernel
theorem dL_law_409 : decode cL_law 409 = .ok (.if_icmp .eq 209, 3) := by decide +kernel
theorem dL_law_412 : decode cL_law 412 = .ok (.iconst 0, 1) := by decide +kernel
theorem dL_law_413 : decode cL_law 413 = .ok (.ireturn, 1) := by decide +kernel
theorem dL_law_414 : decode cL_law 414 = .ok (.aload_n 1, 1) := by decide +kernel
theorem dL_law_415 : decode cL_law 415 = .ok (.aload_n 0, 1) := by decide +kernel
theorem dL_law_416 : decode cL_law 416 = .ok (.iload_n 3, 1) := by decide +kernel
theorem dL_law_417 : decode cL_law 417 = .ok (.iconst 1, 1) := by decide +kernel
theorem dL_law_418 : decode cL_law 418 = .ok (.iadd, 1) := by decide +kernel
theorem dL_law_419 : decode cL_law 419 = .ok (.iaload, 1) := by decide +kernel
theorem dL_law_420 : decode cL_law 420 = .ok (.aload_n 0, 1) := by decide +kernel
theorem dL_law_421 : decode cL_law 421 = .ok (.iload_n 3, 1) := by decide +kernel
theorem dL_law_422 : decode cL_law 422 = .ok (.iconst 2, 1) := by decide +kernel
theorem dL_law_423 : decode cL_law 423 = .ok (.iadd, 1) := by decide +kernel
theorem dL_law_424 : decode cL_law 424 = .ok (.iaload, 1) := by decide +kernel
theorem dL_law_425 : decode cL_law 425 = .ok (.invokevirtual 64, 3) := by decide +kernel
theorem dL_law_428 : decode cL_law 428 = .ok (.aload_n 2, 1) := by decide +kernel
theorem dL_law_429 : decode cL_law 429 = .ok (.aload_n 0, 1) := by decide +kernel
theorem dL_law_430 : decode cL_law 430 = .ok (.iload_n 3, 1) := by decide +kernel
theorem dL_law_431 : decode cL_law 431 = .ok (.iconst 1, 1) := by decide +kernel
theorem dL_law_432 : decode cL_law 432 = .ok (.iadd, 1) := by decide +kernel
theorem dL_law_433 : decode cL_law 433 = .ok (.iaload, 1) := by decide +kernel
theorem dL_law_434 : decode cL_law 434 = .ok (.aload_n 0, 1) := by decide +kernel
theorem dL_law_435 : decode cL_law 435 = .ok (.iload_n 3, 1) := by decide +kernel
theorem dL_law_436 : decode cL_law 436 = .ok (.iconst 2, 1) := by decide +kernel
theorem dL_law_437 : decode cL_law 437 = .ok (.iadd, 1) := by decide +kernel
theorem dL_law_438 : decode cL_law 438 = .ok (.iaload, 1) := by decide +kernel
theorem dL_law_439 : decode cL_law 439 = .ok (.invokevirtual 67, 3) := by decide +kernel
theorem dL_law_442 : decode cL_law 442 = .ok (.if_icmp .eq 176, 3) := by decide +kernel
theorem dL_law_445 : decode cL_law 445 = .ok (.iconst 0, 1) := by decide +kernel
theorem dL_law_446 : decode cL_law 446 = .ok (.ireturn, 1) := by decide +kernel
theorem dL_law_447 : decode cL_law 447 = .ok (.aload_n 1, 1) := by decide +kernel
theorem dL_law_448 : decode cL_law 448 = .ok (.aload_n 0, 1) := by decide +kernel
theorem dL_law_449 : decode cL_law 449 = .ok (.iload_n 3, 1) := by decide +kernel
theorem dL_law_450 : decode cL_law 450 = .ok (.iconst 1, 1) := by decide +kernel
theorem dL_law_451 : decode cL_law 451 = .ok (.iadd, 1) := by decide +kernel
theorem dL_law_452 : decode cL_law 452 = .ok (.iaload, 1) := by decide +kernel
theorem dL_law_453 : decode cL_law 453 = .ok (.aload_n 0, 1) := by decide +kernel
theorem dL_law_454 : decode cL_law 454 = .ok (.iload_n 3, 1) := by decide +kernel
theorem dL_law_455 : decode cL_law 455 = .ok (.iconst 2, 1) := by decide +kernel
theorem dL_law_456 : decode cL_law 456 = .ok (.iadd, 1) := by decide +kernel
theorem dL_law_457 : decode cL_law 457 = .ok (.iaload, 1) := by decide +kernel
theorem dL_law_458 : decode cL_law 458 = .ok (.invokevirtual 68, 3) := by decide +kernel
theorem dL_law_461 : decode cL_law 461 = .ok (.aload_n 2, 1) := by decide +kernel
theorem dL_law_462 : decode cL_law 462 = .ok (.aload_n 0, 1) := by decide +kernel
theorem dL_law_463 : decode cL_law 463 = .ok (.iload_n 3, 1) := by decide +kernel
theorem dL_law_464 : decode cL_law 464 = .ok (.iconst 1, 1) := by decide +kernel
theorem dL_law_465 : decode cL_law 465 = .ok (.iadd, 1) := by decide +kernel
theorem dL_law_466 : decode cL_law 466 = .ok (.iaload, 1) := by decide +kernel
theorem dL_law_467 : decode cL_law 467 = .ok (.aload_n 0, 1) := by decide +kernel
theorem dL_law_468 : decode cL_law 468 = .ok (.iload_n 3, 1) := by decide +kernel
theorem dL_law_469 : decode cL_law 469 = .ok (.iconst 2, 1) := by decide +kernel
theorem dL_law_470 : decode cL_law 470 = .ok (.iadd, 1) := by decide +kernel
theorem dL_law_471 : decode cL_law 471 = .ok (.iaload, 1) := by decide +kernel
theorem dL_law_472 : decode cL_law 472 = .ok (.invokevirtual 71, 3) := by decide +kernel
theorem dL_law_475 : decode cL_law 475 = .ok (.if_icmp .eq 143, 3) := by decide +kernel
theorem dL_law_478 : decode cL_law 478 = .ok (.iconst 0, 1) := by decide +kernel
theorem dL_law_479 : decode cL_law 479 = .ok (.ireturn, 1) := by decide +kernel
theorem dL_law_480 : decode cL_law 480 = .ok (.aload_n 1, 1) := by decide +kernel
theorem dL_law_481 : decode cL_law 481 = .ok (.aload_n 0, 1) := by decide +kernel
theorem dL_law_482 : decode cL_law 482 = .ok (.iload_n 3, 1) := by decide +kernel
theorem dL_law_483 : decode cL_law 483 = .ok (.iconst 1, 1) := by decide +kernel
theorem dL_law_484 : decode cL_law 484 = .ok (.iadd, 1) := by decide +kernel
theorem dL_law_485 : decode cL_law 485 = .ok (.iaload, 1) := by decide +kernel
theorem dL_law_486 : decode cL_law 486 = .ok (.i2l, 1) := by decide +kernel
theorem dL_law_487 : decode cL_law 487 = .ok (.bipush 32, 2) := by decide +kernel
theorem dL_law_489 : decode cL_law 489 = .ok (.lshl, 1) := by decide +kernel
theorem dL_law_490 : decode cL_law 490 = .ok (.aload_n 0, 1) := by decide +kernel
theorem dL_law_491 : decode cL_law 491 = .ok (.iload_n 3, 1) := by decide +kernel
theorem dL_law_492 : decode cL_law 492 = .ok (.iconst 2, 1) := by decide +kernel
theorem dL_law_493 : decode cL_law 493 = .ok (.iadd, 1) := by decide +kernel
theorem dL_law_494 : decode cL_law 494 = .ok (.iaload, 1) := by decide +kernel
theorem dL_law_495 : decode cL_law 495 = .ok (.i2l, 1) := by decide +kernel
theorem dL_law_496 : decode cL_law 496 = .ok (.ldc2_w 72, 3) := by decide +kernel
theorem dL_law_499 : decode cL_law 499 = .ok (.land, 1) := by decide +kernel
theorem dL_law_500 : decode cL_law 500 = .ok (.lor, 1) := by decide +kernel
theorem dL_law_501 : decode cL_law 501 = .ok (.invokevirtual 74, 3) := by decide +kernel
theorem dL_law_504 : decode cL_law 504 = .ok (.aload_n 2, 1) := by decide +kernel
theorem dL_law_505 : decode cL_law 505 = .ok (.aload_n 0, 1) := by decide +kernel
theorem dL_law_506 : decode cL_law 506 = .ok (.iload_n 3, 1) := by decide +kernel
theorem dL_law_507 : decode cL_law 507 = .ok (.iconst 1, 1) := by decide +kernel
theorem dL_law_508 : decode cL_law 508 = .ok (.iadd, 1) := by decide +kernel
theorem dL_law_509 : decode cL_law 509 = .ok (.iaload, 1) := by decide +kernel
theorem dL_law_510 : decode cL_law 510 = .ok (.i2l, 1) := by decide +kernel
theorem dL_law_511 : decode cL_law 511 = .ok (.bipush 32, 2) := by decide +kernel
theorem dL_law_513 : decode cL_law 513 = .ok (.lshl, 1) := by decide +kernel
theorem dL_law_514 : decode cL_law 514 = .ok (.aload_n 0, 1) := by decide +kernel
theorem dL_law_515 : decode cL_law 515 = .ok (.iload_n 3, 1) := by decide +kernel
theorem dL_law_516 : decode cL_law 516 = .ok (.iconst 2, 1) := by decide +kernel
theorem dL_law_517 : decode cL_law 517 = .ok (.iadd, 1) := by decide +kernel
theorem dL_law_518 : decode cL_law 518 = .ok (.iaload, 1) := by decide +kernel
theorem dL_law_519 : decode cL_law 519 = .ok (.i2l, 1) := by decide +kernel
theorem dL_law_520 : decode cL_law 520 = .ok (.ldc2_w 72, 3) := by decide +kernel
theorem dL_law_523 : decode cL_law 523 = .ok (.land, 1) := by decide +kernel
theorem dL_law_524 : decode cL_law 524 = .ok (.lor, 1) := by decide +kernel
theorem dL_law_525 : decode cL_law 525 = .ok (.invokevirtual 78, 3) := by decide +kernel
theorem dL_law_528 : decode cL_law 528 = .ok (.if_icmp .eq 90, 3) := by decide +kernel
theorem dL_law_531 : decode cL_law 531 = .ok (.iconst 0, 1) := by decide +kernel
theorem dL_law_532 : decode cL_law 532 = .ok (.ireturn, 1) := by decide +kernel
theorem dL_law_533 : decode cL_law 533 = .ok (.aload_n 1, 1) := by decide +kernel
theorem dL_law_534 : decode cL_law 534 = .ok (.invokevirtual 79, 3) := by decide +kernel
theorem dL_law_537 : decode cL_law 537 = .ok (.aload_n 2, 1) := by decide +kernel
theorem dL_law_538 : decode cL_law 538 = .ok (.invokevirtual 82, 3) := by decide +kernel
theorem dL_law_541 : decode cL_law 541 = .ok (.if_icmp .eq 77, 3) := by decide +kernel
theorem dL_law_544 : decode cL_law 544 = .ok (.iconst 0, 1) := by decide +kernel
theorem dL_law_545 : decode cL_law 545 = .ok (.ireturn, 1) := by decide +kernel
theorem dL_law_546 : decode cL_law 546 = .ok (.aload_n 1, 1) := by decide +kernel
theorem dL_law_547 : decode cL_law 547 = .ok (.invokevirtual 83, 3) := by decide +kernel
theorem dL_law_550 : decode cL_law 550 = .ok (.aload_n 2, 1) := by decide +kernel
theorem dL_law_551 : decode cL_law 551 = .ok (.invokevirtual 86, 3) := by decide +kernel
theorem dL_law_554 : decode cL_law 554 = .ok (.if_icmp .eq 64, 3) := by decide +kernel
theorem dL_law_557 : decode cL_law 557 = .ok (.iconst 0, 1) := by decide +kernel
theorem dL_law_558 : decode cL_law 558 = .ok (.ireturn, 1) := by decide +kernel
theorem dL_law_559 : decode cL_law 559 = .ok (.aload_n 1, 1) := by decide +kernel
theorem dL_law_560 : decode cL_law 560 = .ok (.invokevirtual 87, 3) := by decide +kernel
theorem dL_law_563 : decode cL_law 563 = .ok (.aload_n 2, 1) := by decide +kernel
theorem dL_law_564 : decode cL_law 564 = .ok (.invokevirtual 90, 3) := by decide +kernel
theorem dL_law_567 : decode cL_law 567 = .ok (.if_icmp .eq 51, 3) := by decide +kernel
theorem dL_law_570 : decode cL_law 570 = .ok (.iconst 0, 1) := by decide +kernel
theorem dL_law_571 : decode cL_law 571 = .ok (.ireturn, 1) := by decide +kernel
theorem dL_law_572 : decode cL_law 572 = .ok (.aload_n 1, 1) := by decide +kernel
theorem dL_law_573 : decode cL_law 573 = .ok (.aload_n 0, 1) := by decide +kernel
theorem dL_law_574 : decode cL_law 574 = .ok (.iload_n 3, 1) := by decide +kernel
theorem dL_law_575 : decode cL_law 575 = .ok (.iconst 1, 1) := by decide +kernel
theorem dL_law_576 : decode cL_law 576 = .ok (.iadd, 1) := by decide +kernel
theorem dL_law_577 : decode cL_law 577 = .ok (.iaload, 1) := by decide +kernel
theorem dL_law_578 : decode cL_law 578 = .ok (.invokevirtual 91, 3) := by decide +kernel
theorem dL_law_581 : decode cL_law 581 = .ok (.aload_n 2, 1) := by decide +kernel
theorem dL_law_582 : decode cL_law 582 = .ok (.aload_n 0, 1) := by decide +kernel
theorem dL_law_583 : decode cL_law 583 = .ok (.iload_n 3, 1) := by decide +kernel
theorem dL_law_584 : decode cL_law 584 = .ok (.iconst 1, 1) := by decide +kernel
theorem dL_law_585 : decode cL_law 585 = .ok (.iadd, 1) := by decide +kernel
theorem dL_law_586 : decode cL_law 586 = .ok (.iaload, 1) := by decide +kernel
theorem dL_law_587 : decode cL_law 587 = .ok (.invokevirtual 94, 3) := by decide +kernel
theorem dL_law_590 : decode cL_law 590 = .ok (.if_icmp .eq 28, 3) := by decide +kernel
theorem dL_law_593 : decode cL_law 593 = .ok (.iconst 0, 1) := by decide +kernel
theorem dL_law_594 : decode cL_law 594 = .ok (.ireturn, 1) := by decide +kernel
theorem dL_law_595 : decode cL_law 595 = .ok (.aload_n 1, 1) := by decide +kernel
theorem dL_law_596 : decode cL_law 596 = .ok (.aload_n 0, 1) := by decide +kernel
theorem dL_law_597 : decode cL_law 597 = .ok (.iload_n 3, 1) := by decide +kernel
theorem dL_law_598 : decode cL_law 598 = .ok (.iconst 1, 1) := by decide +kernel
theorem dL_law_599 : decode cL_law 599 = .ok (.iadd, 1) := by decide +kernel
theorem dL_law_600 : decode cL_law 600 = .ok (.iaload, 1) := by decide +kernel
theorem dL_law_601 : decode cL_law 601 = .ok (.invokevirtual 95, 3) := by decide +kernel
theorem dL_law_604 : decode cL_law 604 = .ok (.aload_n 2, 1) := by decide +kernel
theorem dL_law_605 : decode cL_law 605 = .ok (.aload_n 0, 1) := by decide +kernel
theorem dL_law_606 : decode cL_law 606 = .ok (.iload_n 3, 1) := by decide +kernel
theorem dL_law_607 : decode cL_law 607 = .ok (.iconst 1, 1) := by decide +kernel
theorem dL_law_608 : decode cL_law 608 = .ok (.iadd, 1) := by decide +kernel
theorem dL_law_609 : decode cL_law 609 = .ok (.iaload, 1) := by decide +kernel
theorem dL_law_610 : decode cL_law 610 = .ok (.invokevirtual 98, 3) := by decide +kernel
theorem dL_law_613 : decode cL_law 613 = .ok (.if_icmp .eq 5, 3) := by decide +kernel
theorem dL_law_616 : decode cL_law 616 = .ok (.iconst 0, 1) := by decide +kernel
theorem dL_law_617 : decode cL_law 617 = .ok (.ireturn, 1) := by decide +kernel
theorem dL_law_618 : decode cL_law 618 = .ok (.iinc 3 3, 3) := by decide +kernel
theorem dL_law_621 : decode cL_law 621 = .ok (.goto (-603), 3) := by decide +kernel
theorem dL_law_624 : decode cL_law 624 = .ok (.iconst 1, 1) := by decide +kernel
theorem dL_law_625 : decode cL_law 625 = .ok (.ireturn, 1) := by decide +kernel
theorem dJ6_compare_7cf53_0 : decode cJ6_compare_7cf53 0 = .ok (.iload_n 0, 1) := by decide +kernel
theorem dJ6_compare_7cf53_1 : decode cJ6_compare_7cf53 1 = .ok (.iload_n 1, 1) := by decide +kernel
theorem dJ6_compare_7cf53_2 : decode cJ6_compare_7cf53 2 = .ok (.if_icmp .ge 7, 3) := by decide +kernel
theorem dJ6_compare_7cf53_5 : decode cJ6_compare_7cf53 5 = .ok (.iconst (-1), 1) := by decide +kernel
theorem dJ6_compare_7cf53_6 : decode cJ6_compare_7cf53 6 = .ok (.goto 13, 3) := by decide +kernel
theorem dJ6_compare_7cf53_9 : decode cJ6_compare_7cf53 9 = .ok (.iload_n 0, 1) := by decide +kernel
theorem dJ6_compare_7cf53_10 : decode cJ6_compare_7cf53 10 = .ok (.iload_n 1, 1) := by decide +kernel
theorem dJ6_compare_7cf53_11 : decode cJ6_compare_7cf53 11 = .ok (.if_icmp .ne 7, 3) := by decide +kernel
theorem dJ6_compare_7cf53_14 : decode cJ6_compare_7cf53 14 = .ok (.iconst 0, 1) := by decide +kernel
theorem dJ6_compare_7cf53_15 : decode cJ6_compare_7cf53 15 = .ok (.goto 4, 3) := by decide +kernel
theorem dJ6_compare_7cf53_18 : decode cJ6_compare_7cf53 18 = .ok (.iconst 1, 1) := by decide +kernel
theorem dJ6_compare_7cf53_19 : decode cJ6_compare_7cf53 19 = .ok (.ireturn, 1) := by decide +kernel
theorem dJ9_abs_0f7a4_0 : decode cJ9_abs_0f7a4 0 = .ok (.iload_n 0, 1) := by decide +kernel
theorem dJ9_abs_0f7a4_1 : decode cJ9_abs_0f7a4 1 = .ok (.ifCond .ge 8, 3) := by decide +kernel
theorem dJ9_abs_0f7a4_4 : decode cJ9_abs_0f7a4 4 = .ok (.iload_n 0, 1) := by decide +kernel
theorem dJ9_abs_0f7a4_5 : decode cJ9_abs_0f7a4 5 = .ok (.ineg, 1) := by decide +kernel
theorem dJ9_abs_0f7a4_6 : decode cJ9_abs_0f7a4 6 = .ok (.goto 4, 3) := by decide +kernel
theorem dJ9_abs_0f7a4_9 : decode cJ9_abs_0f7a4 9 = .ok (.iload_n 0, 1) := by decide +kernel
theorem dJ9_abs_0f7a4_10 : decode cJ9_abs_0f7a4 10 = .ok (.ireturn, 1) := by decide +kernel
theorem dJ9_max_7cf53_0 : decode cJ9_max_7cf53 0 = .ok (.iload_n 0, 1) := by decide +kernel
theorem dJ9_max_7cf53_1 : decode cJ9_max_7cf53 1 = .ok (.iload_n 1, 1) := by decide +kernel
theorem dJ9_max_7cf53_2 : decode cJ9_max_7cf53 2 = .ok (.if_icmp .lt 7, 3) := by decide +kernel
theorem dJ9_max_7cf53_5 : decode cJ9_max_7cf53 5 = .ok (.iload_n 0, 1) := by decide +kernel
theorem dJ9_max_7cf53_6 : decode cJ9_max_7cf53 6 = .ok (.goto 4, 3) := by decide +kernel
theorem dJ9_max_7cf53_9 : decode cJ9_max_7cf53 9 = .ok (.iload_n 1, 1) := by decide +kernel
theorem dJ9_max_7cf53_10 : decode cJ9_max_7cf53 10 = .ok (.ireturn, 1) := by decide +kernel
theorem dJ9_min_7cf53_0 : decode cJ9_min_7cf53 0 = .ok (.iload_n 0, 1) := by decide +kernel
theorem dJ9_min_7cf53_1 : decode cJ9_min_7cf53 1 = .ok (.iload_n 1, 1) := by decide +kernel
theorem dJ9_min_7cf53_2 : decode cJ9_min_7cf53 2 = .ok (.if_icmp .gt 7, 3) := by decide +kernel
theorem dJ9_min_7cf53_5 : decode cJ9_min_7cf53 5 = .ok (.iload_n 0, 1) := by decide +kernel
theorem dJ9_min_7cf53_6 : decode cJ9_min_7cf53 6 = .ok (.goto 4, 3) := by decide +kernel
theorem dJ9_min_7cf53_9 : decode cJ9_min_7cf53 9 = .ok (.iload_n 1, 1) := by decide +kernel
theorem dJ9_min_7cf53_10 : decode cJ9_min_7cf53 10 = .ok (.ireturn, 1) := by decide +kernel
end
section
def TW : List Cond := lw_tbl.filter goodWord
theorem tw_in {w : Cond} (h : w ∈ lw_tbl) (g : goodWord w = true) : w ∈ TW := List.mem_filter.mpr ⟨h, g⟩
theorem tw_tbl {w : Cond} (h : w ∈ TW) : w ∈ lw_tbl := (List.mem_filter.mp h).1
theorem tw_good : GoodIn TW TW := fun w h => ⟨h, good_of_word (List.mem_filter.mp h).2⟩
theorem tw_t {w : Cond} (i : Nat) (h : tables_1[i]? = some w) (g : goodWord w = true) : w ∈ TW := tw_in (List.mem_append_right _ (List.mem_of_getElem? h)) g
theorem tw_test : Cond.fieldLink RX2 7 "PurrProbates$Person" "warmth" "I" ∈ TW := tw_t 40 (by decide +kernel) (by decide +kernel)
theorem tw_test2 : Cond.fieldLink RX2 7 "PurrProbates$Person" "warmth" "I" ∈ TW := tw_t 40 rfl rfl
theorem uw2 : ∀ w ∈ u_ws RX2 TX2 6, w ∈ TW := fun w h => tw_in ((by decide +kernel : ∀ w ∈ u_ws RX2 TX2 6, w ∈ lw_tbl) w h) ((by decide +kernel : ∀ w ∈ u_ws RX2 TX2 6, goodWord w = true) w h)
end
section
/-! the judgement 'ex': W over a heap that is told by a function from addresses to cells -/
abbrev HP : Type := Nat → Option va_E
def hu (h : HP) (a : Nat) (e : va_E) : HP := fun q => if q = a then some e else h q
theorem hu_s {h : HP} {a : Nat} {e : va_E} : hu h a e a = some e := by simp [hu]
theorem hu_n {h : HP} {a b : Nat} {e : va_E} (n : b ≠ a) : hu h a e b = h b := by simp [hu, n]
abbrev GG : Type := va_G × (Nat → ClassId) × Nat × (Nat → Nat)
abbrev tyG (G : GG) : List (ClassId × FieldType) := [(G.2.1 0, .int), (G.2.1 1, .char), (G.2.1 2, .boolean), (G.2.1 3, .object RX2), (G.2.1 4, .object RX3)]
abbrev fr (G : GG) : Nat → Prop := fun q => G.2.2.1 ≤ q
def Rel (G : GG) (h : HP) (z : Nat) (H : Heap) : Prop := H.size = z ∧ G.2.2.1 ≤ z ∧ ∀ (a : Nat) (e : va_E), h a = some e → G.2.2.1 ≤ a ∧ va_at G.1 vwCl (a, e) H
def fV : Nat → Int32 := fun k => match k with
  | 0 => 70
  | 1 => 30
  | 2 => 10
  | 3 => 28
  | 4 => 3
  | _ => 20
def loV : Nat → Int32 := fun k => match k with
  | 0 => 1
  | 1 => 0
  | 2 => 0
  | 3 => 5
  | 4 => 1
  | _ => 0
def hiV : Nat → Int32 := fun k => match k with
  | 0 => 200
  | 1 => 200
  | 2 => 99
  | 3 => 40
  | 4 => 9
  | _ => 60
def stV : Nat → Nat → Int32 := fun k => match k with
  | 0 => fV
  | 1 => loV
  | _ => hiV
def stN : Nat → String := fun k => match k with
  | 0 => "FIRST_VALUES"
  | 1 => "LOWEST_VALUES"
  | _ => "HIGHEST_VALUES"
def vS (G : GG) (k : Nat) (U : State) (H : Heap) : Prop := ∃ cell : Cell, H[G.2.2.2 k]? = some cell ∧ U.isArrayOf cell .int ∧ cell.vm ≠ .unknown ∧ cell.slots.size = 6 ∧ (∀ j : Nat, j < 6 → cell.slots[j]? = some (.int (stV k j))) ∧ cell.cls = G.2.1 0 ∧ ¬ fr G (G.2.2.2 k)
theorem vS.moved {G : GG} {k : Nat} {u U : State} {H : Heap} (hvm : u.vm.Alike U.vm) (h : vS G k u H) : vS G k U H := by
  obtain ⟨cell, h1, h2, h3⟩ := h
  exact ⟨cell, h1, State.isArrayOf_alike hvm h2, h3⟩
theorem vS.kept {G : GG} {k : Nat} {U : State} {H H1 : Heap} (h : vS G k U H) (hq : ∀ a : Nat, a < H.size → ¬ fr G a → H1[a]? = H[a]?) : vS G k U H1 := by
  obtain ⟨cell, h1, h2, h3, h4, h5, h6, h7⟩ := h
  exact ⟨cell, by rw [hq _ (Array.getElem?_eq_some_iff.mp h1).1 h7]; exact h1, h2, h3, h4, h5, h6, h7⟩
def KK (G : GG) (U : State) (H : Heap) : Prop := va_K G.1 vwCl (tyG G) U ∧ (∀ k : Nat, k < 3 → va_Z RX4 (stN k) "[I" (.ref (G.2.2.2 k)) (fr G) U H ∧ vS G k U H) ∧ va_AO RX2 U ∧ va_AO RX3 U ∧ va_Nw (.castable "[I" "java/lang/Cloneable") U ∧ va_Nw (.methodLinkNest RX4 32 yX1_init RX4) U ∧ va_Nw (.methodLinkNest RX3 63 yX2_init RX4) U ∧ va_Nw (.fieldLinkNest RX3 9 RX4 "FIRST_VALUES" "[I" RX4) U
theorem KK.calling {G : GG} {U : State} {H : Heap} {g : JFrame} {mk : MethodId} {a : Array Value} (h : KK G U H) : KK G (U.calling g mk a) H := by
  obtain ⟨h1, h2, h3, h4, h5, h6, h7, h8⟩ := h
  have e : (U.calling g mk a).vm = U.vm := rfl
  have al : U.vm.Alike (U.calling g mk a).vm := Vm.Alike.refl U.vm
  exact ⟨va_K.moved al h1, fun k hk => ⟨va_Z.moved al (h2 k hk).1, vS.moved al (h2 k hk).2⟩, va_AO.moved al h3, va_AO.moved al h4, va_Nw.same rfl rfl h5, va_Nw.same rfl rfl h6, va_Nw.same rfl rfl h7, va_Nw.same rfl rfl h8⟩
theorem KK.warm {G : GG} {s U : State} {H H1 : Heap} (hW : s.WarmedH U.vm) (hq : ∀ a : Nat, a < H.size → ¬ fr G a → H1[a]? = H[a]?) (h : KK G s H) : KK G U H1 := by
  obtain ⟨h1, h2, h3, h4, h5, h6, h7, h8⟩ := h
  have al : s.vm.Alike U.vm := hW.alike
  exact ⟨va_K.moved al h1, fun k hk => ⟨va_Z.kept (va_Z.moved al (h2 k hk).1) hq, vS.kept (vS.moved al (h2 k hk).2) hq⟩, va_AO.moved al h3, va_AO.moved al h4, va_Nw.warmC hW h5, va_Nw.warmM hW h6, va_Nw.warmM hW h7, va_Nw.warmF hW h8⟩
abbrev CT : Type := Program × Env × State × MethodId × Array Value × List Frame × Method × Code
abbrev rmx (d mc ms : Nat) : Room := { frames := d, cells := mc, slots := ms, locals := 36 * d }
def Fx (G : GG) (X : CT) (cc : ByteArray) (own : String) (nL : Nat) (ret : Option FieldType) : Prop :=
  X.1.tables.exec = Jvm.exec ∧ X.2.2.2.2.2.2.2.code = cc ∧ X.2.2.2.2.2.2.2.maxLocals = nL ∧ X.2.2.1.vm.findClass own = some X.2.2.2.1.cls ∧ (∀ w ∈ TW, w.before X.2.2.2.2.1 X.2.2.1 = true) ∧ X.2.2.2.2.2.2.1.locks = false ∧ X.2.2.2.2.2.2.1.sig.returnType = ret ∧ KK G X.2.2.1 X.2.2.1.heap
def ex (G : GG) (l : Launch) (X : CT) (Q : State → Prop) (d mc ms cs sl : Nat) (cc : ByteArray) (own : String) (nL : Nat) (ret : Option FieldType) (h : HP) (z pc : Nat) (lv : List (Nat × Value)) (st : List Value) : Prop :=
  ∀ (H : Heap) (locs : List Loc) (ls : Array Slot), Fx G X cc own nL ret → Rel G h z H → va_S (fr G) X.2.2.1.heap H locs → lv_has ls nL lv → W X.1 l X.2.1 (rmx d mc ms) X.2.2.1 X.2.2.2.1 X.2.2.2.2.1 X.2.2.2.2.2.1 X.2.2.2.2.2.2.1 X.2.2.2.2.2.2.2 H locs cs sl Q (F0 X.2.2.2.1 pc ls st)
/-- what a method leaves -/
def QC (G : GG) (post : Option Value → HP → Nat → Prop) : Array Value → State → Outcome → State → Prop := fun _ st oc t => (∃ (r : Option Value) (h : HP) (z : Nat), oc = .returned r ∧ post r h z ∧ Rel G h z t.heap) ∧ va_F (fr G) st t
def PC (G : GG) (as : List Value) (h : HP) (z : Nat) : Array Value → State → Prop := fun v U => v = as.toArray ∧ Rel G h z U.heap ∧ KK G U U.heap
def RQ (G : GG) (X : CT) (Q : State → Prop) (cs sl : Nat) (post : Option Value → HP → Nat → Prop) : Prop := Q = MQ X.2.2.2.2.2.1 (QC G post) X.2.2.2.2.1 X.2.2.1 cs sl (fr G)
/-- a method's contract -/
def Ct (G : GG) (l : Launch) (d mc ms : Nat) (y : MethodName) (cc : ByteArray) (nL : Nat) (ret : Option FieldType) (as : List Value) (h : HP) (z : Nat) (post : Option Value → HP → Nat → Prop) : Prop :=
  Met l y (Cond.code y cc nL ret :: TW) (rmx d mc ms) (PC G as h z) (QC G post) mc ms (fr G)
theorem Ct.intro {G : GG} {l : Launch} {d mc ms : Nat} {y : MethodName} {cc : ByteArray} {nL : Nat} {ret : Option FieldType} {as : List Value} {h : HP} {z : Nat} {post : Option Value → HP → Nat → Prop} {lv : List (Nat × Value)} (hy : plainName y.cls = true) (hn : (lg_sl as).length ≤ nL) (hlv : lv_args 0 as = lv)
    (body : ∀ (X : CT) (Q : State → Prop), RQ G X Q mc ms post → X.2.2.2.2.2.2.1.name = y.name → ex G l X Q d mc ms 0 0 cc y.cls nL ret h z 0 lv []) : Ct G l d mc ms y cc nL ret as h z post := by
  refine Met.ofW (cc := cc) (maxL := nL) (ret := ret) hy rfl ?_
  intro p e s m args below meth c s₁ B hml hv
  obtain ⟨rfl, hR, hKK⟩ := hv
  have hts0 := atoms_spec (ws := Cond.code y cc nL ret :: TW) B.pre
  have hown : s.vm.findClass y.cls = some m.cls := findClass_of_methodNamed B.named
  have hl := lv_entry as (n := nL) hn
  rw [hlv] at hl
  rw [lg_entry_eq]
  exact body (p, e, s, m, as.toArray, below, meth, c) _ rfl (name_of_methodNamed B.named B.method).1 s.heap [] _ ⟨B.exec, B.bytes, hml, hown, fun w hw => hts0 w (List.mem_cons_of_mem _ hw), B.notSynchronized, B.returns, hKK⟩ hR va_S.rf hl
end
section
section EX
variable {G : GG} {l : Launch} {X : CT} {Q : State → Prop} {d mc ms cs sl : Nat} {cc : ByteArray} {own : String} {nL : Nat} {ret : Option FieldType} {h : HP} {z pc : Nat} {lv : List (Nat × Value)} {st : List Value}
theorem ex_iconst {n : Int} {v : Int32} (dg : decode cc pc = .ok (.iconst n, 1)) (hv : Int32.ofInt n = v) (k1 : ex G l X Q d mc ms cs sl cc own nL ret h z (pc + 1) lv (.int v :: st)) : ex G l X Q d mc ms cs sl cc own nL ret h z pc lv (st) :=
  fun H locs ls F R S L => lv_iconst F.1 F.2.1 dg hv (k1 H locs ls F R S L)
theorem ex_bipush {n : Int} {v : Int32} (dg : decode cc pc = .ok (.bipush n, 2)) (hv : (Int8.ofInt n).toInt32 = v) (k1 : ex G l X Q d mc ms cs sl cc own nL ret h z (pc + 2) lv (.int v :: st)) : ex G l X Q d mc ms cs sl cc own nL ret h z pc lv (st) :=
  fun H locs ls F R S L => lv_bipush F.1 F.2.1 dg hv (k1 H locs ls F R S L)
theorem ex_sipush {n : Int} {v : Int32} (dg : decode cc pc = .ok (.sipush n, 3)) (hv : (Int16.ofInt n).toInt32 = v) (k1 : ex G l X Q d mc ms cs sl cc own nL ret h z (pc + 3) lv (.int v :: st)) : ex G l X Q d mc ms cs sl cc own nL ret h z pc lv (st) :=
  fun H locs ls F R S L => lv_sipush F.1 F.2.1 dg hv (k1 H locs ls F R S L)
theorem ex_lconst {n : Fin 2} {v : Int64} (dg : decode cc pc = .ok (.lconst n, 1)) (hv : Int64.ofNat (n : Nat) = v) (k1 : ex G l X Q d mc ms cs sl cc own nL ret h z (pc + 1) lv (.long v :: st)) : ex G l X Q d mc ms cs sl cc own nL ret h z pc lv (st) :=
  fun H locs ls F R S L => lv_lconst F.1 F.2.1 dg hv (k1 H locs ls F R S L)
theorem ex_null  (dg : decode cc pc = .ok (.aconst_null, 1)) (k1 : ex G l X Q d mc ms cs sl cc own nL ret h z (pc + 1) lv (.null :: st)) : ex G l X Q d mc ms cs sl cc own nL ret h z pc lv (st) :=
  fun H locs ls F R S L => lv_null F.1 F.2.1 dg (k1 H locs ls F R S L)
theorem ex_ldc {index : Nat} {v : Int32} (dg : decode cc pc = .ok (.ldc index, 2)) (hc : Cond.constant own index v ∈ TW) (k1 : ex G l X Q d mc ms cs sl cc own nL ret h z (pc + 2) lv (.int v :: st)) : ex G l X Q d mc ms cs sl cc own nL ret h z pc lv (st) :=
  fun H locs ls F R S L => lv_ldc F.1 F.2.1 F.2.2.2.1 (F.2.2.2.2.1 _ hc) dg (k1 H locs ls F R S L)
theorem ex_ldc2 {index : Nat} {v : Int64} (dg : decode cc pc = .ok (.ldc2_w index, 3)) (hc : Cond.constantLong own index v ∈ TW) (k1 : ex G l X Q d mc ms cs sl cc own nL ret h z (pc + 3) lv (.long v :: st)) : ex G l X Q d mc ms cs sl cc own nL ret h z pc lv (st) :=
  fun H locs ls F R S L => lv_ldc2 F.1 F.2.1 F.2.2.2.1 (F.2.2.2.2.1 _ hc) dg (k1 H locs ls F R S L)
theorem ex_iload_n {k : Fin 4} {i : Nat} {x : Int32} (q : Nat) (dg : decode cc pc = .ok (.iload_n k, 1)) (hi : (k : Nat) = i) (hq : lv[q]? = some (i, .int x)) (k1 : ex G l X Q d mc ms cs sl cc own nL ret h z (pc + 1) lv (.int x :: st)) : ex G l X Q d mc ms cs sl cc own nL ret h z pc lv (st) :=
  fun H locs ls F R S L => lv_iload_n F.1 F.2.1 dg hi (lv_at L q hq) (k1 H locs ls F R S L)
theorem ex_iload {i : Nat} {x : Int32} (q : Nat) (dg : decode cc pc = .ok (.iload i, 2)) (hq : lv[q]? = some (i, .int x)) (k1 : ex G l X Q d mc ms cs sl cc own nL ret h z (pc + 2) lv (.int x :: st)) : ex G l X Q d mc ms cs sl cc own nL ret h z pc lv (st) :=
  fun H locs ls F R S L => lv_iload F.1 F.2.1 dg (lv_at L q hq) (k1 H locs ls F R S L)
theorem ex_lload_n {k : Fin 4} {i : Nat} {x : Int64} (q : Nat) (dg : decode cc pc = .ok (.lload_n k, 1)) (hi : (k : Nat) = i) (hq : lv[q]? = some (i, .long x)) (k1 : ex G l X Q d mc ms cs sl cc own nL ret h z (pc + 1) lv (.long x :: st)) : ex G l X Q d mc ms cs sl cc own nL ret h z pc lv (st) :=
  fun H locs ls F R S L => lv_lload_n F.1 F.2.1 dg hi (lv_at L q hq) (k1 H locs ls F R S L)
theorem ex_lload {i : Nat} {x : Int64} (q : Nat) (dg : decode cc pc = .ok (.lload i, 2)) (hq : lv[q]? = some (i, .long x)) (k1 : ex G l X Q d mc ms cs sl cc own nL ret h z (pc + 2) lv (.long x :: st)) : ex G l X Q d mc ms cs sl cc own nL ret h z pc lv (st) :=
  fun H locs ls F R S L => lv_lload F.1 F.2.1 dg (lv_at L q hq) (k1 H locs ls F R S L)
theorem ex_aload_n {k : Fin 4} {i : Nat} {x : Nat} (q : Nat) (dg : decode cc pc = .ok (.aload_n k, 1)) (hi : (k : Nat) = i) (hq : lv[q]? = some (i, .ref x)) (k1 : ex G l X Q d mc ms cs sl cc own nL ret h z (pc + 1) lv (.ref x :: st)) : ex G l X Q d mc ms cs sl cc own nL ret h z pc lv (st) :=
  fun H locs ls F R S L => lv_aload_n F.1 F.2.1 dg hi (lv_at L q hq) (k1 H locs ls F R S L)
theorem ex_aload {i : Nat} {x : Nat} (q : Nat) (dg : decode cc pc = .ok (.aload i, 2)) (hq : lv[q]? = some (i, .ref x)) (k1 : ex G l X Q d mc ms cs sl cc own nL ret h z (pc + 2) lv (.ref x :: st)) : ex G l X Q d mc ms cs sl cc own nL ret h z pc lv (st) :=
  fun H locs ls F R S L => lv_aload F.1 F.2.1 dg (lv_at L q hq) (k1 H locs ls F R S L)
theorem ex_aload_nN {k : Fin 4} {i : Nat} (q : Nat) (dg : decode cc pc = .ok (.aload_n k, 1)) (hi : (k : Nat) = i) (hq : lv[q]? = some (i, .null)) (k1 : ex G l X Q d mc ms cs sl cc own nL ret h z (pc + 1) lv (.null :: st)) : ex G l X Q d mc ms cs sl cc own nL ret h z pc lv (st) :=
  fun H locs ls F R S L => lv_aload_nN F.1 F.2.1 dg hi (lv_at L q hq) (k1 H locs ls F R S L)
theorem ex_aloadN {i : Nat} (q : Nat) (dg : decode cc pc = .ok (.aload i, 2)) (hq : lv[q]? = some (i, .null)) (k1 : ex G l X Q d mc ms cs sl cc own nL ret h z (pc + 2) lv (.null :: st)) : ex G l X Q d mc ms cs sl cc own nL ret h z pc lv (st) :=
  fun H locs ls F R S L => lv_aloadN F.1 F.2.1 dg (lv_at L q hq) (k1 H locs ls F R S L)
theorem ex_istore_n {k : Fin 4} {i : Nat} {x : Int32} {lv' : List (Nat × Value)} (dg : decode cc pc = .ok (.istore_n k, 1)) (hi : (k : Nat) = i) (hn : i < nL) (hl : (i, Value.int x) :: lv.filter (fun q => !(q.1 == i) && !(q.1 + 1 == i && q.2.category == 2)) = lv') (k1 : ex G l X Q d mc ms cs sl cc own nL ret h z (pc + 1) lv' (st)) : ex G l X Q d mc ms cs sl cc own nL ret h z pc lv (.int x :: st) :=
  fun H locs ls F R S L => lv_istore_n F.1 F.2.1 dg hi L hn hl (fun ls L => k1 H locs ls F R S L)
theorem ex_istore {i : Nat} {x : Int32} {lv' : List (Nat × Value)} (dg : decode cc pc = .ok (.istore i, 2)) (hn : i < nL) (hl : (i, Value.int x) :: lv.filter (fun q => !(q.1 == i) && !(q.1 + 1 == i && q.2.category == 2)) = lv') (k1 : ex G l X Q d mc ms cs sl cc own nL ret h z (pc + 2) lv' (st)) : ex G l X Q d mc ms cs sl cc own nL ret h z pc lv (.int x :: st) :=
  fun H locs ls F R S L => lv_istore F.1 F.2.1 dg L hn hl (fun ls L => k1 H locs ls F R S L)
theorem ex_lstore_n {k : Fin 4} {i : Nat} {x : Int64} {lv' : List (Nat × Value)} (dg : decode cc pc = .ok (.lstore_n k, 1)) (hi : (k : Nat) = i) (hn : i + 1 < nL) (hl : (i, Value.long x) :: lv.filter (fun q => !(q.1 == i) && (!(q.1 == i + 1) && !(q.1 + 1 == i && q.2.category == 2))) = lv') (k1 : ex G l X Q d mc ms cs sl cc own nL ret h z (pc + 1) lv' (st)) : ex G l X Q d mc ms cs sl cc own nL ret h z pc lv (.long x :: st) :=
  fun H locs ls F R S L => lv_lstore_n F.1 F.2.1 dg hi L hn hl (fun ls L => k1 H locs ls F R S L)
theorem ex_lstore {i : Nat} {x : Int64} {lv' : List (Nat × Value)} (dg : decode cc pc = .ok (.lstore i, 2)) (hn : i + 1 < nL) (hl : (i, Value.long x) :: lv.filter (fun q => !(q.1 == i) && (!(q.1 == i + 1) && !(q.1 + 1 == i && q.2.category == 2))) = lv') (k1 : ex G l X Q d mc ms cs sl cc own nL ret h z (pc + 2) lv' (st)) : ex G l X Q d mc ms cs sl cc own nL ret h z pc lv (.long x :: st) :=
  fun H locs ls F R S L => lv_lstore F.1 F.2.1 dg L hn hl (fun ls L => k1 H locs ls F R S L)
theorem ex_astore_n {k : Fin 4} {i : Nat} {x : Nat} {lv' : List (Nat × Value)} (dg : decode cc pc = .ok (.astore_n k, 1)) (hi : (k : Nat) = i) (hn : i < nL) (hl : (i, Value.ref x) :: lv.filter (fun q => !(q.1 == i) && !(q.1 + 1 == i && q.2.category == 2)) = lv') (k1 : ex G l X Q d mc ms cs sl cc own nL ret h z (pc + 1) lv' (st)) : ex G l X Q d mc ms cs sl cc own nL ret h z pc lv (.ref x :: st) :=
  fun H locs ls F R S L => lv_astore_n F.1 F.2.1 dg hi L hn hl (fun ls L => k1 H locs ls F R S L)
theorem ex_astore {i : Nat} {x : Nat} {lv' : List (Nat × Value)} (dg : decode cc pc = .ok (.astore i, 2)) (hn : i < nL) (hl : (i, Value.ref x) :: lv.filter (fun q => !(q.1 == i) && !(q.1 + 1 == i && q.2.category == 2)) = lv') (k1 : ex G l X Q d mc ms cs sl cc own nL ret h z (pc + 2) lv' (st)) : ex G l X Q d mc ms cs sl cc own nL ret h z pc lv (.ref x :: st) :=
  fun H locs ls F R S L => lv_astore F.1 F.2.1 dg L hn hl (fun ls L => k1 H locs ls F R S L)
theorem ex_astore_nN {k : Fin 4} {i : Nat} {lv' : List (Nat × Value)} (dg : decode cc pc = .ok (.astore_n k, 1)) (hi : (k : Nat) = i) (hn : i < nL) (hl : (i, Value.null) :: lv.filter (fun q => !(q.1 == i) && !(q.1 + 1 == i && q.2.category == 2)) = lv') (k1 : ex G l X Q d mc ms cs sl cc own nL ret h z (pc + 1) lv' (st)) : ex G l X Q d mc ms cs sl cc own nL ret h z pc lv (.null :: st) :=
  fun H locs ls F R S L => lv_astore_nN F.1 F.2.1 dg hi L hn hl (fun ls L => k1 H locs ls F R S L)
theorem ex_astoreN {i : Nat} {lv' : List (Nat × Value)} (dg : decode cc pc = .ok (.astore i, 2)) (hn : i < nL) (hl : (i, Value.null) :: lv.filter (fun q => !(q.1 == i) && !(q.1 + 1 == i && q.2.category == 2)) = lv') (k1 : ex G l X Q d mc ms cs sl cc own nL ret h z (pc + 2) lv' (st)) : ex G l X Q d mc ms cs sl cc own nL ret h z pc lv (.null :: st) :=
  fun H locs ls F R S L => lv_astoreN F.1 F.2.1 dg L hn hl (fun ls L => k1 H locs ls F R S L)
theorem ex_iinc {i : Nat} {n : Int} {x v : Int32} {lv' : List (Nat × Value)} (q : Nat) (dg : decode cc pc = .ok (.iinc i n, 3)) (hq : lv[q]? = some (i, .int x)) (hv : x + Int32.ofInt n = v) (hn : i < nL) (hl : (i, Value.int v) :: lv.filter (fun q => !(q.1 == i) && !(q.1 + 1 == i && q.2.category == 2)) = lv') (k1 : ex G l X Q d mc ms cs sl cc own nL ret h z (pc + 3) lv' (st)) : ex G l X Q d mc ms cs sl cc own nL ret h z pc lv (st) :=
  fun H locs ls F R S L => lv_iinc F.1 F.2.1 dg L hq hv hn hl (fun ls L => k1 H locs ls F R S L)
theorem ex_iadd {x y : Int32} (dg : decode cc pc = .ok (.iadd, 1)) (k1 : ex G l X Q d mc ms cs sl cc own nL ret h z (pc + 1) lv (.int (x + y) :: st)) : ex G l X Q d mc ms cs sl cc own nL ret h z pc lv (.int y :: .int x :: st) :=
  fun H locs ls F R S L => lv_iadd F.1 F.2.1 dg (k1 H locs ls F R S L)
theorem ex_isub {x y : Int32} (dg : decode cc pc = .ok (.isub, 1)) (k1 : ex G l X Q d mc ms cs sl cc own nL ret h z (pc + 1) lv (.int (x - y) :: st)) : ex G l X Q d mc ms cs sl cc own nL ret h z pc lv (.int y :: .int x :: st) :=
  fun H locs ls F R S L => lv_isub F.1 F.2.1 dg (k1 H locs ls F R S L)
theorem ex_imul {x y : Int32} (dg : decode cc pc = .ok (.imul, 1)) (k1 : ex G l X Q d mc ms cs sl cc own nL ret h z (pc + 1) lv (.int (x * y) :: st)) : ex G l X Q d mc ms cs sl cc own nL ret h z pc lv (.int y :: .int x :: st) :=
  fun H locs ls F R S L => lv_imul F.1 F.2.1 dg (k1 H locs ls F R S L)
theorem ex_iand {x y : Int32} (dg : decode cc pc = .ok (.iand, 1)) (k1 : ex G l X Q d mc ms cs sl cc own nL ret h z (pc + 1) lv (.int (x &&& y) :: st)) : ex G l X Q d mc ms cs sl cc own nL ret h z pc lv (.int y :: .int x :: st) :=
  fun H locs ls F R S L => lv_iand F.1 F.2.1 dg (k1 H locs ls F R S L)
theorem ex_iaddN {a b : Nat} (dg : decode cc pc = .ok (.iadd, 1)) (k1 : ex G l X Q d mc ms cs sl cc own nL ret h z (pc + 1) lv (.int (nI (a + b)) :: st)) : ex G l X Q d mc ms cs sl cc own nL ret h z pc lv (.int (nI b) :: .int (nI a) :: st) :=
  fun H locs ls F R S L => lv_iadd F.1 F.2.1 dg (by rw [nI_add]; exact (k1 H locs ls F R S L))
theorem ex_imulN {a b : Nat} (dg : decode cc pc = .ok (.imul, 1)) (k1 : ex G l X Q d mc ms cs sl cc own nL ret h z (pc + 1) lv (.int (nI (a * b)) :: st)) : ex G l X Q d mc ms cs sl cc own nL ret h z pc lv (.int (nI b) :: .int (nI a) :: st) :=
  fun H locs ls F R S L => lv_imul F.1 F.2.1 dg (by rw [pk_mul]; exact (k1 H locs ls F R S L))
theorem ex_isubN {a b : Nat} (dg : decode cc pc = .ok (.isub, 1)) (hba : b ≤ a) (k1 : ex G l X Q d mc ms cs sl cc own nL ret h z (pc + 1) lv (.int (nI (a - b)) :: st)) : ex G l X Q d mc ms cs sl cc own nL ret h z pc lv (.int (nI b) :: .int (nI a) :: st) :=
  fun H locs ls F R S L => lv_isub F.1 F.2.1 dg (by rw [pk_sub hba]; exact (k1 H locs ls F R S L))
theorem ex_idiv {x y : Int32} (dg : decode cc pc = .ok (.idiv, 1)) (hne : ¬ y = 0) (k1 : ex G l X Q d mc ms cs sl cc own nL ret h z (pc + 1) lv (.int (x / y) :: st)) : ex G l X Q d mc ms cs sl cc own nL ret h z pc lv (.int y :: .int x :: st) :=
  fun H locs ls F R S L => lv_idiv F.1 F.2.1 dg hne (k1 H locs ls F R S L)
theorem ex_irem {x y : Int32} (dg : decode cc pc = .ok (.irem, 1)) (hne : ¬ y = 0) (k1 : ex G l X Q d mc ms cs sl cc own nL ret h z (pc + 1) lv (.int (x - x / y * y) :: st)) : ex G l X Q d mc ms cs sl cc own nL ret h z pc lv (.int y :: .int x :: st) :=
  fun H locs ls F R S L => lv_irem F.1 F.2.1 dg hne (k1 H locs ls F R S L)
theorem ex_i2l {x : Int32} {v : Int64} (dg : decode cc pc = .ok (.i2l, 1)) (hv : x.toInt64 = v) (k1 : ex G l X Q d mc ms cs sl cc own nL ret h z (pc + 1) lv (.long v :: st)) : ex G l X Q d mc ms cs sl cc own nL ret h z pc lv (.int x :: st) :=
  fun H locs ls F R S L => lv_i2l F.1 F.2.1 dg hv (k1 H locs ls F R S L)
theorem ex_l2i {x : Int64} {v : Int32} (dg : decode cc pc = .ok (.l2i, 1)) (hv : x.toInt32 = v) (k1 : ex G l X Q d mc ms cs sl cc own nL ret h z (pc + 1) lv (.int v :: st)) : ex G l X Q d mc ms cs sl cc own nL ret h z pc lv (.long x :: st) :=
  fun H locs ls F R S L => lv_l2i F.1 F.2.1 dg hv (k1 H locs ls F R S L)
theorem ex_i2c {x : Int32} {v : Int32} (dg : decode cc pc = .ok (.i2c, 1)) (hv : (x.toUInt32 % 65536).toInt32 = v) (k1 : ex G l X Q d mc ms cs sl cc own nL ret h z (pc + 1) lv (.int v :: st)) : ex G l X Q d mc ms cs sl cc own nL ret h z pc lv (.int x :: st) :=
  fun H locs ls F R S L => lv_i2c F.1 F.2.1 dg hv (k1 H locs ls F R S L)
theorem ex_land {x y : Int64} (dg : decode cc pc = .ok (.land, 1)) (k1 : ex G l X Q d mc ms cs sl cc own nL ret h z (pc + 1) lv (.long (x &&& y) :: st)) : ex G l X Q d mc ms cs sl cc own nL ret h z pc lv (.long y :: .long x :: st) :=
  fun H locs ls F R S L => lv_land F.1 F.2.1 dg (k1 H locs ls F R S L)
theorem ex_lor {x y : Int64} (dg : decode cc pc = .ok (.lor, 1)) (k1 : ex G l X Q d mc ms cs sl cc own nL ret h z (pc + 1) lv (.long (x ||| y) :: st)) : ex G l X Q d mc ms cs sl cc own nL ret h z pc lv (.long y :: .long x :: st) :=
  fun H locs ls F R S L => lv_lor F.1 F.2.1 dg (k1 H locs ls F R S L)
theorem ex_lushr {x v : Int64} {y : Int32} (dg : decode cc pc = .ok (.lushr, 1)) (hv : (x.toUInt64 >>> (y.toInt64.toUInt64 &&& Int64.toUInt64 63)).toInt64 = v) (k1 : ex G l X Q d mc ms cs sl cc own nL ret h z (pc + 1) lv (.long v :: st)) : ex G l X Q d mc ms cs sl cc own nL ret h z pc lv (.int y :: .long x :: st) :=
  fun H locs ls F R S L => lv_lushr F.1 F.2.1 dg hv (k1 H locs ls F R S L)
theorem ex_lshl {x v : Int64} {y : Int32} (dg : decode cc pc = .ok (.lshl, 1)) (hv : x <<< (y.toInt64 &&& 63) = v) (k1 : ex G l X Q d mc ms cs sl cc own nL ret h z (pc + 1) lv (.long v :: st)) : ex G l X Q d mc ms cs sl cc own nL ret h z pc lv (.int y :: .long x :: st) :=
  fun H locs ls F R S L => lv_lshl F.1 F.2.1 dg hv (k1 H locs ls F R S L)
theorem ex_lshr {x v : Int64} {y : Int32} (dg : decode cc pc = .ok (.lshr, 1)) (hv : x >>> (y.toInt64 &&& 63) = v) (k1 : ex G l X Q d mc ms cs sl cc own nL ret h z (pc + 1) lv (.long v :: st)) : ex G l X Q d mc ms cs sl cc own nL ret h z pc lv (.int y :: .long x :: st) :=
  fun H locs ls F R S L => lv_lshr F.1 F.2.1 dg hv (k1 H locs ls F R S L)
theorem ex_dup {va : Value} (dg : decode cc pc = .ok (.dup, 1)) (hva : va.category = 1) (k1 : ex G l X Q d mc ms cs sl cc own nL ret h z (pc + 1) lv (va :: va :: st)) : ex G l X Q d mc ms cs sl cc own nL ret h z pc lv (va :: st) :=
  fun H locs ls F R S L => lv_dup F.1 F.2.1 dg hva (k1 H locs ls F R S L)
theorem ex_pop {va : Value} (dg : decode cc pc = .ok (.pop, 1)) (hva : va.category = 1) (k1 : ex G l X Q d mc ms cs sl cc own nL ret h z (pc + 1) lv (st)) : ex G l X Q d mc ms cs sl cc own nL ret h z pc lv (va :: st) :=
  fun H locs ls F R S L => lv_pop F.1 F.2.1 dg hva (k1 H locs ls F R S L)
theorem ex_dup2 {va vb : Value} (dg : decode cc pc = .ok (.dup2, 1)) (hva : va.category = 1) (hvb : vb.category = 1) (k1 : ex G l X Q d mc ms cs sl cc own nL ret h z (pc + 1) lv (va :: vb :: va :: vb :: st)) : ex G l X Q d mc ms cs sl cc own nL ret h z pc lv (va :: vb :: st) :=
  fun H locs ls F R S L => lv_dup2_11 F.1 F.2.1 dg hva hvb (k1 H locs ls F R S L)
theorem ex_if_eq {x : Int32} {off : Int} {tgt : Nat} (dg : decode cc pc = .ok (.ifCond .eq off, 3)) (ht : (pc : Int) + off = (tgt : Int)) (kt : x = 0 → ex G l X Q d mc ms cs sl cc own nL ret h z tgt lv (st)) (kf : ¬ x = 0 → ex G l X Q d mc ms cs sl cc own nL ret h z (pc + 3) lv (st)) : ex G l X Q d mc ms cs sl cc own nL ret h z pc lv (.int x :: st) :=
  fun H locs ls F R S L => lv_if_eq F.1 F.2.1 dg ht (fun c => kt c H locs ls F R S L) (fun c => kf c H locs ls F R S L)
theorem ex_icmp_eq {x y : Int32} {off : Int} {tgt : Nat} (dg : decode cc pc = .ok (.if_icmp .eq off, 3)) (ht : (pc : Int) + off = (tgt : Int)) (kt : x = y → ex G l X Q d mc ms cs sl cc own nL ret h z tgt lv (st)) (kf : ¬ x = y → ex G l X Q d mc ms cs sl cc own nL ret h z (pc + 3) lv (st)) : ex G l X Q d mc ms cs sl cc own nL ret h z pc lv (.int y :: .int x :: st) :=
  fun H locs ls F R S L => lv_icmp_eq F.1 F.2.1 dg ht (fun c => kt c H locs ls F R S L) (fun c => kf c H locs ls F R S L)
theorem ex_if_ne {x : Int32} {off : Int} {tgt : Nat} (dg : decode cc pc = .ok (.ifCond .ne off, 3)) (ht : (pc : Int) + off = (tgt : Int)) (kt : ¬ x = 0 → ex G l X Q d mc ms cs sl cc own nL ret h z tgt lv (st)) (kf : x = 0 → ex G l X Q d mc ms cs sl cc own nL ret h z (pc + 3) lv (st)) : ex G l X Q d mc ms cs sl cc own nL ret h z pc lv (.int x :: st) :=
  fun H locs ls F R S L => lv_if_ne F.1 F.2.1 dg ht (fun c => kt c H locs ls F R S L) (fun c => kf c H locs ls F R S L)
theorem ex_icmp_ne {x y : Int32} {off : Int} {tgt : Nat} (dg : decode cc pc = .ok (.if_icmp .ne off, 3)) (ht : (pc : Int) + off = (tgt : Int)) (kt : ¬ x = y → ex G l X Q d mc ms cs sl cc own nL ret h z tgt lv (st)) (kf : x = y → ex G l X Q d mc ms cs sl cc own nL ret h z (pc + 3) lv (st)) : ex G l X Q d mc ms cs sl cc own nL ret h z pc lv (.int y :: .int x :: st) :=
  fun H locs ls F R S L => lv_icmp_ne F.1 F.2.1 dg ht (fun c => kt c H locs ls F R S L) (fun c => kf c H locs ls F R S L)
theorem ex_if_lt {x : Int32} {off : Int} {tgt : Nat} (dg : decode cc pc = .ok (.ifCond .lt off, 3)) (ht : (pc : Int) + off = (tgt : Int)) (kt : x < 0 → ex G l X Q d mc ms cs sl cc own nL ret h z tgt lv (st)) (kf : ¬ x < 0 → ex G l X Q d mc ms cs sl cc own nL ret h z (pc + 3) lv (st)) : ex G l X Q d mc ms cs sl cc own nL ret h z pc lv (.int x :: st) :=
  fun H locs ls F R S L => lv_if_lt F.1 F.2.1 dg ht (fun c => kt c H locs ls F R S L) (fun c => kf c H locs ls F R S L)
theorem ex_icmp_lt {x y : Int32} {off : Int} {tgt : Nat} (dg : decode cc pc = .ok (.if_icmp .lt off, 3)) (ht : (pc : Int) + off = (tgt : Int)) (kt : x < y → ex G l X Q d mc ms cs sl cc own nL ret h z tgt lv (st)) (kf : ¬ x < y → ex G l X Q d mc ms cs sl cc own nL ret h z (pc + 3) lv (st)) : ex G l X Q d mc ms cs sl cc own nL ret h z pc lv (.int y :: .int x :: st) :=
  fun H locs ls F R S L => lv_icmp_lt F.1 F.2.1 dg ht (fun c => kt c H locs ls F R S L) (fun c => kf c H locs ls F R S L)
theorem ex_if_ge {x : Int32} {off : Int} {tgt : Nat} (dg : decode cc pc = .ok (.ifCond .ge off, 3)) (ht : (pc : Int) + off = (tgt : Int)) (kt : 0 ≤ x → ex G l X Q d mc ms cs sl cc own nL ret h z tgt lv (st)) (kf : ¬ 0 ≤ x → ex G l X Q d mc ms cs sl cc own nL ret h z (pc + 3) lv (st)) : ex G l X Q d mc ms cs sl cc own nL ret h z pc lv (.int x :: st) :=
  fun H locs ls F R S L => lv_if_ge F.1 F.2.1 dg ht (fun c => kt c H locs ls F R S L) (fun c => kf c H locs ls F R S L)
theorem ex_icmp_ge {x y : Int32} {off : Int} {tgt : Nat} (dg : decode cc pc = .ok (.if_icmp .ge off, 3)) (ht : (pc : Int) + off = (tgt : Int)) (kt : y ≤ x → ex G l X Q d mc ms cs sl cc own nL ret h z tgt lv (st)) (kf : ¬ y ≤ x → ex G l X Q d mc ms cs sl cc own nL ret h z (pc + 3) lv (st)) : ex G l X Q d mc ms cs sl cc own nL ret h z pc lv (.int y :: .int x :: st) :=
  fun H locs ls F R S L => lv_icmp_ge F.1 F.2.1 dg ht (fun c => kt c H locs ls F R S L) (fun c => kf c H locs ls F R S L)
theorem ex_if_gt {x : Int32} {off : Int} {tgt : Nat} (dg : decode cc pc = .ok (.ifCond .gt off, 3)) (ht : (pc : Int) + off = (tgt : Int)) (kt : 0 < x → ex G l X Q d mc ms cs sl cc own nL ret h z tgt lv (st)) (kf : ¬ 0 < x → ex G l X Q d mc ms cs sl cc own nL ret h z (pc + 3) lv (st)) : ex G l X Q d mc ms cs sl cc own nL ret h z pc lv (.int x :: st) :=
  fun H locs ls F R S L => lv_if_gt F.1 F.2.1 dg ht (fun c => kt c H locs ls F R S L) (fun c => kf c H locs ls F R S L)
theorem ex_icmp_gt {x y : Int32} {off : Int} {tgt : Nat} (dg : decode cc pc = .ok (.if_icmp .gt off, 3)) (ht : (pc : Int) + off = (tgt : Int)) (kt : y < x → ex G l X Q d mc ms cs sl cc own nL ret h z tgt lv (st)) (kf : ¬ y < x → ex G l X Q d mc ms cs sl cc own nL ret h z (pc + 3) lv (st)) : ex G l X Q d mc ms cs sl cc own nL ret h z pc lv (.int y :: .int x :: st) :=
  fun H locs ls F R S L => lv_icmp_gt F.1 F.2.1 dg ht (fun c => kt c H locs ls F R S L) (fun c => kf c H locs ls F R S L)
theorem ex_if_le {x : Int32} {off : Int} {tgt : Nat} (dg : decode cc pc = .ok (.ifCond .le off, 3)) (ht : (pc : Int) + off = (tgt : Int)) (kt : x ≤ 0 → ex G l X Q d mc ms cs sl cc own nL ret h z tgt lv (st)) (kf : ¬ x ≤ 0 → ex G l X Q d mc ms cs sl cc own nL ret h z (pc + 3) lv (st)) : ex G l X Q d mc ms cs sl cc own nL ret h z pc lv (.int x :: st) :=
  fun H locs ls F R S L => lv_if_le F.1 F.2.1 dg ht (fun c => kt c H locs ls F R S L) (fun c => kf c H locs ls F R S L)
theorem ex_icmp_le {x y : Int32} {off : Int} {tgt : Nat} (dg : decode cc pc = .ok (.if_icmp .le off, 3)) (ht : (pc : Int) + off = (tgt : Int)) (kt : x ≤ y → ex G l X Q d mc ms cs sl cc own nL ret h z tgt lv (st)) (kf : ¬ x ≤ y → ex G l X Q d mc ms cs sl cc own nL ret h z (pc + 3) lv (st)) : ex G l X Q d mc ms cs sl cc own nL ret h z pc lv (.int y :: .int x :: st) :=
  fun H locs ls F R S L => lv_icmp_le F.1 F.2.1 dg ht (fun c => kt c H locs ls F R S L) (fun c => kf c H locs ls F R S L)
theorem ex_goto {off : Int} {tgt : Nat} (dg : decode cc pc = .ok (.goto off, 3)) (ht : (pc : Int) + off = (tgt : Int)) (k1 : ex G l X Q d mc ms cs sl cc own nL ret h z tgt lv (st)) : ex G l X Q d mc ms cs sl cc own nL ret h z pc lv (st) :=
  fun H locs ls F R S L => lv_goto F.1 F.2.1 dg ht (k1 H locs ls F R S L)
theorem ex_ifnonnull {x : Nat} {off : Int} {tgt : Nat} (dg : decode cc pc = .ok (.ifnonnull off, 3)) (ht : (pc : Int) + off = (tgt : Int)) (k1 : ex G l X Q d mc ms cs sl cc own nL ret h z tgt lv (st)) : ex G l X Q d mc ms cs sl cc own nL ret h z pc lv (.ref x :: st) :=
  fun H locs ls F R S L => lv_ifnonnull F.1 F.2.1 dg ht (k1 H locs ls F R S L)
theorem ex_ifnonnullN {off : Int} (dg : decode cc pc = .ok (.ifnonnull off, 3)) (k1 : ex G l X Q d mc ms cs sl cc own nL ret h z (pc + 3) lv (st)) : ex G l X Q d mc ms cs sl cc own nL ret h z pc lv (.null :: st) :=
  fun H locs ls F R S L => lv_ifnonnullN F.1 F.2.1 dg (k1 H locs ls F R S L)
theorem ex_ifnull {x : Nat} {off : Int} (dg : decode cc pc = .ok (.ifnull off, 3)) (k1 : ex G l X Q d mc ms cs sl cc own nL ret h z (pc + 3) lv (st)) : ex G l X Q d mc ms cs sl cc own nL ret h z pc lv (.ref x :: st) :=
  fun H locs ls F R S L => lv_ifnull F.1 F.2.1 dg (k1 H locs ls F R S L)
theorem ex_ifnullN {off : Int} {tgt : Nat} (dg : decode cc pc = .ok (.ifnull off, 3)) (ht : (pc : Int) + off = (tgt : Int)) (k1 : ex G l X Q d mc ms cs sl cc own nL ret h z tgt lv (st)) : ex G l X Q d mc ms cs sl cc own nL ret h z pc lv (.null :: st) :=
  fun H locs ls F R S L => lv_ifnullN F.1 F.2.1 dg ht (k1 H locs ls F R S L)
theorem ex_tableOut {dflt lo hi : Int} {offs : Array Int} {len : Nat} {x : Int32} {tgt : Nat} (dg : decode cc pc = .ok (.tableswitch dflt lo hi offs, len)) (hx : x.toInt < lo ∨ hi < x.toInt) (ht : (pc : Int) + dflt = (tgt : Int)) (k1 : ex G l X Q d mc ms cs sl cc own nL ret h z tgt lv (st)) : ex G l X Q d mc ms cs sl cc own nL ret h z pc lv (.int x :: st) :=
  fun H locs ls F R S L => lv_tableOut F.1 F.2.1 dg hx ht (k1 H locs ls F R S L)
theorem ex_tableIn {dflt lo hi : Int} {offs : Array Int} {len : Nat} {x : Int32} {off : Int} {tgt : Nat} (dg : decode cc pc = .ok (.tableswitch dflt lo hi offs, len)) (h1 : ¬ x.toInt < lo) (h2 : ¬ hi < x.toInt) (ho : offs[(x.toInt - lo).toNat]? = some off) (ht : (pc : Int) + off = (tgt : Int)) (k1 : ex G l X Q d mc ms cs sl cc own nL ret h z tgt lv (st)) : ex G l X Q d mc ms cs sl cc own nL ret h z pc lv (.int x :: st) :=
  fun H locs ls F R S L => lv_tableIn F.1 F.2.1 dg h1 h2 ho ht (k1 H locs ls F R S L)
theorem ex_lcmp {x y : Int64} (dg : decode cc pc = .ok (.lcmp, 1)) (k1 : ex G l X Q d mc ms cs sl cc own nL ret h z (pc + 1) lv (.int (lg_cmp x y) :: st)) : ex G l X Q d mc ms cs sl cc own nL ret h z pc lv (.long y :: .long x :: st) :=
  fun H locs ls F R S L => W.lcmp F.1 F.2.1 dg (k1 H locs ls F R S L)
end EX
end
section
/-! the rows of 'ex' that touch the heap -/
theorem Rel.put {G : GG} {h : HP} {z a : Nat} {e e0 : va_E} {H H1 : Heap} (R : Rel G h z H) (he : h a = some e0) (z1 : H1.size = H.size) (o : ∀ q : Nat, q ≠ a → H1[q]? = H[q]?) (n : va_at G.1 vwCl (a, e) H1) : Rel G (hu h a e) z H1 := by
  refine ⟨z1.trans R.1, R.2.1, fun b e1 hb => ?_⟩
  by_cases q : b = a
  · subst q
    rw [hu_s] at hb
    cases hb
    exact ⟨(R.2.2 _ _ he).1, n⟩
  · rw [hu_n q] at hb
    exact ⟨(R.2.2 _ _ hb).1, (R.2.2 _ _ hb).2.kept (o b q)⟩
theorem Rel.new {G : GG} {h : HP} {z : Nat} {e : va_E} {H H1 : Heap} (R : Rel G h z H) (z1 : H1.size = z + 1) (o : ∀ q : Nat, q < z → H1[q]? = H[q]?) (n : va_at G.1 vwCl (z, e) H1) : Rel G (hu h z e) (z + 1) H1 := by
  obtain ⟨rz, rb, rc⟩ := R
  subst rz
  refine ⟨z1, Nat.le_succ_of_le rb, fun b e1 hb => ?_⟩
  by_cases q : b = H.size
  · subst q
    rw [hu_s] at hb
    cases hb
    exact ⟨rb, n⟩
  · rw [hu_n q] at hb
    exact ⟨(rc _ _ hb).1, (rc _ _ hb).2.kept (o b (rc _ _ hb).2.lt)⟩
theorem Rel.P {G : GG} {h : HP} {z a : Nat} {e : va_E} {H : Heap} (R : Rel G h z H) (he : h a = some e) : va_P G.1 vwCl [(a, e)] H := by
  intro k q hk
  have : k = 0 := by
    rcases k with _ | k
    · rfl
    · simp at hk
  subst this
  cases hk
  exact (R.2.2 _ _ he).2
theorem vS_new {A : Nat → Prop} {H0 H H1 : Heap} {locs : List Loc} (h : va_S A H0 H locs) (z1 : H1.size = H.size + 1) (o : ∀ q : Nat, q < H.size → H1[q]? = H[q]?) : va_S A H0 H1 locs :=
  ⟨Nat.le_trans h.1 (by omega), fun x h1 h2 => (o x (Nat.lt_of_lt_of_le h1 h.1)).trans (h.2.1 x h1 h2), h.2.2⟩
/-- a field's link: of the class 'own' the entry 'idx' names the field k of the class ci -/
def FL (own : String) (idx ci k : Nat) (ty : FieldType) (fin : Bool) : Prop := ∃ (C : String) (T : u_T) (N : Nat) (t0 : Nat → FieldType), vwCl[ci]? = some (C, T, N) ∧ (∀ w ∈ u_ws C T N, w ∈ TW) ∧ (∀ k, k < N → parseFieldDescriptor (T k).2.2.1 = some (t0 k)) ∧ (∀ a, a < N → ∀ b, b < N → a ≠ b → (T a).2.1 ≠ (T b).2.1) ∧ k < N ∧ t0 k = ty ∧ (T k).2.2.2 = fin ∧ (T k).1 = C ∧ Cond.fieldLink own idx C (T k).2.1 (T k).2.2.1 ∈ TW
/-- a class that is made: of the class 'own' the entry 'idx' names the class ci, of N fields, whose first values are fs -/
def NL (own : String) (idx ci : Nat) (N : Nat) (fs : List Value) : Prop := ∃ (C : String) (T : u_T) (t0 : Nat → FieldType), vwCl[ci]? = some (C, T, N) ∧ (∀ w ∈ u_ws C T N, w ∈ TW) ∧ (∀ k, k < N → parseFieldDescriptor (T k).2.2.1 = some (t0 k)) ∧ (∀ j, j < N → defaultValue (t0 j) = vp_V fs j) ∧ Cond.classLink own idx C ∈ TW ∧ Cond.instantiable C N ∈ TW ∧ Cond.initialized C ∈ TW
section EH
variable {G : GG} {l : Launch} {X : CT} {Q : State → Prop} {d mc ms cs sl : Nat} {cc : ByteArray} {own : String} {nL : Nat} {ret : Option FieldType} {h : HP} {z pc : Nat} {lv : List (Nat × Value)} {st : List Value}
theorem ex_get {idx ci k a : Nat} {ty : FieldType} {fin : Bool} {fs : List Value} {v : Value} (L0 : FL own idx ci k ty fin) (he : h a = some (.inr (ci, fs))) (hv : fs[k]? = some v) (dg : decode cc pc = .ok (.getfield idx, 3)) (k1 : ex G l X Q d mc ms cs sl cc own nL ret h z (pc + 3) lv (v :: st)) : ex G l X Q d mc ms cs sl cc own nL ret h z pc lv (.ref a :: st) := by
  intro H locs ls F R S L
  obtain ⟨C, T, N, t0, c1, c2, c3, c4, c5, c6, c7, c8, c9⟩ := L0
  exact va_get (D := G.1) (cl := vwCl) (tys := tyG G) (ws := [(a, .inr (ci, fs))]) (Ts := TW) (C := C) (T := T) (N := N) F.1 F.2.1 F.2.2.2.2.1 c2 F.2.2.2.1 F.2.2.2.2.2.2.2.1 (R.P he) 0 rfl c1 k c5 (F.2.2.2.2.1 _ c9) (fun x hx => by rw [c8] at hx; exact hx) hv dg (k1 H locs ls F R S L)
theorem ex_put {idx ci k a : Nat} {ty : FieldType} {fs : List Value} {v : Value} (L0 : FL own idx ci k ty false) (he : h a = some (.inr (ci, fs))) (hn : narrow ty v = v) (hfit : fits ty v = true) (hl : k < fs.length) (dg : decode cc pc = .ok (.putfield idx, 3)) (k1 : ex G l X Q d mc ms cs sl cc own nL ret (hu h a (.inr (ci, fs.set k v))) z (pc + 3) lv st) : ex G l X Q d mc ms cs sl cc own nL ret h z pc lv (v :: .ref a :: st) := by
  intro H locs ls F R S L
  obtain ⟨C, T, N, t0, c1, c2, c3, c4, c5, c6, c7, c8, c9⟩ := L0
  have hK := F.2.2.2.2.2.2.2.1
  have hts := F.2.2.2.2.1
  have hown := F.2.2.2.1
  have hap := va_apart (own := own) hts c2 t0 c3 c4 hK c1
  obtain ⟨hb, r, h1, cell, q1, q2, q3, q4⟩ := R.2.2 _ _ he
  have hr : r = (C, T, N) := Option.some.inj (h1.symm.trans c1)
  subst hr
  obtain ⟨hS, hfc, kC, hkC, hkind⟩ := hK.1 ci _ c1
  obtain ⟨cf, kf, fi, f, hi, hsl⟩ := hS k c5
  have hlay := hts _ (c2 _ (u_in_lay c5))
  unfold u_lay at hlay
  rw [if_neg (by rw [c7]; decide)] at hlay
  have hst := (u_facts hfc hkC (u_lays hts c2 c5) hi).1
  have hd : parseFieldDescriptor (T k).2.2.1 = some ty := by rw [← c6]; exact c3 k c5
  have h6 := u_store hfc hkC hkind hlay hi hd hn hfit
  refine W.putK F.1 F.2.1 (f := f) ⟨hown, hts _ c9, ⟨_, _, _, by rw [c8] at hi; exact hi⟩, hst⟩ (by rw [q2]; exact h6) q1 q3 (by rw [hsl]; exact k2_hasslot (q4 k c5)) rfl rfl dg fun H' e1 e2 e3 => ?_
  rw [hsl] at e1 ⊢
  exact k1 H' _ ls F (R.put he e2 e3 ⟨_, c1, t_OB.to (V := updV (vp_V fs) k v) ⟨_, e1, q2, q3, t_set q4 hap c5 v⟩ (fun j _ => vp_updV_set hl v j)⟩) (S.put e2 e3 hb) L
theorem ex_putF {idx ci k a : Nat} {ty : FieldType} {fs : List Value} {v : Value} (hin : X.2.2.2.2.2.2.1.name = "<init>") (hoc : vwCl[ci]?.map (fun q => q.1) = some own) (L0 : FL own idx ci k ty true) (he : h a = some (.inr (ci, fs))) (hn : narrow ty v = v) (hfit : fits ty v = true) (hl : k < fs.length) (dg : decode cc pc = .ok (.putfield idx, 3)) (k1 : ex G l X Q d mc ms cs sl cc own nL ret (hu h a (.inr (ci, fs.set k v))) z (pc + 3) lv st) : ex G l X Q d mc ms cs sl cc own nL ret h z pc lv (v :: .ref a :: st) := by
  intro H locs ls F R S L
  obtain ⟨C, T, N, t0, c1, c2, c3, c4, c5, c6, c7, c8, c9⟩ := L0
  have hCo : C = own := by rw [c1] at hoc; exact Option.some.inj hoc
  have hK := F.2.2.2.2.2.2.2.1
  have hts := F.2.2.2.2.1
  have hown := F.2.2.2.1
  have hap := va_apart (own := own) hts c2 t0 c3 c4 hK c1
  obtain ⟨hb, r, h1, cell, q1, q2, q3, q4⟩ := R.2.2 _ _ he
  have hr : r = (C, T, N) := Option.some.inj (h1.symm.trans c1)
  subst hr
  obtain ⟨hS, hfc, kC, hkC, hkind⟩ := hK.1 ci _ c1
  obtain ⟨cf, kf, fi, f, hi, hsl⟩ := hS k c5
  have hlay := hts _ (c2 _ (u_in_lay c5))
  unfold u_lay at hlay
  rw [if_pos c7] at hlay
  have hst := (u_facts hfc hkC (u_lays hts c2 c5) hi).1
  have hcf : X.2.2.2.1.cls = cf := by
    obtain ⟨_, _, c', _, _, _, -, -, hf', -, -, -, hown2, -⟩ := Cond.laysFinal_spec hlay
    have e1 : c' = cf := by have := hi.symm.trans hf'; simp at this; exact this.1.symm
    rw [c8, hCo] at hown2
    rw [← e1]; exact Option.some.inj (hown.symm.trans hown2)
  have hd : parseFieldDescriptor (T k).2.2.1 = some ty := by rw [← c6]; exact c3 k c5
  have h6 := u_fits hfc hkC hkind (Or.inr hlay) hi hd hn hfit
  refine W.putFinK F.1 F.2.1 hown (hts _ c9) (by rw [c8] at hi; exact hi) hst hcf hin (by rw [q2]; exact h6) q1 q3 (by rw [hsl]; exact k2_hasslot (q4 k c5)) rfl rfl dg fun H' e1 e2 e3 => ?_
  rw [hsl] at e1 ⊢
  exact k1 H' _ ls F (R.put he e2 e3 ⟨_, c1, t_OB.to (V := updV (vp_V fs) k v) ⟨_, e1, q2, q3, t_set q4 hap c5 v⟩ (fun j _ => vp_updV_set hl v j)⟩) (S.put e2 e3 hb) L
theorem ex_new {idx ci N : Nat} {fs : List Value} (L0 : NL own idx ci N fs) (hc : cs + 1 ≤ mc) (hs : sl + N ≤ ms) (dg : decode cc pc = .ok (.new idx, 3)) (k1 : ex G l X Q d mc ms (cs + 1) (sl + N) cc own nL ret (hu h z (.inr (ci, fs))) (z + 1) (pc + 3) lv (.ref z :: st)) : ex G l X Q d mc ms cs sl cc own nL ret h z pc lv st := by
  intro H locs ls F R S L
  obtain ⟨C, T, t0, c1, c2, c3, c4, c5, c6, c7⟩ := L0
  have hts := F.2.2.2.2.1
  have hKn := F.2.2.2.2.2.2.2.1.1 ci _ c1
  have hz : H.size = z := R.1
  refine W.newcK F.1 F.2.1 F.2.2.2.1 (hts _ c5) (hts _ c6) (hts _ c7) rfl dg hc hs hKn.2.1 hz fun H1 kC hkC e1 z1 o1 => ?_
  exact k1 H1 locs ls F (R.new z1 o1 ⟨_, c1, (u_born t0 hts c2 hKn hkC e1 c3).to c4⟩) (vS_new S (by omega) (fun q hq => o1 q (by omega))) L
end EH
end
section
theorem nI_c {j n : Nat} (hj : j < n) (hn : n < 2 ^ 31) : (nI j).toNatClampNeg = j := nI_clamp (Nat.lt_trans hj hn)
theorem vS.T {G : GG} {k : Nat} {U : State} {H : Heap} (h : vS G k U H) : va_T .int (G.2.2.2 k) 6 (fun j => .int (stV k j)) (fr G) U H := by
  obtain ⟨cell, h1, h2, h3, h4, h5, h6, h7⟩ := h
  exact ⟨cell, h1, h2, h3, by omega, by rw [h4], h5, h7⟩
/-- an array's cell by its kind -/
abbrev aA (G : GG) (t n : Nat) (f : Nat → Int32) : va_E := .inl (G.2.1 t, n, .inl f)
abbrev aQ (G : GG) (t n : Nat) (f : Nat → Option Nat) : va_E := .inl (G.2.1 t, n, .inr (.inr (.inr (.inr f))))
section EA
variable {G : GG} {l : Launch} {X : CT} {Q : State → Prop} {d mc ms cs sl : Nat} {cc : ByteArray} {own : String} {nL : Nat} {ret : Option FieldType} {h : HP} {z pc : Nat} {lv : List (Nat × Value)} {st : List Value}
theorem ex_iald {a n j : Nat} {f : Nat → Int32} {x : Int32} (he : h a = some (aA G 0 n f)) (hx : x = nI j) (hj : j < n) (hn : n < 2 ^ 31) (dg : decode cc pc = .ok (.iaload, 1)) (k1 : ex G l X Q d mc ms cs sl cc own nL ret h z (pc + 1) lv (.int (f j) :: st)) : ex G l X Q d mc ms cs sl cc own nL ret h z pc lv (.int x :: .ref a :: st) := by
  intro H locs ls F R S L
  subst hx
  refine va_iald (D := G.1) (cl := vwCl) (tys := tyG G) (ws := [(a, aA G 0 n f)]) F.1 F.2.1 F.2.2.2.2.2.2.2.1 (R.P he) 0 0 rfl rfl (vp_in_nI hj hn) dg ?_
  rw [nI_c hj hn]
  exact k1 H locs ls F R S L
theorem ex_cald {a n j : Nat} {f : Nat → Int32} {x : Int32} (he : h a = some (aA G 1 n f)) (hx : x = nI j) (hj : j < n) (hn : n < 2 ^ 31) (dg : decode cc pc = .ok (.caload, 1)) (k1 : ex G l X Q d mc ms cs sl cc own nL ret h z (pc + 1) lv (.int (f j) :: st)) : ex G l X Q d mc ms cs sl cc own nL ret h z pc lv (.int x :: .ref a :: st) := by
  intro H locs ls F R S L
  subst hx
  refine va_cald (D := G.1) (cl := vwCl) (tys := tyG G) (ws := [(a, aA G 1 n f)]) F.1 F.2.1 F.2.2.2.2.2.2.2.1 (R.P he) 0 1 rfl rfl (vp_in_nI hj hn) dg ?_
  rw [nI_c hj hn]
  exact k1 H locs ls F R S L
theorem ex_zald {a n j : Nat} {f : Nat → Int32} {x : Int32} (he : h a = some (aA G 2 n f)) (hx : x = nI j) (hj : j < n) (hn : n < 2 ^ 31) (dg : decode cc pc = .ok (.baload, 1)) (k1 : ex G l X Q d mc ms cs sl cc own nL ret h z (pc + 1) lv (.int (f j) :: st)) : ex G l X Q d mc ms cs sl cc own nL ret h z pc lv (.int x :: .ref a :: st) := by
  intro H locs ls F R S L
  subst hx
  refine va_zald (D := G.1) (cl := vwCl) (tys := tyG G) (ws := [(a, aA G 2 n f)]) F.1 F.2.1 F.2.2.2.2.2.2.2.1 (R.P he) 0 2 rfl rfl (vp_in_nI hj hn) dg ?_
  rw [nI_c hj hn]
  exact k1 H locs ls F R S L
theorem ex_aald3 {a n j : Nat} {f : Nat → Option Nat} {x : Int32} (he : h a = some (aQ G 3 n f)) (hx : x = nI j) (hj : j < n) (hn : n < 2 ^ 31) (dg : decode cc pc = .ok (.aaload, 1)) (k1 : ex G l X Q d mc ms cs sl cc own nL ret h z (pc + 1) lv (va_rf (f j) :: st)) : ex G l X Q d mc ms cs sl cc own nL ret h z pc lv (.int x :: .ref a :: st) := by
  intro H locs ls F R S L
  subst hx
  refine va_aldq (D := G.1) (cl := vwCl) (tys := tyG G) (ws := [(a, aQ G 3 n f)]) F.1 F.2.1 F.2.2.2.2.2.2.2.1 (R.P he) 0 3 rfl rfl (vp_in_nI hj hn) dg ?_
  rw [nI_c hj hn]
  exact k1 H locs ls F R S L
theorem ex_aald4 {a n j : Nat} {f : Nat → Option Nat} {x : Int32} (he : h a = some (aQ G 4 n f)) (hx : x = nI j) (hj : j < n) (hn : n < 2 ^ 31) (dg : decode cc pc = .ok (.aaload, 1)) (k1 : ex G l X Q d mc ms cs sl cc own nL ret h z (pc + 1) lv (va_rf (f j) :: st)) : ex G l X Q d mc ms cs sl cc own nL ret h z pc lv (.int x :: .ref a :: st) := by
  intro H locs ls F R S L
  subst hx
  refine va_aldq (D := G.1) (cl := vwCl) (tys := tyG G) (ws := [(a, aQ G 4 n f)]) F.1 F.2.1 F.2.2.2.2.2.2.2.1 (R.P he) 0 4 rfl rfl (vp_in_nI hj hn) dg ?_
  rw [nI_c hj hn]
  exact k1 H locs ls F R S L
theorem ex_iast {a n j : Nat} {f : Nat → Int32} {x v : Int32} (he : h a = some (aA G 0 n f)) (hx : x = nI j) (hj : j < n) (hn : n < 2 ^ 31) (dg : decode cc pc = .ok (.iastore, 1)) (k1 : ex G l X Q d mc ms cs sl cc own nL ret (hu h a (aA G 0 n (upd f j v))) z (pc + 1) lv st) : ex G l X Q d mc ms cs sl cc own nL ret h z pc lv (.int v :: .int x :: .ref a :: st) := by
  intro H locs ls F R S L
  subst hx
  have hK := F.2.2.2.2.2.2.2.1
  have hP : H[a]? = some (vp_cell (G.2.1 0) (n, .inl f)) := (R.2.2 _ _ he).2
  refine W.iast F.1 F.2.1 hP ((hK.2 0 _ rfl).1 n (fun j => .int (f j))) (fun q => by cases q) (by show ¬ (nI j < 0 ∨ (arrV _ _ _).slots.size ≤ _); rw [arrV_size]; exact vp_in_nI hj hn) rfl rfl dg fun H1 e z1 oq => ?_
  refine k1 H1 _ ls F (R.put he z1 oq ?_) (S.put z1 oq (R.2.2 _ _ he).1) L
  show H1[a]? = some (vp_cell _ _)
  rw [e, nI_c hj hn, vp_cell_i, vp_cell_i, arrV_store]
  congr 2
  funext q
  by_cases hq : q = j
  · subst hq
    simp [updV, upd]
  · simp [updV, upd, hq]
theorem ex_cast {a n j : Nat} {f : Nat → Int32} {x v : Int32} (he : h a = some (aA G 1 n f)) (hx : x = nI j) (hj : j < n) (hn : n < 2 ^ 31) (dg : decode cc pc = .ok (.castore, 1)) (k1 : ex G l X Q d mc ms cs sl cc own nL ret (hu h a (aA G 1 n (upd f j (vp_nar .char v)))) z (pc + 1) lv st) : ex G l X Q d mc ms cs sl cc own nL ret h z pc lv (.int v :: .int x :: .ref a :: st) := by
  intro H locs ls F R S L
  subst hx
  have hK := F.2.2.2.2.2.2.2.1
  have hP : H[a]? = some (vp_cell (G.2.1 1) (n, .inl f)) := (R.2.2 _ _ he).2
  refine W.cast F.1 F.2.1 hP ((hK.2 1 _ rfl).1 n (fun j => .int (f j))) (fun q => by cases q) (by show ¬ (nI j < 0 ∨ (arrV _ _ _).slots.size ≤ _); rw [arrV_size]; exact vp_in_nI hj hn) rfl rfl dg fun H1 e z1 oq => ?_
  refine k1 H1 _ ls F (R.put he z1 oq ?_) (S.put z1 oq (R.2.2 _ _ he).1) L
  show H1[a]? = some (vp_cell _ _)
  rw [e, nI_c hj hn, vp_cell_i, vp_cell_i, arrV_store]
  congr 2
  funext q
  by_cases hq : q = j
  · subst hq
    simp [updV, upd, vp_nar]
    try rfl
  · simp [updV, upd, hq]
theorem ex_zast {a n j : Nat} {f : Nat → Int32} {x v : Int32} (he : h a = some (aA G 2 n f)) (hx : x = nI j) (hj : j < n) (hn : n < 2 ^ 31) (dg : decode cc pc = .ok (.bastore, 1)) (k1 : ex G l X Q d mc ms cs sl cc own nL ret (hu h a (aA G 2 n (upd f j (vp_nar .boolean v)))) z (pc + 1) lv st) : ex G l X Q d mc ms cs sl cc own nL ret h z pc lv (.int v :: .int x :: .ref a :: st) := by
  intro H locs ls F R S L
  subst hx
  have hK := F.2.2.2.2.2.2.2.1
  have hP : H[a]? = some (vp_cell (G.2.1 2) (n, .inl f)) := (R.2.2 _ _ he).2
  refine W.zast F.1 F.2.1 hP ((hK.2 2 _ rfl).1 n (fun j => .int (f j))) (fun q => by cases q) (by show ¬ (nI j < 0 ∨ (arrV _ _ _).slots.size ≤ _); rw [arrV_size]; exact vp_in_nI hj hn) rfl rfl dg fun H1 e z1 oq => ?_
  refine k1 H1 _ ls F (R.put he z1 oq ?_) (S.put z1 oq (R.2.2 _ _ he).1) L
  show H1[a]? = some (vp_cell _ _)
  rw [e, nI_c hj hn, vp_cell_i, vp_cell_i, arrV_store]
  congr 2
  funext q
  by_cases hq : q = j
  · subst hq
    simp [updV, upd, vp_nar]
    try rfl
  · simp [updV, upd, hq]
/-- a reference is put into an array of its own class: t is the array's kind, ci the object's -/
theorem ex_aast {t ci a n j v : Nat} {f : Nat → Option Nat} {x : Int32} {vs : List Value} {r : vw_C} (hc : vwCl[ci]? = some r) (ht : (tyG G)[t]? = some (G.2.1 t, .object r.1)) (he : h a = some (aQ G t n f)) (hv : h v = some (.inr (ci, vs))) (hx : x = nI j) (hj : j < n) (hn : n < 2 ^ 31) (dg : decode cc pc = .ok (.aastore, 1)) (k1 : ex G l X Q d mc ms cs sl cc own nL ret (hu h a (aQ G t n (va_up f j (some v)))) z (pc + 1) lv st) : ex G l X Q d mc ms cs sl cc own nL ret h z pc lv (.ref v :: .int x :: .ref a :: st) := by
  intro H locs ls F R S L
  subst hx
  have hK := F.2.2.2.2.2.2.2.1
  have hP : H[a]? = some (vp_cell (G.2.1 t) (n, .inr (.inr (.inr (.inr f))))) := (R.2.2 _ _ he).2
  obtain ⟨-, r', hr', cellV, g1, g2, g3, -⟩ := R.2.2 _ _ hv
  have hcls := (hK.1 ci r hc).2
  obtain ⟨kA, comp, k1', k2, k3, -⟩ := (hK.2 t _ ht).2
  have hcomp : comp = G.1.1 ci := Option.some.inj (k3.symm.trans hcls.1)
  subst hcomp
  obtain ⟨kC, hkC, -⟩ := hcls.2
  have h0 : ¬ nI j < 0 := fun q => vp_in_nI hj hn (Or.inl q)
  refine W.aast F.1 F.2.1 hP (fun q h => by cases h) (fun h => by cases h) k1' k2 rfl hkC ⟨h0, by show _ < (arrV _ _ _).slots.size; rw [arrV_size, nI_c hj hn]; exact hj⟩ g1 (fun q h => by rw [g3] at h; cases h) (by rw [g2]; exact hkC) (by rw [g2]; exact va_assign hcls) rfl rfl dg fun H1 e z1 oq => ?_
  refine k1 H1 _ ls F (R.put he z1 oq ?_) (S.put z1 oq (R.2.2 _ _ he).1) L
  show H1[a]? = some (vp_cell _ _)
  rw [e, nI_c hj hn, vp_cell_q, vp_cell_q, arrV_store]
  congr 2
  funext q
  by_cases hq : q = j
  · subst hq
    simp [updV, va_up, va_rf]
  · simp [updV, va_up, hq]
theorem ex_alen {a t n : Nat} {x : (Nat → Int32) ⊕ (Nat → Int64) ⊕ (Nat → UInt32) ⊕ (Nat → UInt64) ⊕ (Nat → Option Nat)} {ty : FieldType} (ht : (tyG G)[t]? = some (G.2.1 t, ty)) (he : h a = some (.inl (G.2.1 t, n, x))) (dg : decode cc pc = .ok (.arraylength, 1)) (k1 : ex G l X Q d mc ms cs sl cc own nL ret h z (pc + 1) lv (.int (nI n) :: st)) : ex G l X Q d mc ms cs sl cc own nL ret h z pc lv (.ref a :: st) := by
  intro H locs ls F R S L
  exact va_alen (D := G.1) (cl := vwCl) (tys := tyG G) (ws := [(a, .inl (G.2.1 t, n, x))]) F.1 F.2.1 F.2.2.2.2.2.2.2.1 (R.P he) 0 t rfl ht rfl dg (k1 H locs ls F R S L)
/-- the static rows -/
theorem ex_gets {idx k : Nat} (hk : k < 3) (hl : Cond.fieldLink own idx RX4 (stN k) "[I" ∈ TW) (dg : decode cc pc = .ok (.getstatic idx, 3)) (k1 : ex G l X Q d mc ms cs sl cc own nL ret h z (pc + 3) lv (.ref (G.2.2.2 k) :: st)) : ex G l X Q d mc ms cs sl cc own nL ret h z pc lv st := by
  intro H locs ls F R S L
  exact va_gets F.1 F.2.1 (F.2.2.2.2.2.2.2.2.1 k hk).1 S F.2.2.2.1 (F.2.2.2.2.1 _ hl) (fun _ h => h) dg (k1 H locs ls F R S L)
theorem ex_getsN (ho : own = RX3) (dg : decode cc pc = .ok (.getstatic 9, 3)) (k1 : ex G l X Q d mc ms cs sl cc own nL ret h z (pc + 3) lv (.ref (G.2.2.2 0) :: st)) : ex G l X Q d mc ms cs sl cc own nL ret h z pc lv st := by
  intro H locs ls F R S L
  subst ho
  have hN := F.2.2.2.2.2.2.2.2.2.2.2.2.2.2
  exact va_getsN F.1 F.2.1 (F.2.2.2.2.2.2.2.2.1 0 (by decide)).1 S F.2.2.2.1 (va_Nw.use rfl hN) (fun _ h => h) dg (k1 H locs ls F R S L)
theorem ex_tld {k j : Nat} {x : Int32} (hk : k < 3) (hx : x = nI j) (hj : j < 6) (dg : decode cc pc = .ok (.iaload, 1)) (k1 : ex G l X Q d mc ms cs sl cc own nL ret h z (pc + 1) lv (.int (stV k j) :: st)) : ex G l X Q d mc ms cs sl cc own nL ret h z pc lv (.int x :: .ref (G.2.2.2 k) :: st) := by
  intro H locs ls F R S L
  subst hx
  exact va_ti F.1 F.2.1 (F.2.2.2.2.2.2.2.2.1 k hk).2.T S (vp_in_nI hj (by decide)) (by rw [nI_c hj (by decide)]) dg (k1 H locs ls F R S L)
theorem ex_tlen {k : Nat} (hk : k < 3) (dg : decode cc pc = .ok (.arraylength, 1)) (k1 : ex G l X Q d mc ms cs sl cc own nL ret h z (pc + 1) lv (.int (nI 6) :: st)) : ex G l X Q d mc ms cs sl cc own nL ret h z pc lv (.ref (G.2.2.2 k) :: st) := by
  intro H locs ls F R S L
  exact va_tlen F.1 F.2.1 (F.2.2.2.2.2.2.2.2.1 k hk).2.T S rfl dg (k1 H locs ls F R S L)
end EA
end
section
section EB
variable {G : GG} {l : Launch} {X : CT} {Q : State → Prop} {d mc ms cs sl : Nat} {cc : ByteArray} {own : String} {nL : Nat} {ret : Option FieldType} {h : HP} {z pc : Nat} {lv : List (Nat × Value)} {st : List Value}
theorem ex_newaI {n : Nat} (hw : Cond.arrayClass .int ∈ TW) (hn : n < 100000) (hc : cs + 1 ≤ mc) (hs : sl + n ≤ ms) (dg : decode cc pc = .ok (.newarray .int, 2)) (k1 : ex G l X Q d mc ms (cs + 1) (sl + n) cc own nL ret (hu h z (aA G 0 n (fun _ => 0))) (z + 1) (pc + 2) lv (.ref z :: st)) : ex G l X Q d mc ms cs sl cc own nL ret h z pc lv (.int (nI n) :: st) := by
  intro H locs ls F R S L
  have hb : n * componentBytes (newarray.typeOf .int) ≤ 536870912 := by
    show n * 4 ≤ _
    omega
  refine va_newaK (atype := .int) F.1 F.2.1 (F.2.2.2.2.1 _ hw) rfl dg rfl (nI_pos (by omega)) (nI_clamp (by omega)) hb hc hs R.1 fun H1 cA e1 z1 o1 hAr hNm => ?_
  obtain rfl : cA = G.2.1 0 := Option.some.inj (hNm.symm.trans (F.2.2.2.2.2.2.2.1.2 0 _ rfl).2)
  exact k1 H1 locs ls F (R.new z1 o1 e1) (vS_new S (by rw [R.1]; exact z1) (fun q hq => o1 q (by rw [← R.1]; exact hq))) L
theorem ex_newaC {n : Nat} (hw : Cond.arrayClass .char ∈ TW) (hn : n < 100000) (hc : cs + 1 ≤ mc) (hs : sl + n ≤ ms) (dg : decode cc pc = .ok (.newarray .char, 2)) (k1 : ex G l X Q d mc ms (cs + 1) (sl + n) cc own nL ret (hu h z (aA G 1 n (fun _ => 0))) (z + 1) (pc + 2) lv (.ref z :: st)) : ex G l X Q d mc ms cs sl cc own nL ret h z pc lv (.int (nI n) :: st) := by
  intro H locs ls F R S L
  have hb : n * componentBytes (newarray.typeOf .char) ≤ 536870912 := by
    show n * 2 ≤ _
    omega
  refine va_newaK (atype := .char) F.1 F.2.1 (F.2.2.2.2.1 _ hw) rfl dg rfl (nI_pos (by omega)) (nI_clamp (by omega)) hb hc hs R.1 fun H1 cA e1 z1 o1 hAr hNm => ?_
  obtain rfl : cA = G.2.1 1 := Option.some.inj (hNm.symm.trans (F.2.2.2.2.2.2.2.1.2 1 _ rfl).2)
  exact k1 H1 locs ls F (R.new z1 o1 e1) (vS_new S (by rw [R.1]; exact z1) (fun q hq => o1 q (by rw [← R.1]; exact hq))) L
theorem ex_newaZ {n : Nat} (hw : Cond.arrayClass .boolean ∈ TW) (hn : n < 100000) (hc : cs + 1 ≤ mc) (hs : sl + n ≤ ms) (dg : decode cc pc = .ok (.newarray .boolean, 2)) (k1 : ex G l X Q d mc ms (cs + 1) (sl + n) cc own nL ret (hu h z (aA G 2 n (fun _ => 0))) (z + 1) (pc + 2) lv (.ref z :: st)) : ex G l X Q d mc ms cs sl cc own nL ret h z pc lv (.int (nI n) :: st) := by
  intro H locs ls F R S L
  have hb : n * componentBytes (newarray.typeOf .boolean) ≤ 536870912 := by
    show n * 1 ≤ _
    omega
  refine va_newaK (atype := .boolean) F.1 F.2.1 (F.2.2.2.2.1 _ hw) rfl dg rfl (nI_pos (by omega)) (nI_clamp (by omega)) hb hc hs R.1 fun H1 cA e1 z1 o1 hAr hNm => ?_
  obtain rfl : cA = G.2.1 2 := Option.some.inj (hNm.symm.trans (F.2.2.2.2.2.2.2.1.2 2 _ rfl).2)
  exact k1 H1 locs ls F (R.new z1 o1 e1) (vS_new S (by rw [R.1]; exact z1) (fun q hq => o1 q (by rw [← R.1]; exact hq))) L
theorem ex_anew {idx t n : Nat} {C : String} (ht : (tyG G)[t]? = some (G.2.1 t, .object C)) (hw : Cond.classLink own idx C ∈ TW) (hC : C = RX2 ∨ C = RX3) (hn : n < 100000) (hc : cs + 1 ≤ mc) (hs : sl + n ≤ ms) (dg : decode cc pc = .ok (.anewarray idx, 3)) (k1 : ex G l X Q d mc ms (cs + 1) (sl + n) cc own nL ret (hu h z (aQ G t n (fun _ => none))) (z + 1) (pc + 3) lv (.ref z :: st)) : ex G l X Q d mc ms cs sl cc own nL ret h z pc lv (.int (nI n) :: st) := by
  intro H locs ls F R S L
  have hAO : va_AO C X.2.2.1 := by
    rcases hC with rfl | rfl
    · exact F.2.2.2.2.2.2.2.2.2.1
    · exact F.2.2.2.2.2.2.2.2.2.2.1
  have hcl : (nI n).toNatClampNeg = n := nI_clamp (by omega)
  refine W.anew F.1 F.2.1 F.2.2.2.1 (F.2.2.2.2.1 _ hw) (va_AO.use hAO) rfl dg rfl (nI_pos (by omega)) (by rw [hcl]; omega) hc (by rw [hcl]; exact hs) fun cA kA comp f1 f2 f3 f4 => ?_
  rw [hcl]
  obtain ⟨kA', comp', -, -, -, g4⟩ := (F.2.2.2.2.2.2.2.1.2 t _ ht).2
  obtain rfl : cA = G.2.1 t := Option.some.inj (f1.symm.trans g4)
  have hz : H.size = z := R.1
  rw [hz]
  refine k1 _ locs ls F (R.new (by rw [Array.size_push, hz]) (fun q hq => by rw [Array.getElem?_push, if_neg (by omega)]) ?_) (vS_new S (by rw [Array.size_push]) (fun q hq => by rw [Array.getElem?_push, if_neg (by omega)])) L
  show (H.push _)[z]? = some (vp_cell _ _)
  rw [← hz, Array.getElem?_push_size, vp_cell_q, arrV_new]
  rfl
theorem ex_cast0 {idx t n a : Nat} {f : Nat → Int32} (hw : Cond.classLink own idx "[I" ∈ TW) (he : h a = some (aA G 0 n f)) (dg : decode cc pc = .ok (.checkcast idx, 3)) (k1 : ex G l X Q d mc ms cs sl cc own nL ret h z (pc + 3) lv (.ref a :: st)) : ex G l X Q d mc ms cs sl cc own nL ret h z pc lv (.ref a :: st) := by
  intro H locs ls F R S L
  exact va_castA (D := G.1) (cl := vwCl) (ws := [(a, aA G 0 n f)]) F.1 F.2.1 F.2.2.2.1 (F.2.2.2.2.1 _ hw) (R.P he) 0 rfl (F.2.2.2.2.2.2.2.1.2 0 _ rfl).2 dg (k1 H locs ls F R S L)
abbrev yClone (c : String) : MethodName := ⟨c, "clone", "()Ljava/lang/Object;"⟩
theorem ex_clone {idx k : Nat} (hk : k < 3) (w1 : Cond.methodLink own idx (yClone "[I") ∈ TW) (w2 : Cond.sameMethod "[I" "java/lang/Object" "clone" "()Ljava/lang/Object;" ∈ TW) (w3 : Cond.native (yClone "java/lang/Object") ∈ TW) (w4 : Cond.instanceMethod (yClone "java/lang/Object") ∈ TW) (w5 : Cond.selects "[I" (yClone "[I") (yClone "java/lang/Object") ∈ TW)
    (hd : 1 ≤ d) (hst : (st.map fun v => v.category).sum ≤ 8) (hc : cs + 1 ≤ mc) (hs : sl + 6 ≤ ms) (dg : decode cc pc = .ok (.invokevirtual idx, 3)) (k1 : ex G l X Q d mc ms (cs + 1) (sl + 6) cc own nL ret (hu h z (aA G 0 6 (stV k))) (z + 1) (pc + 3) lv (.ref z :: st)) : ex G l X Q d mc ms cs sl cc own nL ret h z pc lv (.ref (G.2.2.2 k) :: st) := by
  intro H locs ls F R S L T hT XX
  have hts := F.2.2.2.2.1
  have hK := F.2.2.2.2.2.2.2.1
  obtain ⟨cell, s1, s2, s3, s4, s5, s6, s7⟩ := (F.2.2.2.2.2.2.2.2.1 k hk).2
  have hcl := F.2.2.2.2.2.2.2.2.2.2.2.1
  have hnm : X.2.2.1.vm.findClass "[I" = some (G.2.1 0) := (hK.2 0 _ rfl).2
  obtain ⟨c0, t0', f1, f2, f3⟩ := Cond.castable_spec (va_Nw.use (A := X.2.2.2.2.1) rfl hcl)
  cases hnm.symm.trans f1
  have hcell : H[G.2.2.2 k]? = some cell := by rw [S.2.1 _ (Array.getElem?_eq_some_iff.mp s1).1 s7]; exact s1
  obtain ⟨hobj, kS, hkS, compS, hkindS⟩ := s2
  obtain ⟨-, kA, hkA, comp, hkind⟩ := State.isArrayOf_alike XX.warmed.alike ((hK.2 0 _ rfl).1 0 (fun _ => .null))
  have hvm : cell = ({ cls := cell.cls, slots := cell.slots, vm := cell.vm, monitor := cell.monitor } : Cell) ∨ True := Or.inr trivial
  obtain ⟨vm', X', stp⟩ := XX.cloneArray F.1 F.2.2.2.1 (hts _ w1) (hts _ w2) (hts _ w3) (hts _ w4) (hts _ w5) (a := G.2.2.2 k) (cell := cell) (by rw [hT]; exact hcell) hobj s3 (by rw [s6]; exact hnm) f2 (by rw [s6]; exact f3)
    (fun i v hv => by
      have hi : i < 6 := by rw [← s4]; exact (Array.getElem?_eq_some_iff.mp hv).1
      rw [s5 i hi] at hv
      cases hv
      rw [s6]
      have hk' : T.vm.classes[G.2.1 0]? = some kA := hkA
      simp [State.fitsSlot, State.slotType?, hk', hkind, fits])
    (g := F0 X.2.2.2.1 pc ls (.ref (G.2.2.2 k) :: st)) rfl (by show ls.size = _; rw [L.1]; exact F.2.2.1.symm) rfl (by rw [F.2.1]; exact dg) hd (by show 2 * 0 + _ + 14 ≤ 36 * d; omega) hc (by rw [s4]; exact hs) (hloader := Vm.clonesLoader_of_array hkS hkindS)
  have hce : ({ cls := cell.cls, slots := cell.slots } : Cell) = vp_cell (G.2.1 0) (6, .inl (stV k)) := by
    have e : cell.slots = (arrV (G.2.1 0) 6 (fun j => .int (stV k j))).slots := by
      apply Array.ext_getElem?
      intro i
      by_cases hi : i < 6
      · rw [s5 i hi, arrV_read _ _ hi]
      · rw [Array.getElem?_eq_none (by omega), Array.getElem?_eq_none (by rw [arrV_size]; omega)]
    rw [e, s6]
    rfl
  rw [hce, s4] at X'
  rw [hce, hT] at stp
  have hz : H.size = z := R.1
  obtain ⟨t2, a1, b1⟩ := k1 (H.push (vp_cell (G.2.1 0) (6, .inl (stV k)))) locs ls F (R.new (by rw [Array.size_push, hz]) (fun q hq => by rw [Array.getElem?_push, if_neg (by omega)]) (by show (H.push _)[z]? = some (vp_cell _ _); rw [← hz, Array.getElem?_push_size])) (vS_new S (by rw [Array.size_push]) (fun q hq => by rw [Array.getElem?_push, if_neg (by omega)])) L
    ((T.setVm vm').pushCell (vp_cell (G.2.1 0) (6, .inl (stV k)))) (by rw [← hT]; rfl) X'
  refine ⟨t2, stp t2 ?_, b1⟩
  rw [hz]
  exact a1
theorem ex_objInit {idx a : Nat} (w1 : Cond.methodLink own idx objectInit ∈ TW) (w2 : Cond.instanceMethod objectInit ∈ TW) (w3 : Cond.code objectInit ⟨#[0xb1]⟩ 1 none ∈ TW) (hd : 1 ≤ d) (hst : (st.map fun v => v.category).sum ≤ 8) (dg : decode cc pc = .ok (.invokespecial idx, 3)) (k1 : ex G l X Q d mc ms cs sl cc own nL ret h z (pc + 3) lv st) : ex G l X Q d mc ms cs sl cc own nL ret h z pc lv (.ref a :: st) := by
  intro H locs ls F R S L
  have hts := F.2.2.2.2.1
  exact W.objInit F.1 F.2.1 F.2.2.2.1 (hts _ w1) (hts _ w2) (hts _ w3) rfl (by show ls.size = _; rw [L.1]; exact F.2.2.1.symm) rfl dg hd (by show 2 * 0 + _ + 12 ≤ 36 * d; omega) (k1 H locs ls F R S L)
/-- System.arraycopy between two rows of ints, from the start -/
theorem ex_copy {idx a0 a n n0 n1 : Nat} {f g : Nat → Int32} (w1 : Cond.methodLink own idx arraycopyName ∈ TW) (w2 : Cond.native arraycopyName ∈ TW) (w3 : Cond.static arraycopyName ∈ TW) (w4 : Cond.initialized "java/lang/System" ∈ TW) (he0 : h a0 = some (aA G 0 n0 f)) (he : h a = some (aA G 0 n1 g)) (h0 : n ≤ n0) (h1 : n ≤ n1) (hn : n < 100000) (hd : 1 ≤ d) (hst : (st.map fun v => v.category).sum ≤ 8) (dg : decode cc pc = .ok (.invokestatic idx, 3)) (k1 : ex G l X Q d mc ms cs sl cc own nL ret (hu h a (aA G 0 n1 (va_cpy f g 0 0 n))) z (pc + 3) lv st) : ex G l X Q d mc ms cs sl cc own nL ret h z pc lv (.int (nI n) :: .int (nI 0) :: .ref a :: .int (nI 0) :: .ref a0 :: st) := by
  intro H locs ls F R S L T hT XX
  have hts := F.2.2.2.2.1
  have hK := F.2.2.2.2.2.2.2.1
  have hc0 : H[a0]? = some (vp_cell (G.2.1 0) (n0, .inl f)) := (R.2.2 _ _ he0).2
  have hc1 : H[a]? = some (vp_cell (G.2.1 0) (n1, .inl g)) := (R.2.2 _ _ he).2
  have z0 : (nI 0).toNatClampNeg = 0 := nI_clamp (by decide)
  have zn : (nI n).toNatClampNeg = n := nI_clamp (by omega)
  have hw : nativeFrameWords "java/lang/System" "arraycopy" 5 + 11 ≤ 28 := by decide +kernel
  obtain ⟨-, k0, hk0, cm0, hkk0⟩ := (hK.2 0 _ rfl).1 n0 (fun j => .int (f j))
  obtain ⟨vm', X', stp⟩ := XX.arraycopy F.1 F.2.2.2.1 (hts _ w1) (hts _ w2) (hts _ w3) (hts _ w4) (src := a0) (dst := a) (cs := vp_cell (G.2.1 0) (n0, .inl f)) (cd := vp_cell (G.2.1 0) (n1, .inl g)) (srcPos := nI 0) (destPos := nI 0) (n := nI n) (by rw [hT]; exact hc0) (by rw [hT]; exact hc1)
    (fun _ h => by cases h) (fun _ h => by cases h) (fun h => by cases h) (fun h => by cases h) hk0 hk0 hkk0 hkk0 (by simp [refKind]) (nI_pos (by decide)) (nI_pos (by decide)) (nI_pos (by omega))
    (by rw [nI_toInt (by decide), nI_toInt (by omega)]; show ¬ _ > ((arrV (G.2.1 0) n0 (fun j => .int (f j))).slots.size : Int); rw [arrV_size]; omega)
    (by rw [nI_toInt (by decide), nI_toInt (by omega)]; show ¬ _ > ((arrV (G.2.1 0) n1 (fun j => .int (g j))).slots.size : Int); rw [arrV_size]; omega)
    (fun vm₁ _ i hi => by
      rw [zn] at hi
      have e : (vp_cell (G.2.1 0) (n0, .inl f)).slots.getD ((nI 0).toNatClampNeg + i) .null = .int (f ((nI 0).toNatClampNeg + i)) := by
        show (arrV (G.2.1 0) n0 (fun j => .int (f j))).slots.getD _ _ = _
        rw [Array.getD_eq_getD_getElem?, arrV_read _ _ (by rw [z0]; omega)]
        rfl
      refine ⟨?_, ?_⟩
      · rw [e]
        rfl
      · rw [e]
        exact trivial)
    (g := F0 X.2.2.2.1 pc ls (.int (nI n) :: .int (nI 0) :: .ref a :: .int (nI 0) :: .ref a0 :: st)) rfl (by show ls.size = _; rw [L.1]; exact F.2.2.1.symm) (rest := st) rfl (by rw [F.2.1]; exact dg) hd (by show 2 * 0 + _ + (nativeFrameWords "java/lang/System" "arraycopy" 5 + 11) ≤ 36 * d; omega)
  have e1 : copied (vp_cell (G.2.1 0) (n0, .inl f)) (vp_cell (G.2.1 0) (n1, .inl g)) (nI 0) (nI 0) (nI n) = vp_cell (G.2.1 0) (n1, .inl (va_cpy f g (nI 0).toNatClampNeg (nI 0).toNatClampNeg (nI n).toNatClampNeg)) := va_copied (fun z => .int z) _ _ f g (by rw [z0, zn]; omega)
  rw [z0, zn] at e1
  rw [e1] at X' stp
  have hl : a < H.size := (Array.getElem?_eq_some_iff.mp hc1).1
  have hheap : ((T.setVm vm').setCell a (vp_cell (G.2.1 0) (n1, .inl (va_cpy f g 0 0 n)))).heap = H.setIfInBounds a (vp_cell (G.2.1 0) (n1, .inl (va_cpy f g 0 0 n))) := by rw [← hT]; rfl
  have oq : ∀ q : Nat, q ≠ a → (H.setIfInBounds a (vp_cell (G.2.1 0) (n1, .inl (va_cpy f g 0 0 n))))[q]? = H[q]? := fun q hq => by simp [Array.getElem?_setIfInBounds, Ne.symm hq]
  obtain ⟨t, a1, b1⟩ := k1 _ _ ls F (R.put he (by simp) oq (show (H.setIfInBounds a _)[a]? = some (vp_cell _ _) by simp [Array.getElem?_setIfInBounds, hl])) ⟨by simp; exact S.1, fun q g1 g2 => by
      rw [oq q (fun e => g2 (by rw [e]; exact (R.2.2 _ _ he).1))]
      exact S.2.1 q g1 g2, fun q hq => by
      rcases List.mem_append.mp hq with h | h
      · exact S.2.2 q h
      · obtain ⟨z, -, hz⟩ := List.mem_map.mp h
        rw [← hz]
        exact (R.2.2 _ _ he).1⟩ L _ hheap X'
  exact ⟨t, stp t a1, b1⟩
end EB
end
section
/-! calls by contract, and ends -/
abbrev notMH (y : MethodName) : Prop := y.cls ≠ "java/lang/invoke/MethodHandle" ∧ y.cls ≠ "java/lang/invoke/VarHandle"
/-- what every call needs of the tables -/
def VB (own : String) (idx : Nat) (y : MethodName) (cy : ByteArray) (ny : Nat) (ry : Option FieldType) (n : Nat) : Prop := Cond.methodLink own idx y ∈ TW ∧ Cond.initialized y.cls ∈ TW ∧ Cond.code y cy ny ry ∈ TW ∧ y.cls ≠ "java/lang/invoke/MethodHandle" ∧ y.cls ≠ "java/lang/invoke/VarHandle" ∧ (parseMethodDescriptor y.desc).map (fun d => d.parameters.length) = some n ∧ ny ≤ 17
def VV (own : String) (idx : Nat) (y : MethodName) (cy : ByteArray) (ny : Nat) (ry : Option FieldType) (n : Nat) : Prop := VB own idx y cy ny ry n ∧ Cond.instanceMethod y ∈ TW ∧ Cond.selects y.cls y y ∈ TW
def VS (own : String) (idx : Nat) (y : MethodName) (cy : ByteArray) (ny : Nat) (ry : Option FieldType) (n : Nat) : Prop := VB own idx y cy ny ry n ∧ Cond.static y ∈ TW
def VI (own : String) (idx : Nat) (y : MethodName) (cy : ByteArray) (ny : Nat) (n : Nat) : Prop := VB own idx y cy ny none n ∧ Cond.instanceMethod y ∈ TW ∧ y.name = "<init>"
theorem tw_cons {w : Cond} (h : w ∈ TW) : GoodIn TW (w :: TW) := fun v hv => by
  rcases List.mem_cons.mp hv with rfl | hv
  · exact tw_good _ h
  · exact tw_good _ hv
theorem PC.blind {G : GG} {as : List Value} {h : HP} {z : Nat} : FrameBlind (PC G as h z) := fun _ _ _ _ q => ⟨q.1, q.2.1, KK.calling q.2.2⟩
theorem PC.pre {G : GG} {as : List Value} {h : HP} {z : Nat} {s : State} {H : Heap} {locs : List Loc} (K : KK G s s.heap) (S : va_S (fr G) s.heap H locs) (R : Rel G h z H) : ∀ U : State, U.heap = H → s.WarmedH U.vm → PC G as h z as.toArray U := fun U hU hW => ⟨rfl, by rw [hU]; exact R, by rw [hU]; exact KK.warm hW S.2.1 K⟩
section EC
variable {G : GG} {l : Launch} {X : CT} {Q : State → Prop} {d mc ms cs sl : Nat} {cc : ByteArray} {own : String} {nL : Nat} {ret : Option FieldType} {h : HP} {z pc : Nat} {lv : List (Nat × Value)} {st st0 : List Value}
/-- behind a call -/
theorem ex_behind {m1 s1 : Nat} {as : Array Value} {post : Option Value → HP → Nat → Prop} {H : Heap} {locs : List Loc} {ls : Array Slot} (F : Fx G X cc own nL ret) (R : Rel G h z H) (S : va_S (fr G) X.2.2.1.heap H locs) (L : lv_has ls nL lv)
    (hr : va_Run X.1 l X.2.1 (rmx d mc ms) X.2.2.1 X.2.2.2.1 X.2.2.2.2.1 X.2.2.2.2.2.1 X.2.2.2.2.2.2.1 X.2.2.2.2.2.2.2 H locs cs sl m1 s1 (F0 X.2.2.2.1 pc ls st0) st (QC G post as) (fr G))
    (k1 : ∀ (r : Option Value) (h1 : HP) (z1 : Nat), post r h1 z1 → ex G l X Q d mc ms (cs + m1) (sl + s1) cc own nL ret h1 z1 (pc + 3) lv (r.toList ++ st)) :
    W X.1 l X.2.1 (rmx d mc ms) X.2.2.1 X.2.2.2.1 X.2.2.2.2.1 X.2.2.2.2.2.1 X.2.2.2.2.2.2.1 X.2.2.2.2.2.2.2 H locs cs sl Q (F0 X.2.2.2.1 pc ls st0) := by
  intro T hT XX
  obtain ⟨v, st₀, t, T', L1, g0, X', hL, e1, e2, ⟨⟨r, h1, z1, hv, hp, hR1⟩, hz, hk⟩, stp⟩ := hr T hT XX
  cases hv
  rw [g0] at hz hk
  obtain ⟨t2, a1, b1⟩ := k1 v h1 z1 hp T'.heap (locs ++ L1) ls F (by rw [e1]; exact hR1)
    ⟨Nat.le_trans S.1 (by rw [e1]; exact hz), fun q g1 g2 => by rw [e1, hk q (Nat.lt_of_lt_of_le g1 S.1) g2]; exact S.2.1 q g1 g2, fun q hq => by
      rcases List.mem_append.mp hq with h | h
      · exact S.2.2 q h
      · exact hL q h⟩ L T' rfl X'
  exact ⟨t2, stp t2 a1, b1⟩
theorem ex_callV {idx a n ci d1 m1 s1 ny : Nat} {y : MethodName} {cy : ByteArray} {ry : Option FieldType} {As : List Value} {fs : List Value} {post : Option Value → HP → Nat → Prop} (V : VV own idx y cy ny ry n) (hC : vwCl[ci]?.map (fun q => q.1) = some y.cls) (K : Ct G l d1 m1 s1 y cy ny ry (.ref a :: As) h z post) (he : h a = some (.inr (ci, fs))) (hn : As.length = n) (hd : d1 + 1 ≤ d) (hst : (st.map fun v => v.category).sum ≤ 8) (hc : cs + m1 ≤ mc) (hs : sl + s1 ≤ ms) (stk : st0 = As.reverse ++ .ref a :: st) (dg : decode cc pc = .ok (.invokevirtual idx, 3))
    (k1 : ∀ (r : Option Value) (h1 : HP) (z1 : Nat), post r h1 z1 → ex G l X Q d mc ms (cs + m1) (sl + s1) cc own nL ret h1 z1 (pc + 3) lv (r.toList ++ st)) : ex G l X Q d mc ms cs sl cc own nL ret h z pc lv st0 := by
  intro H locs ls F R S L
  obtain ⟨⟨v1, v2, v3, v4, v5, v6, v7⟩, v8, v9⟩ := V
  have hts := F.2.2.2.2.1
  have hK := F.2.2.2.2.2.2.2.1
  obtain ⟨qc, hqc, hqn⟩ : ∃ qc, vwCl[ci]? = some qc ∧ qc.1 = y.cls := by
    cases hq : vwCl[ci]? with
    | none => rw [hq] at hC; cases hC
    | some qc => rw [hq] at hC; exact ⟨qc, rfl, Option.some.inj hC⟩
  have hrecv := va_recv (s := X.2.2.1) (D := G.1) (cl := vwCl) (tys := tyG G) hK (R.P he) hqc (q0 := 0) rfl
  rw [hqn] at hrecv
  have hcw : CallW (rmx d mc ms) X.2.2.1 X.2.2.2.2.1 own y.cls idx y cy ny ry (Cond.code y cy ny ry :: TW) (rmx d1 m1 s1) m1 s1 n :=
    ⟨callB_of n hts (tw_cons v3) rfl rfl rfl (hts _ v2) (hts _ v1) ⟨v4, v5, v6⟩ ⟨by show d1 + 1 ≤ d; exact hd, by show 8 + (ny + 11) + 36 * d1 ≤ 36 * d; omega⟩, hts _ v8, hts _ v9⟩
  have hr := va_runV (p := X.1) (l := l) (e := X.2.1) (below := X.2.2.2.2.2.1) (meth := X.2.2.2.2.2.2.1) (H := H) (locs := locs) (cells := cs) (slots := sl) (g := F0 X.2.2.2.1 pc ls st0) (rest := st) (As := As) (b := a) (nL := nL) (Ts := TW) (cc := cc) ⟨F.1, F.2.1, F.2.2.1, F.2.2.2.1, hts⟩ K hcw ⟨PC.blind, hrecv, PC.pre F.2.2.2.2.2.2.2 S R⟩ rfl hn L.1 stk (lv_room hst) dg ⟨hc, hs⟩
  exact ex_behind F R S L hr k1
theorem ex_callS {idx n d1 m1 s1 ny : Nat} {y : MethodName} {cy : ByteArray} {ry : Option FieldType} {As : List Value} {post : Option Value → HP → Nat → Prop} (V : VS own idx y cy ny ry n) (K : Ct G l d1 m1 s1 y cy ny ry As h z post) (hn : As.length = n) (hd : d1 + 1 ≤ d) (hst : (st.map fun v => v.category).sum ≤ 8) (hc : cs + m1 ≤ mc) (hs : sl + s1 ≤ ms) (stk : st0 = As.reverse ++ st) (dg : decode cc pc = .ok (.invokestatic idx, 3))
    (k1 : ∀ (r : Option Value) (h1 : HP) (z1 : Nat), post r h1 z1 → ex G l X Q d mc ms (cs + m1) (sl + s1) cc own nL ret h1 z1 (pc + 3) lv (r.toList ++ st)) : ex G l X Q d mc ms cs sl cc own nL ret h z pc lv st0 := by
  intro H locs ls F R S L
  obtain ⟨⟨v1, v2, v3, v4, v5, v6, v7⟩, v8⟩ := V
  have hts := F.2.2.2.2.1
  have hcw : CallB (rmx d mc ms) X.2.2.1 X.2.2.2.2.1 own idx y cy ny ry (Cond.code y cy ny ry :: TW) (rmx d1 m1 s1) m1 s1 n ∧ (Cond.static y).before X.2.2.2.2.1 X.2.2.1 = true :=
    ⟨callB_of n hts (tw_cons v3) rfl rfl rfl (hts _ v2) (hts _ v1) ⟨v4, v5, v6⟩ ⟨by show d1 + 1 ≤ d; exact hd, by show 8 + (ny + 11) + 36 * d1 ≤ 36 * d; omega⟩, hts _ v8⟩
  have hr := va_runS (p := X.1) (l := l) (e := X.2.1) (below := X.2.2.2.2.2.1) (meth := X.2.2.2.2.2.2.1) (H := H) (locs := locs) (cells := cs) (slots := sl) (g := F0 X.2.2.2.1 pc ls st0) (rest := st) (As := As) (nL := nL) (Ts := TW) (cc := cc) ⟨F.1, F.2.1, F.2.2.1, F.2.2.2.1, hts⟩ K hcw ⟨PC.blind, PC.pre F.2.2.2.2.2.2.2 S R⟩ rfl hn L.1 stk (lv_room hst) dg ⟨hc, hs⟩
  exact ex_behind F R S L hr k1
theorem ex_callI {idx a n d1 m1 s1 ny : Nat} {y : MethodName} {cy : ByteArray} {As : List Value} {post : Option Value → HP → Nat → Prop} (V : VI own idx y cy ny n) (K : Ct G l d1 m1 s1 y cy ny none (.ref a :: As) h z post) (hn : As.length = n) (hd : d1 + 1 ≤ d) (hst : (st.map fun v => v.category).sum ≤ 8) (hc : cs + m1 ≤ mc) (hs : sl + s1 ≤ ms) (stk : st0 = As.reverse ++ .ref a :: st) (dg : decode cc pc = .ok (.invokespecial idx, 3))
    (k1 : ∀ (r : Option Value) (h1 : HP) (z1 : Nat), post r h1 z1 → ex G l X Q d mc ms (cs + m1) (sl + s1) cc own nL ret h1 z1 (pc + 3) lv (r.toList ++ st)) : ex G l X Q d mc ms cs sl cc own nL ret h z pc lv st0 := by
  intro H locs ls F R S L
  obtain ⟨⟨v1, v2, v3, v4, v5, v6, v7⟩, v8, v9⟩ := V
  have hts := F.2.2.2.2.1
  have hcw : CallB (rmx d mc ms) X.2.2.1 X.2.2.2.2.1 own idx y cy ny none (Cond.code y cy ny none :: TW) (rmx d1 m1 s1) m1 s1 n ∧ y.name = "<init>" ∧ (Cond.instanceMethod y).before X.2.2.2.2.1 X.2.2.1 = true :=
    ⟨callB_of n hts (tw_cons v3) rfl rfl rfl (hts _ v2) (hts _ v1) ⟨v4, v5, v6⟩ ⟨by show d1 + 1 ≤ d; exact hd, by show 8 + (ny + 11) + 36 * d1 ≤ 36 * d; omega⟩, v9, hts _ v8⟩
  have hr := va_runI (p := X.1) (l := l) (e := X.2.1) (below := X.2.2.2.2.2.1) (meth := X.2.2.2.2.2.2.1) (H := H) (locs := locs) (cells := cs) (slots := sl) (g := F0 X.2.2.2.1 pc ls st0) (rest := st) (As := As) (b := a) (nL := nL) (Ts := TW) (cc := cc) ⟨F.1, F.2.1, F.2.2.1, F.2.2.2.1, hts⟩ K hcw ⟨PC.blind, PC.pre F.2.2.2.2.2.2.2 S R⟩ rfl hn L.1 stk (lv_room hst) dg ⟨hc, hs⟩
  exact ex_behind F R S L hr k1
/-- a nest mate's private constructor: its link is carried by KK -/
theorem ex_callIN {idx a n d1 m1 s1 ny : Nat} {y : MethodName} {cy : ByteArray} {As : List Value} {post : Option Value → HP → Nat → Prop} (hw : KK G X.2.2.1 X.2.2.1.heap → va_Nw (.methodLinkNest own idx y RX4) X.2.2.1) (V : Cond.initialized y.cls ∈ TW ∧ Cond.code y cy ny none ∈ TW ∧ y.cls ≠ "java/lang/invoke/MethodHandle" ∧ y.cls ≠ "java/lang/invoke/VarHandle" ∧ (parseMethodDescriptor y.desc).map (fun d => d.parameters.length) = some n ∧ ny ≤ 17 ∧ Cond.instanceMethod y ∈ TW ∧ y.name = "<init>") (K : Ct G l d1 m1 s1 y cy ny none (.ref a :: As) h z post) (hn : As.length = n) (hd : d1 + 1 ≤ d) (hst : (st.map fun v => v.category).sum ≤ 8) (hc : cs + m1 ≤ mc) (hs : sl + s1 ≤ ms) (stk : st0 = As.reverse ++ .ref a :: st) (dg : decode cc pc = .ok (.invokespecial idx, 3))
    (k1 : ∀ (r : Option Value) (h1 : HP) (z1 : Nat), post r h1 z1 → ex G l X Q d mc ms (cs + m1) (sl + s1) cc own nL ret h1 z1 (pc + 3) lv (r.toList ++ st)) : ex G l X Q d mc ms cs sl cc own nL ret h z pc lv st0 := by
  intro H locs ls F R S L
  obtain ⟨v2, v3, v4, v5, v6, v7, v8, v9⟩ := V
  have hts := F.2.2.2.2.1
  have hcw : va_CN (rmx d mc ms) X.2.2.1 X.2.2.2.2.1 own idx y RX4 cy ny none (Cond.code y cy ny none :: TW) (rmx d1 m1 s1) m1 s1 n ∧ y.name = "<init>" ∧ (Cond.instanceMethod y).before X.2.2.2.2.1 X.2.2.1 = true :=
    ⟨va_cnB n hts (tw_cons v3) rfl rfl rfl (hw F.2.2.2.2.2.2.2) (hts _ v2) ⟨v4, v5, v6⟩ ⟨by show d1 + 1 ≤ d; exact hd, by show 8 + (ny + 11) + 36 * d1 ≤ 36 * d; omega⟩, v9, hts _ v8⟩
  have hr := va_runIN (p := X.1) (l := l) (e := X.2.1) (below := X.2.2.2.2.2.1) (meth := X.2.2.2.2.2.2.1) (H := H) (locs := locs) (cells := cs) (slots := sl) (g := F0 X.2.2.2.1 pc ls st0) (rest := st) (As := As) (b := a) (nL := nL) (Ts := TW) (cc := cc) ⟨F.1, F.2.1, F.2.2.1, F.2.2.2.1, hts⟩ K hcw ⟨PC.blind, PC.pre F.2.2.2.2.2.2.2 S R⟩ rfl hn L.1 stk (lv_room hst) dg ⟨hc, hs⟩
  exact ex_behind F R S L hr k1
theorem ex_iret {post : Option Value → HP → Nat → Prop} {v : Int32} (hQ : RQ G X Q cs sl post) (hr : ret = some .int) (hp : post (some (.int v)) h z) (dg : decode cc pc = .ok (.ireturn, 1)) : ex G l X Q d mc ms cs sl cc own nL ret h z pc lv [.int v] := by
  intro H locs ls F R S L
  subst hQ
  exact W.iret F.1 F.2.1 (by rw [← hr]; exact F.2.2.2.2.2.2.1) (fun t ht hW => ⟨⟨_, h, z, rfl, hp, by rw [ht]; exact R⟩, S.F ht⟩) S.2.2 dg F.2.2.2.2.2.1
theorem ex_zret {post : Option Value → HP → Nat → Prop} {v : Int32} {ty : FieldType} (hQ : RQ G X Q cs sl post) (hr : ret = some ty) (hn : narrow ty (.int v) = .int v) (hp : post (some (.int v)) h z) (dg : decode cc pc = .ok (.ireturn, 1)) : ex G l X Q d mc ms cs sl cc own nL ret h z pc lv [.int v] := by
  intro H locs ls F R S L
  subst hQ
  exact W.zret F.1 F.2.1 (by rw [← hr]; exact F.2.2.2.2.2.2.1) hn (fun t ht hW => ⟨⟨_, h, z, rfl, hp, by rw [ht]; exact R⟩, S.F ht⟩) S.2.2 dg F.2.2.2.2.2.1
theorem ex_vret {post : Option Value → HP → Nat → Prop} (hQ : RQ G X Q cs sl post) (hr : ret = none) (hp : post none h z) (dg : decode cc pc = .ok (.return_, 1)) : ex G l X Q d mc ms cs sl cc own nL ret h z pc lv [] := by
  intro H locs ls F R S L
  subst hQ
  exact W.vret F.1 F.2.1 (by rw [← hr]; exact F.2.2.2.2.2.2.1) (fun t ht hW => ⟨⟨_, h, z, rfl, hp, by rw [ht]; exact R⟩, S.F ht⟩) S.2.2 dg F.2.2.2.2.2.1
theorem ex_aret {post : Option Value → HP → Nat → Prop} {v : Value} {n : String} (hQ : RQ G X Q cs sl post) (hr : ret = some (.object n)) (hv : v = .null ∨ ∃ a, v = .ref a) (hp : post (some v) h z) (dg : decode cc pc = .ok (.areturn, 1)) : ex G l X Q d mc ms cs sl cc own nL ret h z pc lv [v] := by
  intro H locs ls F R S L
  subst hQ
  exact W.aret F.1 F.2.1 (by rw [← hr]; exact F.2.2.2.2.2.2.1) (Or.inl ⟨n, rfl⟩) hv (fun t ht hW => ⟨⟨_, h, z, rfl, hp, by rw [ht]; exact R⟩, S.F ht⟩) S.2.2 dg F.2.2.2.2.2.1
theorem ex_widen {c2 s2 : Nat} (h1 : cs ≤ c2) (h2 : sl ≤ s2) (k1 : ex G l X Q d mc ms c2 s2 cc own nL ret h z pc lv st) : ex G l X Q d mc ms cs sl cc own nL ret h z pc lv st := fun H locs ls F R S L => W.widen h1 h2 (k1 H locs ls F R S L)
theorem ex_lv {lv2 : List (Nat × Value)} (ks : List Nat) (hl : lv_pick lv ks = lv2) (k1 : ex G l X Q d mc ms cs sl cc own nL ret h z pc lv2 st) : ex G l X Q d mc ms cs sl cc own nL ret h z pc lv st := fun H locs ls F R S L => k1 H locs ls F R S (lv_sub L ks hl)
/-- a heap that says less -/
theorem ex_h {h2 : HP} (hh : ∀ a e, h2 a = some e → h a = some e) (k1 : ex G l X Q d mc ms cs sl cc own nL ret h2 z pc lv st) : ex G l X Q d mc ms cs sl cc own nL ret h z pc lv st := fun H locs ls F R S L => k1 H locs ls F ⟨R.1, R.2.1, fun a e q => R.2.2 a e (hh a e q)⟩ S L
end EC
end
section
/-! what a state of the system is: n people, the guardian, the turn, the other numbers (in the reference's order), what each person has -/
abbrev AS : Type := Nat × Option Nat × Nat × (Nat → Int32) × (Nat → Nat → Int32)
def gv (g : Option Nat) : Int32 := match g with
  | none => -6
  | some j => nI j
def mg (g : Option Nat) : Int32 := match g with
  | none => -1
  | some j => nI j
def uq (q : Nat → Nat → Int32) (j k : Nat) (v : Int32) : Nat → Nat → Int32 := fun a b => if b = k then (if a = j then v else q a b) else q a b
theorem uq_s {q : Nat → Nat → Int32} {j k : Nat} {v : Int32} : uq q j k v j k = v := by simp [uq]
theorem uq_j {q : Nat → Nat → Int32} {j k a b : Nat} {v : Int32} (h : a ≠ j) : uq q j k v a b = q a b := by simp [uq, h]
theorem uq_k {q : Nat → Nat → Int32} {j k a b : Nat} {v : Int32} (h : b ≠ k) : uq q j k v a b = q a b := by simp [uq, h]
theorem upd_s {u : Nat → Int32} {i : Nat} {v : Int32} : upd u i v i = v := by simp [upd]
theorem upd_n {u : Nat → Int32} {i j : Nat} {v : Int32} (h : j ≠ i) : upd u i v j = u j := by simp [upd, h]
def stF (o : Nat) (A : AS) : List Value := [.ref (o + 1), .ref (o + 2), .int (nI A.1), .int (A.2.2.2.1 8), .int (gv A.2.1), .int (nI A.2.2.1), .int (A.2.2.2.1 11), .int (A.2.2.2.1 6), .int (A.2.2.2.1 12), .int (A.2.2.2.1 13), .int (A.2.2.2.1 14), .int (A.2.2.2.1 15), .int (A.2.2.2.1 16)]
def pF (w : Nat → Int32) : List Value := [.int (w 0), .int (w 1), .int (w 2), .int (w 3), .int (w 4), .int (w 5)]
theorem pF_eq {w v : Nat → Int32} (h : ∀ k, k < 6 → w k = v k) : pF w = pF v := by
  simp [pF, h 0 (by decide), h 1 (by decide), h 2 (by decide), h 3 (by decide), h 4 (by decide), h 5 (by decide)]
/-- a State object at o, its two rows and eight persons behind it -/
def SP (G : GG) (h : HP) (o : Nat) (π : Nat → Nat) (A : AS) : Prop :=
  h o = some (.inr (3, stF o A)) ∧ (∃ f : Nat → Int32, h (o + 1) = some (aA G 0 6 f) ∧ ∀ i, i < 6 → f i = A.2.2.2.1 i) ∧ (∃ r : Nat → Option Nat, h (o + 2) = some (aQ G 3 8 r) ∧ ∀ j, j < 8 → r j = some (o + 3 + π j)) ∧ (∀ j, j < 8 → π j < 8) ∧ (∀ i j, i < 8 → j < 8 → π i = π j → i = j) ∧ (∀ j, j < 8 → ∃ w : Nat → Int32, h (o + 3 + π j) = some (.inr (2, pF w)) ∧ (j < A.1 → ∀ k, k < 6 → w k = A.2.2.2.2 j k))
theorem SP.ob {G : GG} {h : HP} {o : Nat} {π : Nat → Nat} {A : AS} (S : SP G h o π A) : h o = some (.inr (3, stF o A)) := S.1
theorem SP.pe {G : GG} {h : HP} {o j : Nat} {π : Nat → Nat} {A : AS} (S : SP G h o π A) (h8 : j < 8) (hn : j < A.1) : h (o + 3 + π j) = some (.inr (2, pF (A.2.2.2.2 j))) := by
  obtain ⟨w, h1, h2⟩ := S.2.2.2.2.2 j h8
  rw [h1, pF_eq (h2 hn)]
theorem SP.kept {G : GG} {h h1 : HP} {o : Nat} {π : Nat → Nat} {A : AS} (S : SP G h o π A) (q : ∀ a, o ≤ a → a < o + 11 → h1 a = h a) : SP G h1 o π A := by
  obtain ⟨s1, ⟨f, s2, s2'⟩, ⟨r, s3, s3'⟩, s4, s5, s6⟩ := S
  refine ⟨by rw [q o (by omega) (by omega)]; exact s1, ⟨f, by rw [q _ (by omega) (by omega)]; exact s2, s2'⟩, ⟨r, by rw [q _ (by omega) (by omega)]; exact s3, s3'⟩, s4, s5, fun j hj => ?_⟩
  obtain ⟨w, w1, w2⟩ := s6 j hj
  have := s4 j hj
  exact ⟨w, by rw [q _ (by omega) (by omega)]; exact w1, w2⟩
/-- what lies behind the people that there are isn't told -/
theorem SP.to {G : GG} {h : HP} {o : Nat} {π : Nat → Nat} {A B : AS} (S : SP G h o π A) (e1 : B.1 = A.1) (e2 : B.2.1 = A.2.1) (e3 : B.2.2.1 = A.2.2.1) (e4 : ∀ i, i < 17 → i ≠ 7 → i ≠ 9 → i ≠ 10 → B.2.2.2.1 i = A.2.2.2.1 i) (e5 : ∀ j k, j < A.1 → k < 6 → B.2.2.2.2 j k = A.2.2.2.2 j k) : SP G h o π B := by
  obtain ⟨s1, ⟨f, s2, s2'⟩, s3, s4, s5, s6⟩ := S
  refine ⟨?_, ⟨f, s2, fun i hi => by rw [s2' i hi, e4 i (by omega) (by omega) (by omega) (by omega)]⟩, s3, s4, s5, fun j hj => ?_⟩
  · have : stF o B = stF o A := by simp [stF, e1, e2, e3, e4 8 (by decide) (by decide) (by decide) (by decide), e4 11 (by decide) (by decide) (by decide) (by decide), e4 6 (by decide) (by decide) (by decide) (by decide), e4 12 (by decide) (by decide) (by decide) (by decide), e4 13 (by decide) (by decide) (by decide) (by decide), e4 14 (by decide) (by decide) (by decide) (by decide), e4 15 (by decide) (by decide) (by decide) (by decide), e4 16 (by decide) (by decide) (by decide) (by decide)]
    rw [this]; exact s1
  · obtain ⟨w, w1, w2⟩ := s6 j hj
    exact ⟨w, w1, fun hn k hk => by rw [e1] at hn; rw [w2 hn k hk, e5 j k hn hk]⟩
/-- .. and nothing else has changed since h0 -/
def SF (G : GG) (h0 h : HP) (o : Nat) (π : Nat → Nat) (A : AS) : Prop := SP G h o π A ∧ ∀ a, (a < o ∨ o + 11 ≤ a) → h a = h0 a
theorem SP.sf {G : GG} {h : HP} {o : Nat} {π : Nat → Nat} {A : AS} (S : SP G h o π A) : SF G h h o π A := ⟨S, fun _ _ => rfl⟩
theorem SF.trans {G : GG} {h0 h h1 : HP} {o : Nat} {π π1 : Nat → Nat} {A B : AS} (S : SF G h0 h o π A) (S1 : SF G h h1 o π1 B) : SF G h0 h1 o π1 B := ⟨S1.1, fun a ha => (S1.2 a ha).trans (S.2 a ha)⟩
theorem SF.pe {G : GG} {h0 h : HP} {o j : Nat} {π : Nat → Nat} {A : AS} (S : SF G h0 h o π A) (h8 : j < 8) (hn : j < A.1) : h (o + 3 + π j) = some (.inr (2, pF (A.2.2.2.2 j))) := S.1.pe h8 hn
theorem SF.ob {G : GG} {h0 h : HP} {o : Nat} {π : Nat → Nat} {A : AS} (S : SF G h0 h o π A) : h o = some (.inr (3, stF o A)) := S.1.1
theorem SF.putO {G : GG} {h0 h : HP} {o : Nat} {π : Nat → Nat} {A B : AS} {fs : List Value} (S : SF G h0 h o π A) (hk : fs = stF o B) (e1 : B.1 = A.1) (e4 : ∀ i, i < 6 → B.2.2.2.1 i = A.2.2.2.1 i) (e5 : B.2.2.2.2 = A.2.2.2.2) : SF G h0 (hu h o (.inr (3, fs))) o π B := by
  obtain ⟨⟨s1, ⟨f, s2, s2'⟩, ⟨r, s3, s3'⟩, s4, s5, s6⟩, s7⟩ := S
  refine ⟨⟨by rw [hu_s, hk], ⟨f, by rw [hu_n (by omega)]; exact s2, fun i hi => by rw [s2' i hi, e4 i hi]⟩, ⟨r, by rw [hu_n (by omega)]; exact s3, s3'⟩, s4, s5, fun j hj => ?_⟩, fun a ha => by rw [hu_n (by omega)]; exact s7 a ha⟩
  obtain ⟨w, w1, w2⟩ := s6 j hj
  exact ⟨w, by rw [hu_n (by omega)]; exact w1, fun hn k hk => by rw [e1] at hn; rw [w2 hn k hk, e5]⟩
theorem SF.putP {G : GG} {h0 h : HP} {o j k : Nat} {π : Nat → Nat} {n : Nat} {g : Option Nat} {t : Nat} {u : Nat → Int32} {q : Nat → Nat → Int32} {v : Int32} {fs : List Value} (S : SF G h0 h o π (n, g, t, u, q)) (h8 : j < 8) (hn : j < n) (hk : fs = pF (upd (q j) k v)) : SF G h0 (hu h (o + 3 + π j) (.inr (2, fs))) o π (n, g, t, u, uq q j k v) := by
  obtain ⟨⟨s1, ⟨f, s2, s2'⟩, ⟨r, s3, s3'⟩, s4, s5, s6⟩, s7⟩ := S
  have hpj := s4 j h8
  refine ⟨⟨by rw [hu_n (by omega)]; exact s1, ⟨f, by rw [hu_n (by omega)]; exact s2, s2'⟩, ⟨r, by rw [hu_n (by omega)]; exact s3, s3'⟩, s4, s5, fun i hi => ?_⟩, fun a ha => by rw [hu_n (by omega)]; exact s7 a ha⟩
  by_cases e : i = j
  · subst e
    refine ⟨upd (q i) k v, by rw [hu_s, hk], fun _ b _ => ?_⟩
    by_cases e : b = k
    · subst e
      show _ = uq q i b v i b
      rw [upd_s, uq_s]
    · show _ = uq q i k v i b
      rw [upd_n e, uq_k e]
  · obtain ⟨w, w1, w2⟩ := s6 i hi
    have hne : π i ≠ π j := fun z => e (s5 i j hi h8 z)
    refine ⟨w, by rw [hu_n (by omega)]; exact w1, fun hn b hb => ?_⟩
    show _ = uq q j k v i b
    rw [uq_j e]
    exact w2 hn b hb
theorem SF.putI {G : GG} {h0 h : HP} {o i : Nat} {π : Nat → Nat} {n : Nat} {g : Option Nat} {t : Nat} {u : Nat → Int32} {q : Nat → Nat → Int32} {v : Int32} {f : Nat → Int32} (S : SF G h0 h o π (n, g, t, u, q)) (hf : h (o + 1) = some (aA G 0 6 f)) (hi : i < 6) : SF G h0 (hu h (o + 1) (aA G 0 6 (upd f i v))) o π (n, g, t, upd u i v, q) := by
  obtain ⟨⟨s1, ⟨f', s2, s2'⟩, ⟨r, s3, s3'⟩, s4, s5, s6⟩, s7⟩ := S
  have e : f = f' := by rw [hf] at s2; simpa using s2
  subst e
  refine ⟨⟨?_, ⟨_, hu_s, fun b hb => ?_⟩, ⟨r, by rw [hu_n (by omega)]; exact s3, s3'⟩, s4, s5, fun j hj => ?_⟩, fun a ha => by rw [hu_n (by omega)]; exact s7 a ha⟩
  · rw [hu_n (by omega), s1]
    have e (x : Nat) (hx : 6 ≤ x) : upd u i v x = u x := upd_n (by omega)
    simp [stF, e]
  · show upd f i v b = upd u i v b
    by_cases e : b = i
    · subst e
      rw [upd_s, upd_s]
    · rw [upd_n e, upd_n e]
      exact s2' b hb
  · obtain ⟨w, w1, w2⟩ := s6 j hj
    exact ⟨w, by rw [hu_n (by omega)]; exact w1, w2⟩
section ES
variable {G : GG} {l : Launch} {X : CT} {Q : State → Prop} {d mc ms cs sl : Nat} {cc : ByteArray} {own : String} {nL : Nat} {ret : Option FieldType} {h h0 : HP} {z pc : Nat} {lv : List (Nat × Value)} {st : List Value} {o : Nat} {π : Nat → Nat} {n : Nat} {g : Option Nat} {t : Nat} {u : Nat → Int32} {q : Nat → Nat → Int32}
theorem exS_putU {idx k i : Nat} {v : Int32} (S : SF G h0 h o π (n, g, t, u, q)) (fl : FL own idx 3 k .int false) (hi : 6 ≤ i) (hl : k < 13) (hk : (stF o (n, g, t, u, q)).set k (.int v) = stF o (n, g, t, upd u i v, q)) (dg : decode cc pc = .ok (.putfield idx, 3)) (k1 : ∀ h : HP, SF G h0 h o π (n, g, t, upd u i v, q) → ex G l X Q d mc ms cs sl cc own nL ret h z (pc + 3) lv st) : ex G l X Q d mc ms cs sl cc own nL ret h z pc lv (.int v :: .ref o :: st) :=
  ex_put fl S.ob rfl rfl hl dg (k1 _ (S.putO hk rfl (fun j hj => upd_n (by omega)) rfl))
theorem exS_putG {idx : Nat} {g1 : Option Nat} {v : Int32} (S : SF G h0 h o π (n, g, t, u, q)) (fl : FL own idx 3 4 .int false) (hv : v = gv g1) (dg : decode cc pc = .ok (.putfield idx, 3)) (k1 : ∀ h : HP, SF G h0 h o π (n, g1, t, u, q) → ex G l X Q d mc ms cs sl cc own nL ret h z (pc + 3) lv st) : ex G l X Q d mc ms cs sl cc own nL ret h z pc lv (.int v :: .ref o :: st) := by
  subst hv
  exact ex_put fl S.ob rfl rfl (by show 4 < 13; decide) dg (k1 _ (S.putO rfl rfl (fun j hj => rfl) rfl))
theorem exS_putT {idx : Nat} {t1 : Nat} {v : Int32} (S : SF G h0 h o π (n, g, t, u, q)) (fl : FL own idx 3 5 .int false) (hv : v = nI t1) (dg : decode cc pc = .ok (.putfield idx, 3)) (k1 : ∀ h : HP, SF G h0 h o π (n, g, t1, u, q) → ex G l X Q d mc ms cs sl cc own nL ret h z (pc + 3) lv st) : ex G l X Q d mc ms cs sl cc own nL ret h z pc lv (.int v :: .ref o :: st) := by
  subst hv
  exact ex_put fl S.ob rfl rfl (by show 5 < 13; decide) dg (k1 _ (S.putO rfl rfl (fun j hj => rfl) rfl))
theorem exP_put {idx k j : Nat} {v : Int32} (S : SF G h0 h o π (n, g, t, u, q)) (h8 : j < 8) (hn : j < n) (fl : FL own idx 2 k .int false) (hl : k < 6) (hk : (pF (q j)).set k (.int v) = pF (upd (q j) k v)) (dg : decode cc pc = .ok (.putfield idx, 3)) (k1 : ∀ h : HP, SF G h0 h o π (n, g, t, u, uq q j k v) → ex G l X Q d mc ms cs sl cc own nL ret h z (pc + 3) lv st) : ex G l X Q d mc ms cs sl cc own nL ret h z pc lv (.int v :: .ref (o + 3 + π j) :: st) :=
  ex_put fl (S.pe h8 hn) rfl rfl hl dg (k1 _ (S.putP h8 hn hk))
/-- a setting is read -/
theorem exS_ld {i : Nat} {x v : Int32} (S : SF G h0 h o π (n, g, t, u, q)) (hx : x = nI i) (hi : i < 6) (hv : u i = v) (dg : decode cc pc = .ok (.iaload, 1)) (k1 : ex G l X Q d mc ms cs sl cc own nL ret h z (pc + 1) lv (.int v :: st)) : ex G l X Q d mc ms cs sl cc own nL ret h z pc lv (.int x :: .ref (o + 1) :: st) := by
  obtain ⟨f, hf, hf2⟩ := S.1.2.1
  refine ex_iald hf hx hi (by decide) dg ?_
  rw [hf2 i hi]
  subst hv
  exact k1
/-- a setting is written -/
theorem exS_st {i : Nat} {x v : Int32} (S : SF G h0 h o π (n, g, t, u, q)) (hx : x = nI i) (hi : i < 6) (dg : decode cc pc = .ok (.iastore, 1)) (k1 : ∀ h : HP, SF G h0 h o π (n, g, t, upd u i v, q) → ex G l X Q d mc ms cs sl cc own nL ret h z (pc + 1) lv st) : ex G l X Q d mc ms cs sl cc own nL ret h z pc lv (.int v :: .int x :: .ref (o + 1) :: st) := by
  obtain ⟨f, hf, hf2⟩ := S.1.2.1
  exact ex_iast hf hx hi (by decide) dg (k1 _ (S.putI hf hi))
/-- a person is looked up -/
theorem exS_pl {i : Nat} {x : Int32} (S : SF G h0 h o π (n, g, t, u, q)) (hx : x = nI i) (hi : i < 8) (dg : decode cc pc = .ok (.aaload, 1)) (k1 : ex G l X Q d mc ms cs sl cc own nL ret h z (pc + 1) lv (.ref (o + 3 + π i) :: st)) : ex G l X Q d mc ms cs sl cc own nL ret h z pc lv (.int x :: .ref (o + 2) :: st) := by
  obtain ⟨f, hf, hf2⟩ := S.1.2.2.1
  refine ex_aald3 hf hx hi (by decide) dg ?_
  rw [hf2 i hi]
  exact k1
/-- a call that only reads -/
def p0 (v : Value) (h : HP) (z : Nat) : Option Value → HP → Nat → Prop := fun r h1 z1 => r = some v ∧ h1 = h ∧ z1 = z
theorem ex_call0 {idx a m ci d1 ny : Nat} {y : MethodName} {cy : ByteArray} {ry : Option FieldType} {As : List Value} {fs : List Value} {v : Value} {st0 : List Value} (V : VV own idx y cy ny ry m) (hC : vwCl[ci]?.map (fun q => q.1) = some y.cls) (K : Ct G l d1 0 0 y cy ny ry (.ref a :: As) h z (p0 v h z)) (he : h a = some (.inr (ci, fs))) (hn : As.length = m) (hd : d1 + 1 ≤ d) (hst : (st.map fun v => v.category).sum ≤ 8) (hc : cs ≤ mc) (hs : sl ≤ ms) (stk : st0 = As.reverse ++ .ref a :: st) (dg : decode cc pc = .ok (.invokevirtual idx, 3)) (k1 : ex G l X Q d mc ms cs sl cc own nL ret h z (pc + 3) lv (v :: st)) : ex G l X Q d mc ms cs sl cc own nL ret h z pc lv st0 :=
  ex_callV V hC K he hn hd hst hc hs stk dg (fun r h1 z1 hp => by obtain ⟨rfl, rfl, rfl⟩ := hp; exact k1)
theorem ex_callS0 {idx m d1 ny : Nat} {y : MethodName} {cy : ByteArray} {ry : Option FieldType} {As : List Value} {v : Value} {st0 : List Value} (V : VS own idx y cy ny ry m) (K : Ct G l d1 0 0 y cy ny ry As h z (p0 v h z)) (hn : As.length = m) (hd : d1 + 1 ≤ d) (hst : (st.map fun v => v.category).sum ≤ 8) (hc : cs ≤ mc) (hs : sl ≤ ms) (stk : st0 = As.reverse ++ st) (dg : decode cc pc = .ok (.invokestatic idx, 3)) (k1 : ex G l X Q d mc ms cs sl cc own nL ret h z (pc + 3) lv (v :: st)) : ex G l X Q d mc ms cs sl cc own nL ret h z pc lv st0 :=
  ex_callS V K hn hd hst hc hs stk dg (fun r h1 z1 hp => by obtain ⟨rfl, rfl, rfl⟩ := hp; exact k1)
/-- a call that makes another state of it -/
def pS (G : GG) (r0 : Option Value) (h : HP) (z o : Nat) (π : Nat → Nat) (A : AS) : Option Value → HP → Nat → Prop := fun r h1 z1 => r = r0 ∧ z1 = z ∧ SF G h h1 o π A
theorem exS_call {idx m d1 ny : Nat} {y : MethodName} {cy : ByteArray} {ry : Option FieldType} {As : List Value} {r0 : Option Value} {π1 : Nat → Nat} {A B : AS} {st0 : List Value} (V : VV own idx y cy ny ry m) (hC : y.cls = RX3) (S : SF G h0 h o π A) (K : SP G h o π A → Ct G l d1 0 0 y cy ny ry (.ref o :: As) h z (pS G r0 h z o π1 B)) (hn : As.length = m) (hd : d1 + 1 ≤ d) (hst : (st.map fun v => v.category).sum ≤ 8) (hc : cs ≤ mc) (hs : sl ≤ ms) (stk : st0 = As.reverse ++ .ref o :: st) (dg : decode cc pc = .ok (.invokevirtual idx, 3)) (k1 : ∀ h : HP, SF G h0 h o π1 B → ex G l X Q d mc ms cs sl cc own nL ret h z (pc + 3) lv (r0.toList ++ st)) : ex G l X Q d mc ms cs sl cc own nL ret h z pc lv st0 :=
  ex_callV V (ci := 3) (by rw [hC]; rfl) (K S.1) S.ob hn hd hst hc hs stk dg (fun r h1 z1 hp => by obtain ⟨rfl, rfl, S1⟩ := hp; exact k1 h1 (S.trans S1))
end ES
end
section
theorem tw_p {w : Cond} (i : Nat) (h : (k2_sels lw_privs)[i]? = some w) (g : goodWord w = true) : w ∈ TW := tw_in (List.mem_append_left _ (List.mem_of_getElem? h)) g
theorem uX0 : ∀ w ∈ u_ws RX0 TX0 2, w ∈ TW := fun w h => tw_in ((by decide +kernel : ∀ w ∈ u_ws RX0 TX0 2, w ∈ lw_tbl) w h) ((by decide +kernel : ∀ w ∈ u_ws RX0 TX0 2, goodWord w = true) w h)
theorem uX1 : ∀ w ∈ u_ws RX1 TX1 2, w ∈ TW := fun w h => tw_in ((by decide +kernel : ∀ w ∈ u_ws RX1 TX1 2, w ∈ lw_tbl) w h) ((by decide +kernel : ∀ w ∈ u_ws RX1 TX1 2, goodWord w = true) w h)
theorem uX2 : ∀ w ∈ u_ws RX2 TX2 6, w ∈ TW := fun w h => tw_in ((by decide +kernel : ∀ w ∈ u_ws RX2 TX2 6, w ∈ lw_tbl) w h) ((by decide +kernel : ∀ w ∈ u_ws RX2 TX2 6, goodWord w = true) w h)
theorem uX3 : ∀ w ∈ u_ws RX3 TX3 13, w ∈ TW := fun w h => tw_in ((by decide +kernel : ∀ w ∈ u_ws RX3 TX3 13, w ∈ lw_tbl) w h) ((by decide +kernel : ∀ w ∈ u_ws RX3 TX3 13, goodWord w = true) w h)
theorem uX4 : ∀ w ∈ u_ws RX4 TX4 5, w ∈ TW := fun w h => tw_in ((by decide +kernel : ∀ w ∈ u_ws RX4 TX4 5, w ∈ lw_tbl) w h) ((by decide +kernel : ∀ w ∈ u_ws RX4 TX4 5, goodWord w = true) w h)
theorem uX5 : ∀ w ∈ u_ws RX5 TX5 7, w ∈ TW := fun w h => tw_in ((by decide +kernel : ∀ w ∈ u_ws RX5 TX5 7, w ∈ lw_tbl) w h) ((by decide +kernel : ∀ w ∈ u_ws RX5 TX5 7, goodWord w = true) w h)
theorem fl_X4_10 : FL RX4 10 4 0 (.object "PurrProbates$State") true := ⟨RX4, TX4, 5, tyX4, rfl, uX4, tyX4_ok, nmX4, by decide, rfl, rfl, rfl, (tw_t 156 (by decide +kernel) (by decide +kernel))⟩
theorem fl_X4_16 : FL RX4 16 4 1 (.object "PurrProbates$State") true := ⟨RX4, TX4, 5, tyX4, rfl, uX4, tyX4_ok, nmX4, by decide, rfl, rfl, rfl, (tw_t 157 (by decide +kernel) (by decide +kernel))⟩
theorem fl_X4_22 : FL RX4 22 4 2 (.object "PurrProbates$History") true := ⟨RX4, TX4, 5, tyX4, rfl, uX4, tyX4_ok, nmX4, by decide, rfl, rfl, rfl, (tw_t 158 (by decide +kernel) (by decide +kernel))⟩
theorem fl_X4_26 : FL RX4 26 4 3 (.array (.object "PurrProbates$State")) true := ⟨RX4, TX4, 5, tyX4, rfl, uX4, tyX4_ok, nmX4, by decide, rfl, rfl, rfl, (tw_t 159 (by decide +kernel) (by decide +kernel))⟩
theorem fl_X4_33 : FL RX4 33 4 4 (.object "PurrProbates$Pad") true := ⟨RX4, TX4, 5, tyX4, rfl, uX4, tyX4_ok, nmX4, by decide, rfl, rfl, rfl, (tw_t 160 (by decide +kernel) (by decide +kernel))⟩
theorem fl_X4_52 : FL RX4 52 3 0 (.array .int) true := ⟨RX3, TX3, 13, tyX3, rfl, uX3, tyX3_ok, nmX3, by decide, rfl, rfl, rfl, (tw_t 73 (by decide +kernel) (by decide +kernel))⟩
theorem fl_X4_55 : FL RX4 55 3 2 .int false := ⟨RX3, TX3, 13, tyX3, rfl, uX3, tyX3_ok, nmX3, by decide, rfl, rfl, rfl, (tw_t 76 (by decide +kernel) (by decide +kernel))⟩
theorem fl_X4_73 : FL RX4 73 1 1 .int false := ⟨RX1, TX1, 2, tyX1, rfl, uX1, tyX1_ok, nmX1, by decide, rfl, rfl, rfl, (tw_t 149 (by decide +kernel) (by decide +kernel))⟩
theorem fl_X4_89 : FL RX4 89 3 4 .int false := ⟨RX3, TX3, 13, tyX3, rfl, uX3, tyX3_ok, nmX3, by decide, rfl, rfl, rfl, (tw_t 80 (by decide +kernel) (by decide +kernel))⟩
theorem fl_X4_105 : FL RX4 105 3 6 .int false := ⟨RX3, TX3, 13, tyX3, rfl, uX3, tyX3_ok, nmX3, by decide, rfl, rfl, rfl, (tw_t 84 (by decide +kernel) (by decide +kernel))⟩
theorem fl_X4_109 : FL RX4 109 3 12 .int false := ⟨RX3, TX3, 13, tyX3, rfl, uX3, tyX3_ok, nmX3, by decide, rfl, rfl, rfl, (tw_t 96 (by decide +kernel) (by decide +kernel))⟩
theorem fl_X4_112 : FL RX4 112 3 7 .int false := ⟨RX3, TX3, 13, tyX3, rfl, uX3, tyX3_ok, nmX3, by decide, rfl, rfl, rfl, (tw_t 86 (by decide +kernel) (by decide +kernel))⟩
theorem fl_X4_115 : FL RX4 115 3 9 .int false := ⟨RX3, TX3, 13, tyX3, rfl, uX3, tyX3_ok, nmX3, by decide, rfl, rfl, rfl, (tw_t 90 (by decide +kernel) (by decide +kernel))⟩
theorem fl_X4_121 : FL RX4 121 2 0 .int false := ⟨RX2, TX2, 6, tyX2, rfl, uX2, tyX2_ok, nmX2, by decide, rfl, rfl, rfl, (tw_t 42 (by decide +kernel) (by decide +kernel))⟩
theorem fl_X4_126 : FL RX4 126 2 1 .int false := ⟨RX2, TX2, 6, tyX2, rfl, uX2, tyX2_ok, nmX2, by decide, rfl, rfl, rfl, (tw_t 44 (by decide +kernel) (by decide +kernel))⟩
theorem fl_X4_129 : FL RX4 129 2 2 .int false := ⟨RX2, TX2, 6, tyX2, rfl, uX2, tyX2_ok, nmX2, by decide, rfl, rfl, rfl, (tw_t 48 (by decide +kernel) (by decide +kernel))⟩
theorem fl_X4_132 : FL RX4 132 2 3 .int false := ⟨RX2, TX2, 6, tyX2, rfl, uX2, tyX2_ok, nmX2, by decide, rfl, rfl, rfl, (tw_t 51 (by decide +kernel) (by decide +kernel))⟩
theorem fl_X4_143 : FL RX4 143 2 4 .int false := ⟨RX2, TX2, 6, tyX2, rfl, uX2, tyX2_ok, nmX2, by decide, rfl, rfl, rfl, (tw_t 53 (by decide +kernel) (by decide +kernel))⟩
theorem fl_X4_144 : FL RX4 144 2 5 .int false := ⟨RX2, TX2, 6, tyX2, rfl, uX2, tyX2_ok, nmX2, by decide, rfl, rfl, rfl, (tw_t 56 (by decide +kernel) (by decide +kernel))⟩
theorem fl_X4_147 : FL RX4 147 3 3 .int false := ⟨RX3, TX3, 13, tyX3, rfl, uX3, tyX3_ok, nmX3, by decide, rfl, rfl, rfl, (tw_t 78 (by decide +kernel) (by decide +kernel))⟩
theorem fl_X4_150 : FL RX4 150 3 5 .int false := ⟨RX3, TX3, 13, tyX3, rfl, uX3, tyX3_ok, nmX3, by decide, rfl, rfl, rfl, (tw_t 82 (by decide +kernel) (by decide +kernel))⟩
theorem fl_X4_156 : FL RX4 156 3 8 .int false := ⟨RX3, TX3, 13, tyX3, rfl, uX3, tyX3_ok, nmX3, by decide, rfl, rfl, rfl, (tw_t 88 (by decide +kernel) (by decide +kernel))⟩
theorem fl_X4_157 : FL RX4 157 3 10 .int false := ⟨RX3, TX3, 13, tyX3, rfl, uX3, tyX3_ok, nmX3, by decide, rfl, rfl, rfl, (tw_t 92 (by decide +kernel) (by decide +kernel))⟩
theorem fl_X4_160 : FL RX4 160 3 11 .int false := ⟨RX3, TX3, 13, tyX3, rfl, uX3, tyX3_ok, nmX3, by decide, rfl, rfl, rfl, (tw_t 94 (by decide +kernel) (by decide +kernel))⟩
theorem fl_X4_166 : FL RX4 166 0 1 .int false := ⟨RX0, TX0, 2, tyX0, rfl, uX0, tyX0_ok, nmX0, by decide, rfl, rfl, rfl, (tw_t 135 (by decide +kernel) (by decide +kernel))⟩
theorem fl_X0_11 : FL RX0 11 0 0 (.array (.object "PurrProbates$State")) true := ⟨RX0, TX0, 2, tyX0, rfl, uX0, tyX0_ok, nmX0, by decide, rfl, rfl, rfl, (tw_t 133 (by decide +kernel) (by decide +kernel))⟩
theorem fl_X0_17 : FL RX0 17 0 1 .int false := ⟨RX0, TX0, 2, tyX0, rfl, uX0, tyX0_ok, nmX0, by decide, rfl, rfl, rfl, (tw_t 134 (by decide +kernel) (by decide +kernel))⟩
theorem fl_X1_9 : FL RX1 9 1 0 (.array .char) true := ⟨RX1, TX1, 2, tyX1, rfl, uX1, tyX1_ok, nmX1, by decide, rfl, rfl, rfl, (tw_t 147 (by decide +kernel) (by decide +kernel))⟩
theorem fl_X1_15 : FL RX1 15 1 1 .int false := ⟨RX1, TX1, 2, tyX1, rfl, uX1, tyX1_ok, nmX1, by decide, rfl, rfl, rfl, (tw_t 148 (by decide +kernel) (by decide +kernel))⟩
theorem fl_X2_7 : FL RX2 7 2 0 .int false := ⟨RX2, TX2, 6, tyX2, rfl, uX2, tyX2_ok, nmX2, by decide, rfl, rfl, rfl, (tw_t 40 (by decide +kernel) (by decide +kernel))⟩
theorem fl_X2_13 : FL RX2 13 2 1 .int false := ⟨RX2, TX2, 6, tyX2, rfl, uX2, tyX2_ok, nmX2, by decide, rfl, rfl, rfl, (tw_t 43 (by decide +kernel) (by decide +kernel))⟩
theorem fl_X2_16 : FL RX2 16 2 2 .int false := ⟨RX2, TX2, 6, tyX2, rfl, uX2, tyX2_ok, nmX2, by decide, rfl, rfl, rfl, (tw_t 46 (by decide +kernel) (by decide +kernel))⟩
theorem fl_X2_19 : FL RX2 19 2 3 .int false := ⟨RX2, TX2, 6, tyX2, rfl, uX2, tyX2_ok, nmX2, by decide, rfl, rfl, rfl, (tw_t 49 (by decide +kernel) (by decide +kernel))⟩
theorem fl_X2_22 : FL RX2 22 2 4 .int false := ⟨RX2, TX2, 6, tyX2, rfl, uX2, tyX2_ok, nmX2, by decide, rfl, rfl, rfl, (tw_t 52 (by decide +kernel) (by decide +kernel))⟩
theorem fl_X2_25 : FL RX2 25 2 5 .int false := ⟨RX2, TX2, 6, tyX2, rfl, uX2, tyX2_ok, nmX2, by decide, rfl, rfl, rfl, (tw_t 55 (by decide +kernel) (by decide +kernel))⟩
theorem fl_X3_18 : FL RX3 18 3 0 (.array .int) true := ⟨RX3, TX3, 13, tyX3, rfl, uX3, tyX3_ok, nmX3, by decide, rfl, rfl, rfl, (tw_t 72 (by decide +kernel) (by decide +kernel))⟩
theorem fl_X3_25 : FL RX3 25 3 1 (.array (.object "PurrProbates$Person")) true := ⟨RX3, TX3, 13, tyX3, rfl, uX3, tyX3_ok, nmX3, by decide, rfl, rfl, rfl, (tw_t 74 (by decide +kernel) (by decide +kernel))⟩
theorem fl_X3_29 : FL RX3 29 3 2 .int false := ⟨RX3, TX3, 13, tyX3, rfl, uX3, tyX3_ok, nmX3, by decide, rfl, rfl, rfl, (tw_t 75 (by decide +kernel) (by decide +kernel))⟩
theorem fl_X3_33 : FL RX3 33 3 3 .int false := ⟨RX3, TX3, 13, tyX3, rfl, uX3, tyX3_ok, nmX3, by decide, rfl, rfl, rfl, (tw_t 77 (by decide +kernel) (by decide +kernel))⟩
theorem fl_X3_36 : FL RX3 36 3 4 .int false := ⟨RX3, TX3, 13, tyX3, rfl, uX3, tyX3_ok, nmX3, by decide, rfl, rfl, rfl, (tw_t 79 (by decide +kernel) (by decide +kernel))⟩
theorem fl_X3_39 : FL RX3 39 3 5 .int false := ⟨RX3, TX3, 13, tyX3, rfl, uX3, tyX3_ok, nmX3, by decide, rfl, rfl, rfl, (tw_t 81 (by decide +kernel) (by decide +kernel))⟩
theorem fl_X3_42 : FL RX3 42 3 6 .int false := ⟨RX3, TX3, 13, tyX3, rfl, uX3, tyX3_ok, nmX3, by decide, rfl, rfl, rfl, (tw_t 83 (by decide +kernel) (by decide +kernel))⟩
theorem fl_X3_45 : FL RX3 45 3 7 .int false := ⟨RX3, TX3, 13, tyX3, rfl, uX3, tyX3_ok, nmX3, by decide, rfl, rfl, rfl, (tw_t 85 (by decide +kernel) (by decide +kernel))⟩
theorem fl_X3_48 : FL RX3 48 3 8 .int false := ⟨RX3, TX3, 13, tyX3, rfl, uX3, tyX3_ok, nmX3, by decide, rfl, rfl, rfl, (tw_t 87 (by decide +kernel) (by decide +kernel))⟩
theorem fl_X3_51 : FL RX3 51 3 9 .int false := ⟨RX3, TX3, 13, tyX3, rfl, uX3, tyX3_ok, nmX3, by decide, rfl, rfl, rfl, (tw_t 89 (by decide +kernel) (by decide +kernel))⟩
theorem fl_X3_54 : FL RX3 54 3 10 .int false := ⟨RX3, TX3, 13, tyX3, rfl, uX3, tyX3_ok, nmX3, by decide, rfl, rfl, rfl, (tw_t 91 (by decide +kernel) (by decide +kernel))⟩
theorem fl_X3_57 : FL RX3 57 3 11 .int false := ⟨RX3, TX3, 13, tyX3, rfl, uX3, tyX3_ok, nmX3, by decide, rfl, rfl, rfl, (tw_t 93 (by decide +kernel) (by decide +kernel))⟩
theorem fl_X3_60 : FL RX3 60 3 12 .int false := ⟨RX3, TX3, 13, tyX3, rfl, uX3, tyX3_ok, nmX3, by decide, rfl, rfl, rfl, (tw_t 95 (by decide +kernel) (by decide +kernel))⟩
theorem fl_X3_78 : FL RX3 78 2 2 .int false := ⟨RX2, TX2, 6, tyX2, rfl, uX2, tyX2_ok, nmX2, by decide, rfl, rfl, rfl, (tw_t 47 (by decide +kernel) (by decide +kernel))⟩
theorem fl_X3_79 : FL RX3 79 2 0 .int false := ⟨RX2, TX2, 6, tyX2, rfl, uX2, tyX2_ok, nmX2, by decide, rfl, rfl, rfl, (tw_t 41 (by decide +kernel) (by decide +kernel))⟩
theorem fl_X3_86 : FL RX3 86 2 3 .int false := ⟨RX2, TX2, 6, tyX2, rfl, uX2, tyX2_ok, nmX2, by decide, rfl, rfl, rfl, (tw_t 50 (by decide +kernel) (by decide +kernel))⟩
theorem fl_X3_127 : FL RX3 127 2 5 .int false := ⟨RX2, TX2, 6, tyX2, rfl, uX2, tyX2_ok, nmX2, by decide, rfl, rfl, rfl, (tw_t 57 (by decide +kernel) (by decide +kernel))⟩
theorem fl_X3_133 : FL RX3 133 2 4 .int false := ⟨RX2, TX2, 6, tyX2, rfl, uX2, tyX2_ok, nmX2, by decide, rfl, rfl, rfl, (tw_t 54 (by decide +kernel) (by decide +kernel))⟩
theorem fl_X3_146 : FL RX3 146 2 1 .int false := ⟨RX2, TX2, 6, tyX2, rfl, uX2, tyX2_ok, nmX2, by decide, rfl, rfl, rfl, (tw_t 45 (by decide +kernel) (by decide +kernel))⟩
theorem fl_X5_7 : FL RX5 7 5 0 (.array .int) true := ⟨RX5, TX5, 7, tyX5, rfl, uX5, tyX5_ok, nmX5, by decide, rfl, rfl, rfl, (tw_t 443 (by decide +kernel) (by decide +kernel))⟩
theorem fl_X5_13 : FL RX5 13 5 1 (.array .int) true := ⟨RX5, TX5, 7, tyX5, rfl, uX5, tyX5_ok, nmX5, by decide, rfl, rfl, rfl, (tw_t 444 (by decide +kernel) (by decide +kernel))⟩
theorem fl_X5_16 : FL RX5 16 5 3 (.array .int) true := ⟨RX5, TX5, 7, tyX5, rfl, uX5, tyX5_ok, nmX5, by decide, rfl, rfl, rfl, (tw_t 446 (by decide +kernel) (by decide +kernel))⟩
theorem fl_X5_19 : FL RX5 19 5 4 (.array .boolean) true := ⟨RX5, TX5, 7, tyX5, rfl, uX5, tyX5_ok, nmX5, by decide, rfl, rfl, rfl, (tw_t 447 (by decide +kernel) (by decide +kernel))⟩
theorem fl_X5_23 : FL RX5 23 5 5 (.array .int) true := ⟨RX5, TX5, 7, tyX5, rfl, uX5, tyX5_ok, nmX5, by decide, rfl, rfl, rfl, (tw_t 448 (by decide +kernel) (by decide +kernel))⟩
theorem fl_X5_30 : FL RX5 30 5 2 .int false := ⟨RX5, TX5, 7, tyX5, rfl, uX5, tyX5_ok, nmX5, by decide, rfl, rfl, rfl, (tw_t 445 (by decide +kernel) (by decide +kernel))⟩
theorem fl_X5_109 : FL RX5 109 5 6 .int false := ⟨RX5, TX5, 7, tyX5, rfl, uX5, tyX5_ok, nmX5, by decide, rfl, rfl, rfl, (tw_t 449 (by decide +kernel) (by decide +kernel))⟩
theorem vl_X4_9 : VI RX4 9 yX3_init cX3_init 2 0 := ⟨⟨(tw_t 20 (by decide +kernel) (by decide +kernel)), (tw_t 2 (by decide +kernel) (by decide +kernel)), (tw_t 22 (by decide +kernel) (by decide +kernel)), (by decide +kernel), (by decide +kernel), (by decide +kernel), by decide⟩, (tw_t 21 (by decide +kernel) (by decide +kernel)), rfl⟩
theorem vl_X4_21 : VI RX4 21 yX0_init cX0_init 2 0 := ⟨⟨(tw_t 126 (by decide +kernel) (by decide +kernel)), (tw_t 4 (by decide +kernel) (by decide +kernel)), (tw_t 128 (by decide +kernel) (by decide +kernel)), (by decide +kernel), (by decide +kernel), (by decide +kernel), by decide⟩, (tw_t 127 (by decide +kernel) (by decide +kernel)), rfl⟩
theorem vl_X4_37 : VS RX4 37 yX4_isSetting cX4_isSetting 1 (some .boolean) 1 := ⟨⟨(tw_t 176 (by decide +kernel) (by decide +kernel)), (tw_t 1 (by decide +kernel) (by decide +kernel)), (tw_t 178 (by decide +kernel) (by decide +kernel)), (by decide +kernel), (by decide +kernel), (by decide +kernel), by decide⟩, (tw_t 177 (by decide +kernel) (by decide +kernel))⟩
theorem vl_X4_48 : VV RX4 48 yX0_record cX0_record 2 none 1 := ⟨⟨(tw_t 184 (by decide +kernel) (by decide +kernel)), (tw_t 4 (by decide +kernel) (by decide +kernel)), (tw_t 187 (by decide +kernel) (by decide +kernel)), (by decide +kernel), (by decide +kernel), (by decide +kernel), by decide⟩, (tw_t 185 (by decide +kernel) (by decide +kernel)), (tw_t 186 (by decide +kernel) (by decide +kernel))⟩
theorem vl_X4_59 : VV RX4 59 yX3_admit cX3_admit 4 none 2 := ⟨⟨(tw_t 211 (by decide +kernel) (by decide +kernel)), (tw_t 2 (by decide +kernel) (by decide +kernel)), (tw_t 214 (by decide +kernel) (by decide +kernel)), (by decide +kernel), (by decide +kernel), (by decide +kernel), by decide⟩, (tw_t 212 (by decide +kernel) (by decide +kernel)), (tw_t 213 (by decide +kernel) (by decide +kernel))⟩
theorem vl_X4_63 : VV RX4 63 yX1_firstFault cX1_firstFault 5 (some .int) 0 := ⟨⟨(tw_t 223 (by decide +kernel) (by decide +kernel)), (tw_t 5 (by decide +kernel) (by decide +kernel)), (tw_t 226 (by decide +kernel) (by decide +kernel)), (by decide +kernel), (by decide +kernel), (by decide +kernel), by decide⟩, (tw_t 224 (by decide +kernel) (by decide +kernel)), (tw_t 225 (by decide +kernel) (by decide +kernel))⟩
theorem vl_X4_67 : VV RX4 67 yX1_people cX1_people 3 (some .int) 0 := ⟨⟨(tw_t 247 (by decide +kernel) (by decide +kernel)), (tw_t 5 (by decide +kernel) (by decide +kernel)), (tw_t 250 (by decide +kernel) (by decide +kernel)), (by decide +kernel), (by decide +kernel), (by decide +kernel), by decide⟩, (tw_t 248 (by decide +kernel) (by decide +kernel)), (tw_t 249 (by decide +kernel) (by decide +kernel))⟩
theorem vl_X4_70 : VV RX4 70 yX1_admitPeopleTo cX1_admitPeopleTo 6 none 1 := ⟨⟨(tw_t 251 (by decide +kernel) (by decide +kernel)), (tw_t 5 (by decide +kernel) (by decide +kernel)), (tw_t 254 (by decide +kernel) (by decide +kernel)), (by decide +kernel), (by decide +kernel), (by decide +kernel), by decide⟩, (tw_t 252 (by decide +kernel) (by decide +kernel)), (tw_t 253 (by decide +kernel) (by decide +kernel))⟩
theorem vl_X4_76 : VV RX4 76 yX3_at cX3_at 2 (some (.object "PurrProbates$Person")) 1 := ⟨⟨(tw_t 260 (by decide +kernel) (by decide +kernel)), (tw_t 2 (by decide +kernel) (by decide +kernel)), (tw_t 202 (by decide +kernel) (by decide +kernel)), (by decide +kernel), (by decide +kernel), (by decide +kernel), by decide⟩, (tw_t 200 (by decide +kernel) (by decide +kernel)), (tw_t 201 (by decide +kernel) (by decide +kernel))⟩
theorem vl_X4_80 : VV RX4 80 yX3_relocate cX3_relocate 5 none 2 := ⟨⟨(tw_t 261 (by decide +kernel) (by decide +kernel)), (tw_t 2 (by decide +kernel) (by decide +kernel)), (tw_t 264 (by decide +kernel) (by decide +kernel)), (by decide +kernel), (by decide +kernel), (by decide +kernel), by decide⟩, (tw_t 262 (by decide +kernel) (by decide +kernel)), (tw_t 263 (by decide +kernel) (by decide +kernel))⟩
theorem vl_X4_83 : VS RX4 83 yJ9_abs_0f7a4 cJ9_abs_0f7a4 1 (some .int) 1 := ⟨⟨(tw_t 269 (by decide +kernel) (by decide +kernel)), (tw_t 8 (by decide +kernel) (by decide +kernel)), (tw_t 271 (by decide +kernel) (by decide +kernel)), (by decide +kernel), (by decide +kernel), (by decide +kernel), by decide⟩, (tw_t 270 (by decide +kernel) (by decide +kernel))⟩
theorem vl_X4_92 : VV RX4 92 yX3_behind cX3_behind 2 (some .int) 1 := ⟨⟨(tw_t 276 (by decide +kernel) (by decide +kernel)), (tw_t 2 (by decide +kernel) (by decide +kernel)), (tw_t 279 (by decide +kernel) (by decide +kernel)), (by decide +kernel), (by decide +kernel), (by decide +kernel), by decide⟩, (tw_t 277 (by decide +kernel) (by decide +kernel)), (tw_t 278 (by decide +kernel) (by decide +kernel))⟩
theorem vl_X4_95 : VV RX4 95 yX3_leaveWithoutGuardian cX3_leaveWithoutGuardian 2 none 1 := ⟨⟨(tw_t 280 (by decide +kernel) (by decide +kernel)), (tw_t 2 (by decide +kernel) (by decide +kernel)), (tw_t 283 (by decide +kernel) (by decide +kernel)), (by decide +kernel), (by decide +kernel), (by decide +kernel), by decide⟩, (tw_t 281 (by decide +kernel) (by decide +kernel)), (tw_t 282 (by decide +kernel) (by decide +kernel))⟩
theorem vl_X4_99 : VV RX4 99 yX3_mayAppeal cX3_mayAppeal 3 (some .boolean) 1 := ⟨⟨(tw_t 288 (by decide +kernel) (by decide +kernel)), (tw_t 2 (by decide +kernel) (by decide +kernel)), (tw_t 291 (by decide +kernel) (by decide +kernel)), (by decide +kernel), (by decide +kernel), (by decide +kernel), by decide⟩, (tw_t 289 (by decide +kernel) (by decide +kernel)), (tw_t 290 (by decide +kernel) (by decide +kernel))⟩
theorem vl_X4_102 : VV RX4 102 yX3_hearAppeal cX3_hearAppeal 4 (some .boolean) 1 := ⟨⟨(tw_t 296 (by decide +kernel) (by decide +kernel)), (tw_t 2 (by decide +kernel) (by decide +kernel)), (tw_t 299 (by decide +kernel) (by decide +kernel)), (by decide +kernel), (by decide +kernel), (by decide +kernel), by decide⟩, (tw_t 297 (by decide +kernel) (by decide +kernel)), (tw_t 298 (by decide +kernel) (by decide +kernel))⟩
theorem vl_X4_118 : VV RX4 118 yX3_liveDays cX3_liveDays 3 none 1 := ⟨⟨(tw_t 322 (by decide +kernel) (by decide +kernel)), (tw_t 2 (by decide +kernel) (by decide +kernel)), (tw_t 325 (by decide +kernel) (by decide +kernel)), (by decide +kernel), (by decide +kernel), (by decide +kernel), by decide⟩, (tw_t 323 (by decide +kernel) (by decide +kernel)), (tw_t 324 (by decide +kernel) (by decide +kernel))⟩
theorem vl_X4_135 : VV RX4 135 yX3_isBarred cX3_isBarred 2 (some .boolean) 1 := ⟨⟨(tw_t 360 (by decide +kernel) (by decide +kernel)), (tw_t 2 (by decide +kernel) (by decide +kernel)), (tw_t 295 (by decide +kernel) (by decide +kernel)), (by decide +kernel), (by decide +kernel), (by decide +kernel), by decide⟩, (tw_t 293 (by decide +kernel) (by decide +kernel)), (tw_t 294 (by decide +kernel) (by decide +kernel))⟩
theorem vl_X4_139 : VV RX4 139 yX3_score cX3_score 2 (some .int) 1 := ⟨⟨(tw_t 361 (by decide +kernel) (by decide +kernel)), (tw_t 2 (by decide +kernel) (by decide +kernel)), (tw_t 303 (by decide +kernel) (by decide +kernel)), (by decide +kernel), (by decide +kernel), (by decide +kernel), by decide⟩, (tw_t 301 (by decide +kernel) (by decide +kernel)), (tw_t 302 (by decide +kernel) (by decide +kernel))⟩
theorem vl_X4_153 : VV RX4 153 yX3_barredPeople cX3_barredPeople 4 (some .int) 0 := ⟨⟨(tw_t 366 (by decide +kernel) (by decide +kernel)), (tw_t 2 (by decide +kernel) (by decide +kernel)), (tw_t 369 (by decide +kernel) (by decide +kernel)), (by decide +kernel), (by decide +kernel), (by decide +kernel), by decide⟩, (tw_t 367 (by decide +kernel) (by decide +kernel)), (tw_t 368 (by decide +kernel) (by decide +kernel))⟩
theorem vl_X4_163 : VV RX4 163 yX3_allPurses cX3_allPurses 4 (some .int) 0 := ⟨⟨(tw_t 370 (by decide +kernel) (by decide +kernel)), (tw_t 2 (by decide +kernel) (by decide +kernel)), (tw_t 373 (by decide +kernel) (by decide +kernel)), (by decide +kernel), (by decide +kernel), (by decide +kernel), by decide⟩, (tw_t 371 (by decide +kernel) (by decide +kernel)), (tw_t 372 (by decide +kernel) (by decide +kernel))⟩
theorem vl_X4_167 : VV RX4 167 yX3_copyFrom cX3_copyFrom 5 none 1 := ⟨⟨(tw_t 378 (by decide +kernel) (by decide +kernel)), (tw_t 2 (by decide +kernel) (by decide +kernel)), (tw_t 195 (by decide +kernel) (by decide +kernel)), (by decide +kernel), (by decide +kernel), (by decide +kernel), by decide⟩, (tw_t 193 (by decide +kernel) (by decide +kernel)), (tw_t 194 (by decide +kernel) (by decide +kernel))⟩
theorem vl_X4_170 : VV RX4 170 yX3_liveDay cX3_liveDay 4 (some .int) 0 := ⟨⟨(tw_t 379 (by decide +kernel) (by decide +kernel)), (tw_t 2 (by decide +kernel) (by decide +kernel)), (tw_t 329 (by decide +kernel) (by decide +kernel)), (by decide +kernel), (by decide +kernel), (by decide +kernel), by decide⟩, (tw_t 327 (by decide +kernel) (by decide +kernel)), (tw_t 328 (by decide +kernel) (by decide +kernel))⟩
theorem vl_X4_173 : VV RX4 173 yX4_daysAsGuardianIfMoved cX4_daysAsGuardianIfMoved 5 (some .int) 2 := ⟨⟨(tw_t 392 (by decide +kernel) (by decide +kernel)), (tw_t 1 (by decide +kernel) (by decide +kernel)), (tw_t 395 (by decide +kernel) (by decide +kernel)), (by decide +kernel), (by decide +kernel), (by decide +kernel), by decide⟩, (tw_t 394 (by decide +kernel) (by decide +kernel)), (tw_p 0 (by decide +kernel) (by decide +kernel))⟩
theorem vl_X4_177 : VS RX4 177 yX4_codesIn cX4_codesIn 7 (some .int) 1 := ⟨⟨(tw_t 400 (by decide +kernel) (by decide +kernel)), (tw_t 1 (by decide +kernel) (by decide +kernel)), (tw_t 402 (by decide +kernel) (by decide +kernel)), (by decide +kernel), (by decide +kernel), (by decide +kernel), by decide⟩, (tw_t 401 (by decide +kernel) (by decide +kernel))⟩
theorem vl_X4_183 : VV RX4 183 yX1_append cX1_append 2 none 1 := ⟨⟨(tw_t 406 (by decide +kernel) (by decide +kernel)), (tw_t 5 (by decide +kernel) (by decide +kernel)), (tw_t 409 (by decide +kernel) (by decide +kernel)), (by decide +kernel), (by decide +kernel), (by decide +kernel), by decide⟩, (tw_t 407 (by decide +kernel) (by decide +kernel)), (tw_t 408 (by decide +kernel) (by decide +kernel))⟩
theorem vl_X4_187 : VV RX4 187 yX0_takeBack cX0_takeBack 2 none 1 := ⟨⟨(tw_t 422 (by decide +kernel) (by decide +kernel)), (tw_t 4 (by decide +kernel) (by decide +kernel)), (tw_t 425 (by decide +kernel) (by decide +kernel)), (by decide +kernel), (by decide +kernel), (by decide +kernel), by decide⟩, (tw_t 423 (by decide +kernel) (by decide +kernel)), (tw_t 424 (by decide +kernel) (by decide +kernel))⟩
theorem vl_X4_190 : VS RX4 190 yX4_isSlot cX4_isSlot 1 (some .boolean) 1 := ⟨⟨(tw_t 430 (by decide +kernel) (by decide +kernel)), (tw_t 1 (by decide +kernel) (by decide +kernel)), (tw_t 432 (by decide +kernel) (by decide +kernel)), (by decide +kernel), (by decide +kernel), (by decide +kernel), by decide⟩, (tw_t 431 (by decide +kernel) (by decide +kernel))⟩
theorem vl_X0_21 : VI RX0 21 yX3_init cX3_init 2 0 := ⟨⟨(tw_t 132 (by decide +kernel) (by decide +kernel)), (tw_t 2 (by decide +kernel) (by decide +kernel)), (tw_t 22 (by decide +kernel) (by decide +kernel)), (by decide +kernel), (by decide +kernel), (by decide +kernel), by decide⟩, (tw_t 21 (by decide +kernel) (by decide +kernel)), rfl⟩
theorem vl_X0_22 : VV RX0 22 yX0_dropOldest cX0_dropOldest 3 none 0 := ⟨⟨(tw_t 188 (by decide +kernel) (by decide +kernel)), (tw_t 4 (by decide +kernel) (by decide +kernel)), (tw_t 191 (by decide +kernel) (by decide +kernel)), (by decide +kernel), (by decide +kernel), (by decide +kernel), by decide⟩, (tw_t 189 (by decide +kernel) (by decide +kernel)), (tw_t 190 (by decide +kernel) (by decide +kernel))⟩
theorem vl_X0_25 : VV RX0 25 yX3_copyFrom cX3_copyFrom 5 none 1 := ⟨⟨(tw_t 192 (by decide +kernel) (by decide +kernel)), (tw_t 2 (by decide +kernel) (by decide +kernel)), (tw_t 195 (by decide +kernel) (by decide +kernel)), (by decide +kernel), (by decide +kernel), (by decide +kernel), by decide⟩, (tw_t 193 (by decide +kernel) (by decide +kernel)), (tw_t 194 (by decide +kernel) (by decide +kernel))⟩
theorem vl_X1_19 : VV RX1 19 yX1_character cX1_character 2 (some .char) 1 := ⟨⟨(tw_t 227 (by decide +kernel) (by decide +kernel)), (tw_t 5 (by decide +kernel) (by decide +kernel)), (tw_t 230 (by decide +kernel) (by decide +kernel)), (by decide +kernel), (by decide +kernel), (by decide +kernel), by decide⟩, (tw_t 228 (by decide +kernel) (by decide +kernel)), (tw_t 229 (by decide +kernel) (by decide +kernel))⟩
theorem vl_X1_23 : VV RX1 23 yX1_canStand cX1_canStand 4 (some .boolean) 3 := ⟨⟨(tw_t 231 (by decide +kernel) (by decide +kernel)), (tw_t 5 (by decide +kernel) (by decide +kernel)), (tw_t 234 (by decide +kernel) (by decide +kernel)), (by decide +kernel), (by decide +kernel), (by decide +kernel), by decide⟩, (tw_t 232 (by decide +kernel) (by decide +kernel)), (tw_t 233 (by decide +kernel) (by decide +kernel))⟩
theorem vl_X1_27 : VV RX1 27 yX1_isDigit cX1_isDigit 2 (some .boolean) 1 := ⟨⟨(tw_t 235 (by decide +kernel) (by decide +kernel)), (tw_t 5 (by decide +kernel) (by decide +kernel)), (tw_t 238 (by decide +kernel) (by decide +kernel)), (by decide +kernel), (by decide +kernel), (by decide +kernel), by decide⟩, (tw_t 236 (by decide +kernel) (by decide +kernel)), (tw_t 237 (by decide +kernel) (by decide +kernel))⟩
theorem vl_X1_31 : VV RX1 31 yX1_shareWith cX1_shareWith 3 (some .int) 2 := ⟨⟨(tw_t 239 (by decide +kernel) (by decide +kernel)), (tw_t 5 (by decide +kernel) (by decide +kernel)), (tw_t 242 (by decide +kernel) (by decide +kernel)), (by decide +kernel), (by decide +kernel), (by decide +kernel), by decide⟩, (tw_t 240 (by decide +kernel) (by decide +kernel)), (tw_t 241 (by decide +kernel) (by decide +kernel))⟩
theorem vl_X1_35 : VV RX1 35 yX1_dueBehind cX1_dueBehind 3 (some .int) 2 := ⟨⟨(tw_t 243 (by decide +kernel) (by decide +kernel)), (tw_t 5 (by decide +kernel) (by decide +kernel)), (tw_t 246 (by decide +kernel) (by decide +kernel)), (by decide +kernel), (by decide +kernel), (by decide +kernel), by decide⟩, (tw_t 244 (by decide +kernel) (by decide +kernel)), (tw_t 245 (by decide +kernel) (by decide +kernel))⟩
theorem vl_X1_38 : VV RX1 38 yX3_admit cX3_admit 4 none 2 := ⟨⟨(tw_t 255 (by decide +kernel) (by decide +kernel)), (tw_t 2 (by decide +kernel) (by decide +kernel)), (tw_t 214 (by decide +kernel) (by decide +kernel)), (by decide +kernel), (by decide +kernel), (by decide +kernel), by decide⟩, (tw_t 212 (by decide +kernel) (by decide +kernel)), (tw_t 213 (by decide +kernel) (by decide +kernel))⟩
theorem vl_X3_70 : VV RX3 70 yX3_at cX3_at 2 (some (.object "PurrProbates$Person")) 1 := ⟨⟨(tw_t 199 (by decide +kernel) (by decide +kernel)), (tw_t 2 (by decide +kernel) (by decide +kernel)), (tw_t 202 (by decide +kernel) (by decide +kernel)), (by decide +kernel), (by decide +kernel), (by decide +kernel), by decide⟩, (tw_t 200 (by decide +kernel) (by decide +kernel)), (tw_t 201 (by decide +kernel) (by decide +kernel))⟩
theorem vl_X3_74 : VV RX3 74 yX2_copyFrom cX2_copyFrom 2 none 1 := ⟨⟨(tw_t 203 (by decide +kernel) (by decide +kernel)), (tw_t 3 (by decide +kernel) (by decide +kernel)), (tw_t 206 (by decide +kernel) (by decide +kernel)), (by decide +kernel), (by decide +kernel), (by decide +kernel), by decide⟩, (tw_t 204 (by decide +kernel) (by decide +kernel)), (tw_t 205 (by decide +kernel) (by decide +kernel))⟩
theorem vl_X3_82 : VV RX3 82 yX3_isBarred cX3_isBarred 2 (some .boolean) 1 := ⟨⟨(tw_t 292 (by decide +kernel) (by decide +kernel)), (tw_t 2 (by decide +kernel) (by decide +kernel)), (tw_t 295 (by decide +kernel) (by decide +kernel)), (by decide +kernel), (by decide +kernel), (by decide +kernel), by decide⟩, (tw_t 293 (by decide +kernel) (by decide +kernel)), (tw_t 294 (by decide +kernel) (by decide +kernel))⟩
theorem vl_X3_89 : VV RX3 89 yX2_begin cX2_begin 3 none 2 := ⟨⟨(tw_t 215 (by decide +kernel) (by decide +kernel)), (tw_t 3 (by decide +kernel) (by decide +kernel)), (tw_t 218 (by decide +kernel) (by decide +kernel)), (by decide +kernel), (by decide +kernel), (by decide +kernel), by decide⟩, (tw_t 216 (by decide +kernel) (by decide +kernel)), (tw_t 217 (by decide +kernel) (by decide +kernel))⟩
theorem vl_X3_93 : VV RX3 93 yX3_placeAfterMove cX3_placeAfterMove 4 (some .int) 3 := ⟨⟨(tw_t 265 (by decide +kernel) (by decide +kernel)), (tw_t 2 (by decide +kernel) (by decide +kernel)), (tw_t 268 (by decide +kernel) (by decide +kernel)), (by decide +kernel), (by decide +kernel), (by decide +kernel), by decide⟩, (tw_t 266 (by decide +kernel) (by decide +kernel)), (tw_t 267 (by decide +kernel) (by decide +kernel))⟩
theorem vl_X3_97 : VV RX3 97 yX3_leaveWithoutGuardian cX3_leaveWithoutGuardian 2 none 1 := ⟨⟨(tw_t 308 (by decide +kernel) (by decide +kernel)), (tw_t 2 (by decide +kernel) (by decide +kernel)), (tw_t 283 (by decide +kernel) (by decide +kernel)), (by decide +kernel), (by decide +kernel), (by decide +kernel), by decide⟩, (tw_t 281 (by decide +kernel) (by decide +kernel)), (tw_t 282 (by decide +kernel) (by decide +kernel))⟩
theorem vl_X3_101 : VV RX3 101 yX3_score cX3_score 2 (some .int) 1 := ⟨⟨(tw_t 300 (by decide +kernel) (by decide +kernel)), (tw_t 2 (by decide +kernel) (by decide +kernel)), (tw_t 303 (by decide +kernel) (by decide +kernel)), (by decide +kernel), (by decide +kernel), (by decide +kernel), by decide⟩, (tw_t 301 (by decide +kernel) (by decide +kernel)), (tw_t 302 (by decide +kernel) (by decide +kernel))⟩
theorem vl_X3_105 : VV RX3 105 yX3_depose cX3_depose 2 none 1 := ⟨⟨(tw_t 304 (by decide +kernel) (by decide +kernel)), (tw_t 2 (by decide +kernel) (by decide +kernel)), (tw_t 307 (by decide +kernel) (by decide +kernel)), (by decide +kernel), (by decide +kernel), (by decide +kernel), by decide⟩, (tw_t 305 (by decide +kernel) (by decide +kernel)), (tw_t 306 (by decide +kernel) (by decide +kernel))⟩
theorem vl_X3_108 : VV RX3 108 yX3_scratch cX3_scratch 2 none 1 := ⟨⟨(tw_t 309 (by decide +kernel) (by decide +kernel)), (tw_t 2 (by decide +kernel) (by decide +kernel)), (tw_t 312 (by decide +kernel) (by decide +kernel)), (by decide +kernel), (by decide +kernel), (by decide +kernel), by decide⟩, (tw_t 310 (by decide +kernel) (by decide +kernel)), (tw_t 311 (by decide +kernel) (by decide +kernel))⟩
theorem vl_X3_111 : VV RX3 111 yX3_liveDay cX3_liveDay 4 (some .int) 0 := ⟨⟨(tw_t 326 (by decide +kernel) (by decide +kernel)), (tw_t 2 (by decide +kernel) (by decide +kernel)), (tw_t 329 (by decide +kernel) (by decide +kernel)), (by decide +kernel), (by decide +kernel), (by decide +kernel), by decide⟩, (tw_t 327 (by decide +kernel) (by decide +kernel)), (tw_t 328 (by decide +kernel) (by decide +kernel))⟩
theorem vl_X3_115 : VV RX3 115 yX3_holdOutHand cX3_holdOutHand 3 (some .int) 0 := ⟨⟨(tw_t 330 (by decide +kernel) (by decide +kernel)), (tw_t 2 (by decide +kernel) (by decide +kernel)), (tw_t 333 (by decide +kernel) (by decide +kernel)), (by decide +kernel), (by decide +kernel), (by decide +kernel), by decide⟩, (tw_t 331 (by decide +kernel) (by decide +kernel)), (tw_t 332 (by decide +kernel) (by decide +kernel))⟩
theorem vl_X3_118 : VV RX3 118 yX3_endMonth cX3_endMonth 4 none 0 := ⟨⟨(tw_t 342 (by decide +kernel) (by decide +kernel)), (tw_t 2 (by decide +kernel) (by decide +kernel)), (tw_t 345 (by decide +kernel) (by decide +kernel)), (by decide +kernel), (by decide +kernel), (by decide +kernel), by decide⟩, (tw_t 343 (by decide +kernel) (by decide +kernel)), (tw_t 344 (by decide +kernel) (by decide +kernel))⟩
theorem vl_X3_121 : VS RX3 121 yJ6_compare_7cf53 cJ6_compare_7cf53 2 (some .int) 2 := ⟨⟨(tw_t 353 (by decide +kernel) (by decide +kernel)), (tw_t 9 (by decide +kernel) (by decide +kernel)), (tw_t 355 (by decide +kernel) (by decide +kernel)), (by decide +kernel), (by decide +kernel), (by decide +kernel), by decide⟩, (tw_t 354 (by decide +kernel) (by decide +kernel))⟩
theorem vl_X3_130 : VV RX3 130 yX3_nextHand cX3_nextHand 4 (some .int) 0 := ⟨⟨(tw_t 334 (by decide +kernel) (by decide +kernel)), (tw_t 2 (by decide +kernel) (by decide +kernel)), (tw_t 337 (by decide +kernel) (by decide +kernel)), (by decide +kernel), (by decide +kernel), (by decide +kernel), by decide⟩, (tw_t 335 (by decide +kernel) (by decide +kernel)), (tw_t 336 (by decide +kernel) (by decide +kernel))⟩
theorem vl_X3_134 : VS RX3 134 yJ9_max_7cf53 cJ9_max_7cf53 2 (some .int) 2 := ⟨⟨(tw_t 339 (by decide +kernel) (by decide +kernel)), (tw_t 8 (by decide +kernel) (by decide +kernel)), (tw_t 341 (by decide +kernel) (by decide +kernel)), (by decide +kernel), (by decide +kernel), (by decide +kernel), by decide⟩, (tw_t 340 (by decide +kernel) (by decide +kernel))⟩
theorem vl_X3_139 : VV RX3 139 yX3_behind cX3_behind 2 (some .int) 1 := ⟨⟨(tw_t 338 (by decide +kernel) (by decide +kernel)), (tw_t 2 (by decide +kernel) (by decide +kernel)), (tw_t 279 (by decide +kernel) (by decide +kernel)), (by decide +kernel), (by decide +kernel), (by decide +kernel), by decide⟩, (tw_t 277 (by decide +kernel) (by decide +kernel)), (tw_t 278 (by decide +kernel) (by decide +kernel))⟩
theorem vl_X3_143 : VV RX3 143 yX3_draw cX3_draw 3 (some .int) 1 := ⟨⟨(tw_t 346 (by decide +kernel) (by decide +kernel)), (tw_t 2 (by decide +kernel) (by decide +kernel)), (tw_t 349 (by decide +kernel) (by decide +kernel)), (by decide +kernel), (by decide +kernel), (by decide +kernel), by decide⟩, (tw_t 347 (by decide +kernel) (by decide +kernel)), (tw_t 348 (by decide +kernel) (by decide +kernel))⟩
theorem vl_X3_149 : VS RX3 149 yJ9_min_7cf53 cJ9_min_7cf53 2 (some .int) 2 := ⟨⟨(tw_t 350 (by decide +kernel) (by decide +kernel)), (tw_t 8 (by decide +kernel) (by decide +kernel)), (tw_t 352 (by decide +kernel) (by decide +kernel)), (by decide +kernel), (by decide +kernel), (by decide +kernel), by decide⟩, (tw_t 351 (by decide +kernel) (by decide +kernel))⟩
theorem vl_L_9 : VI RL 9 yX4_init cX4_init 1 0 := ⟨⟨(tw_t 12 (by decide +kernel) (by decide +kernel)), (tw_t 1 (by decide +kernel) (by decide +kernel)), (tw_t 14 (by decide +kernel) (by decide +kernel)), (by decide +kernel), (by decide +kernel), (by decide +kernel), by decide⟩, (tw_t 13 (by decide +kernel) (by decide +kernel)), rfl⟩
theorem vl_L_12 : VI RL 12 yX5_init cX5_init 1 0 := ⟨⟨(tw_t 439 (by decide +kernel) (by decide +kernel)), (tw_t 6 (by decide +kernel) (by decide +kernel)), (tw_t 441 (by decide +kernel) (by decide +kernel)), (by decide +kernel), (by decide +kernel), (by decide +kernel), by decide⟩, (tw_t 440 (by decide +kernel) (by decide +kernel)), rfl⟩
theorem vl_L_13 : VV RL 13 yX4_set cX4_set 4 (some .int) 2 := ⟨⟨(tw_t 172 (by decide +kernel) (by decide +kernel)), (tw_t 1 (by decide +kernel) (by decide +kernel)), (tw_t 175 (by decide +kernel) (by decide +kernel)), (by decide +kernel), (by decide +kernel), (by decide +kernel), by decide⟩, (tw_t 173 (by decide +kernel) (by decide +kernel)), (tw_t 174 (by decide +kernel) (by decide +kernel))⟩
theorem vl_L_17 : VV RL 17 yX5_set cX5_set 4 (some .int) 2 := ⟨⟨(tw_t 466 (by decide +kernel) (by decide +kernel)), (tw_t 6 (by decide +kernel) (by decide +kernel)), (tw_t 469 (by decide +kernel) (by decide +kernel)), (by decide +kernel), (by decide +kernel), (by decide +kernel), by decide⟩, (tw_t 467 (by decide +kernel) (by decide +kernel)), (tw_t 468 (by decide +kernel) (by decide +kernel))⟩
theorem vl_L_18 : VV RL 18 yX4_add cX4_add 3 (some .int) 2 := ⟨⟨(tw_t 207 (by decide +kernel) (by decide +kernel)), (tw_t 1 (by decide +kernel) (by decide +kernel)), (tw_t 210 (by decide +kernel) (by decide +kernel)), (by decide +kernel), (by decide +kernel), (by decide +kernel), by decide⟩, (tw_t 208 (by decide +kernel) (by decide +kernel)), (tw_t 209 (by decide +kernel) (by decide +kernel))⟩
theorem vl_L_21 : VV RL 21 yX5_add cX5_add 3 (some .int) 2 := ⟨⟨(tw_t 483 (by decide +kernel) (by decide +kernel)), (tw_t 6 (by decide +kernel) (by decide +kernel)), (tw_t 486 (by decide +kernel) (by decide +kernel)), (by decide +kernel), (by decide +kernel), (by decide +kernel), by decide⟩, (tw_t 484 (by decide +kernel) (by decide +kernel)), (tw_t 485 (by decide +kernel) (by decide +kernel))⟩
theorem vl_L_22 : VV RL 22 yX4_read cX4_read 1 (some .int) 0 := ⟨⟨(tw_t 219 (by decide +kernel) (by decide +kernel)), (tw_t 1 (by decide +kernel) (by decide +kernel)), (tw_t 222 (by decide +kernel) (by decide +kernel)), (by decide +kernel), (by decide +kernel), (by decide +kernel), by decide⟩, (tw_t 220 (by decide +kernel) (by decide +kernel)), (tw_t 221 (by decide +kernel) (by decide +kernel))⟩
theorem vl_L_26 : VV RL 26 yX5_read cX5_read 2 (some .int) 0 := ⟨⟨(tw_t 638 (by decide +kernel) (by decide +kernel)), (tw_t 6 (by decide +kernel) (by decide +kernel)), (tw_t 641 (by decide +kernel) (by decide +kernel)), (by decide +kernel), (by decide +kernel), (by decide +kernel), by decide⟩, (tw_t 639 (by decide +kernel) (by decide +kernel)), (tw_t 640 (by decide +kernel) (by decide +kernel))⟩
theorem vl_L_27 : VV RL 27 yX4_move cX4_move 3 (some .int) 2 := ⟨⟨(tw_t 256 (by decide +kernel) (by decide +kernel)), (tw_t 1 (by decide +kernel) (by decide +kernel)), (tw_t 259 (by decide +kernel) (by decide +kernel)), (by decide +kernel), (by decide +kernel), (by decide +kernel), by decide⟩, (tw_t 257 (by decide +kernel) (by decide +kernel)), (tw_t 258 (by decide +kernel) (by decide +kernel))⟩
theorem vl_L_30 : VV RL 30 yX5_move cX5_move 4 (some .int) 2 := ⟨⟨(tw_t 494 (by decide +kernel) (by decide +kernel)), (tw_t 6 (by decide +kernel) (by decide +kernel)), (tw_t 497 (by decide +kernel) (by decide +kernel)), (by decide +kernel), (by decide +kernel), (by decide +kernel), by decide⟩, (tw_t 495 (by decide +kernel) (by decide +kernel)), (tw_t 496 (by decide +kernel) (by decide +kernel))⟩
theorem vl_L_31 : VV RL 31 yX4_stepDown cX4_stepDown 2 (some .int) 0 := ⟨⟨(tw_t 272 (by decide +kernel) (by decide +kernel)), (tw_t 1 (by decide +kernel) (by decide +kernel)), (tw_t 275 (by decide +kernel) (by decide +kernel)), (by decide +kernel), (by decide +kernel), (by decide +kernel), by decide⟩, (tw_t 273 (by decide +kernel) (by decide +kernel)), (tw_t 274 (by decide +kernel) (by decide +kernel))⟩
theorem vl_L_34 : VV RL 34 yX5_stepDown cX5_stepDown 2 (some .int) 0 := ⟨⟨(tw_t 513 (by decide +kernel) (by decide +kernel)), (tw_t 6 (by decide +kernel) (by decide +kernel)), (tw_t 516 (by decide +kernel) (by decide +kernel)), (by decide +kernel), (by decide +kernel), (by decide +kernel), by decide⟩, (tw_t 514 (by decide +kernel) (by decide +kernel)), (tw_t 515 (by decide +kernel) (by decide +kernel))⟩
theorem vl_L_35 : VV RL 35 yX4_appeal cX4_appeal 2 (some .int) 1 := ⟨⟨(tw_t 284 (by decide +kernel) (by decide +kernel)), (tw_t 1 (by decide +kernel) (by decide +kernel)), (tw_t 287 (by decide +kernel) (by decide +kernel)), (by decide +kernel), (by decide +kernel), (by decide +kernel), by decide⟩, (tw_t 285 (by decide +kernel) (by decide +kernel)), (tw_t 286 (by decide +kernel) (by decide +kernel))⟩
theorem vl_L_39 : VV RL 39 yX5_appeal cX5_appeal 2 (some .int) 1 := ⟨⟨(tw_t 521 (by decide +kernel) (by decide +kernel)), (tw_t 6 (by decide +kernel) (by decide +kernel)), (tw_t 524 (by decide +kernel) (by decide +kernel)), (by decide +kernel), (by decide +kernel), (by decide +kernel), by decide⟩, (tw_t 522 (by decide +kernel) (by decide +kernel)), (tw_t 523 (by decide +kernel) (by decide +kernel))⟩
theorem vl_L_40 : VV RL 40 yX4_give cX4_give 2 (some .int) 1 := ⟨⟨(tw_t 313 (by decide +kernel) (by decide +kernel)), (tw_t 1 (by decide +kernel) (by decide +kernel)), (tw_t 316 (by decide +kernel) (by decide +kernel)), (by decide +kernel), (by decide +kernel), (by decide +kernel), by decide⟩, (tw_t 314 (by decide +kernel) (by decide +kernel)), (tw_t 315 (by decide +kernel) (by decide +kernel))⟩
theorem vl_L_43 : VV RL 43 yX5_give cX5_give 2 (some .int) 1 := ⟨⟨(tw_t 545 (by decide +kernel) (by decide +kernel)), (tw_t 6 (by decide +kernel) (by decide +kernel)), (tw_t 548 (by decide +kernel) (by decide +kernel)), (by decide +kernel), (by decide +kernel), (by decide +kernel), by decide⟩, (tw_t 546 (by decide +kernel) (by decide +kernel)), (tw_t 547 (by decide +kernel) (by decide +kernel))⟩
theorem vl_L_44 : VV RL 44 yX4_pass cX4_pass 3 (some .int) 1 := ⟨⟨(tw_t 318 (by decide +kernel) (by decide +kernel)), (tw_t 1 (by decide +kernel) (by decide +kernel)), (tw_t 321 (by decide +kernel) (by decide +kernel)), (by decide +kernel), (by decide +kernel), (by decide +kernel), by decide⟩, (tw_t 319 (by decide +kernel) (by decide +kernel)), (tw_t 320 (by decide +kernel) (by decide +kernel))⟩
theorem vl_L_47 : VV RL 47 yX5_pass cX5_pass 2 (some .int) 1 := ⟨⟨(tw_t 550 (by decide +kernel) (by decide +kernel)), (tw_t 6 (by decide +kernel) (by decide +kernel)), (tw_t 553 (by decide +kernel) (by decide +kernel)), (by decide +kernel), (by decide +kernel), (by decide +kernel), by decide⟩, (tw_t 551 (by decide +kernel) (by decide +kernel)), (tw_t 552 (by decide +kernel) (by decide +kernel))⟩
theorem vl_L_48 : VV RL 48 yX4_person cX4_person 4 (some .int) 2 := ⟨⟨(tw_t 356 (by decide +kernel) (by decide +kernel)), (tw_t 1 (by decide +kernel) (by decide +kernel)), (tw_t 359 (by decide +kernel) (by decide +kernel)), (by decide +kernel), (by decide +kernel), (by decide +kernel), by decide⟩, (tw_t 357 (by decide +kernel) (by decide +kernel)), (tw_t 358 (by decide +kernel) (by decide +kernel))⟩
theorem vl_L_51 : VV RL 51 yX5_person cX5_person 3 (some .int) 2 := ⟨⟨(tw_t 577 (by decide +kernel) (by decide +kernel)), (tw_t 6 (by decide +kernel) (by decide +kernel)), (tw_t 580 (by decide +kernel) (by decide +kernel)), (by decide +kernel), (by decide +kernel), (by decide +kernel), by decide⟩, (tw_t 578 (by decide +kernel) (by decide +kernel)), (tw_t 579 (by decide +kernel) (by decide +kernel))⟩
theorem vl_L_52 : VV RL 52 yX4_count cX4_count 2 (some .int) 1 := ⟨⟨(tw_t 362 (by decide +kernel) (by decide +kernel)), (tw_t 1 (by decide +kernel) (by decide +kernel)), (tw_t 365 (by decide +kernel) (by decide +kernel)), (by decide +kernel), (by decide +kernel), (by decide +kernel), by decide⟩, (tw_t 363 (by decide +kernel) (by decide +kernel)), (tw_t 364 (by decide +kernel) (by decide +kernel))⟩
theorem vl_L_55 : VV RL 55 yX5_count cX5_count 2 (some .int) 1 := ⟨⟨(tw_t 581 (by decide +kernel) (by decide +kernel)), (tw_t 6 (by decide +kernel) (by decide +kernel)), (tw_t 584 (by decide +kernel) (by decide +kernel)), (by decide +kernel), (by decide +kernel), (by decide +kernel), by decide⟩, (tw_t 582 (by decide +kernel) (by decide +kernel)), (tw_t 583 (by decide +kernel) (by decide +kernel))⟩
theorem vl_L_56 : VV RL 56 yX4_next cX4_next 4 (some .int) 1 := ⟨⟨(tw_t 374 (by decide +kernel) (by decide +kernel)), (tw_t 1 (by decide +kernel) (by decide +kernel)), (tw_t 377 (by decide +kernel) (by decide +kernel)), (by decide +kernel), (by decide +kernel), (by decide +kernel), by decide⟩, (tw_t 375 (by decide +kernel) (by decide +kernel)), (tw_t 376 (by decide +kernel) (by decide +kernel))⟩
theorem vl_L_59 : VV RL 59 yX5_next cX5_next 6 (some .int) 1 := ⟨⟨(tw_t 589 (by decide +kernel) (by decide +kernel)), (tw_t 6 (by decide +kernel) (by decide +kernel)), (tw_t 592 (by decide +kernel) (by decide +kernel)), (by decide +kernel), (by decide +kernel), (by decide +kernel), by decide⟩, (tw_t 590 (by decide +kernel) (by decide +kernel)), (tw_t 591 (by decide +kernel) (by decide +kernel))⟩
theorem vl_L_60 : VV RL 60 yX4_untilEmpty cX4_untilEmpty 2 (some .int) 0 := ⟨⟨(tw_t 380 (by decide +kernel) (by decide +kernel)), (tw_t 1 (by decide +kernel) (by decide +kernel)), (tw_t 383 (by decide +kernel) (by decide +kernel)), (by decide +kernel), (by decide +kernel), (by decide +kernel), by decide⟩, (tw_t 381 (by decide +kernel) (by decide +kernel)), (tw_t 382 (by decide +kernel) (by decide +kernel))⟩
theorem vl_L_63 : VV RL 63 yX5_untilEmpty cX5_untilEmpty 3 (some .int) 0 := ⟨⟨(tw_t 597 (by decide +kernel) (by decide +kernel)), (tw_t 6 (by decide +kernel) (by decide +kernel)), (tw_t 600 (by decide +kernel) (by decide +kernel)), (by decide +kernel), (by decide +kernel), (by decide +kernel), by decide⟩, (tw_t 598 (by decide +kernel) (by decide +kernel)), (tw_t 599 (by decide +kernel) (by decide +kernel))⟩
theorem vl_L_64 : VV RL 64 yX4_ifPassed cX4_ifPassed 3 (some .int) 2 := ⟨⟨(tw_t 384 (by decide +kernel) (by decide +kernel)), (tw_t 1 (by decide +kernel) (by decide +kernel)), (tw_t 387 (by decide +kernel) (by decide +kernel)), (by decide +kernel), (by decide +kernel), (by decide +kernel), by decide⟩, (tw_t 385 (by decide +kernel) (by decide +kernel)), (tw_t 386 (by decide +kernel) (by decide +kernel))⟩
theorem vl_L_67 : VV RL 67 yX5_ifPassed cX5_ifPassed 4 (some .int) 2 := ⟨⟨(tw_t 601 (by decide +kernel) (by decide +kernel)), (tw_t 6 (by decide +kernel) (by decide +kernel)), (tw_t 604 (by decide +kernel) (by decide +kernel)), (by decide +kernel), (by decide +kernel), (by decide +kernel), by decide⟩, (tw_t 602 (by decide +kernel) (by decide +kernel)), (tw_t 603 (by decide +kernel) (by decide +kernel))⟩
theorem vl_L_68 : VV RL 68 yX4_bestPlace cX4_bestPlace 7 (some .int) 2 := ⟨⟨(tw_t 388 (by decide +kernel) (by decide +kernel)), (tw_t 1 (by decide +kernel) (by decide +kernel)), (tw_t 391 (by decide +kernel) (by decide +kernel)), (by decide +kernel), (by decide +kernel), (by decide +kernel), by decide⟩, (tw_t 389 (by decide +kernel) (by decide +kernel)), (tw_t 390 (by decide +kernel) (by decide +kernel))⟩
theorem vl_L_71 : VV RL 71 yX5_bestPlace cX5_bestPlace 9 (some .int) 2 := ⟨⟨(tw_t 605 (by decide +kernel) (by decide +kernel)), (tw_t 6 (by decide +kernel) (by decide +kernel)), (tw_t 608 (by decide +kernel) (by decide +kernel)), (by decide +kernel), (by decide +kernel), (by decide +kernel), by decide⟩, (tw_t 606 (by decide +kernel) (by decide +kernel)), (tw_t 607 (by decide +kernel) (by decide +kernel))⟩
theorem vl_L_74 : VV RL 74 yX4_put cX4_put 5 (some .int) 1 := ⟨⟨(tw_t 396 (by decide +kernel) (by decide +kernel)), (tw_t 1 (by decide +kernel) (by decide +kernel)), (tw_t 399 (by decide +kernel) (by decide +kernel)), (by decide +kernel), (by decide +kernel), (by decide +kernel), by decide⟩, (tw_t 397 (by decide +kernel) (by decide +kernel)), (tw_t 398 (by decide +kernel) (by decide +kernel))⟩
theorem vl_L_78 : VV RL 78 yX5_put cX5_put 8 (some .int) 1 := ⟨⟨(tw_t 609 (by decide +kernel) (by decide +kernel)), (tw_t 6 (by decide +kernel) (by decide +kernel)), (tw_t 612 (by decide +kernel) (by decide +kernel)), (by decide +kernel), (by decide +kernel), (by decide +kernel), by decide⟩, (tw_t 610 (by decide +kernel) (by decide +kernel)), (tw_t 611 (by decide +kernel) (by decide +kernel))⟩
theorem vl_L_79 : VV RL 79 yX4_wipe cX4_wipe 2 (some .int) 0 := ⟨⟨(tw_t 410 (by decide +kernel) (by decide +kernel)), (tw_t 1 (by decide +kernel) (by decide +kernel)), (tw_t 413 (by decide +kernel) (by decide +kernel)), (by decide +kernel), (by decide +kernel), (by decide +kernel), by decide⟩, (tw_t 411 (by decide +kernel) (by decide +kernel)), (tw_t 412 (by decide +kernel) (by decide +kernel))⟩
theorem vl_L_82 : VV RL 82 yX5_wipe cX5_wipe 2 (some .int) 0 := ⟨⟨(tw_t 614 (by decide +kernel) (by decide +kernel)), (tw_t 6 (by decide +kernel) (by decide +kernel)), (tw_t 617 (by decide +kernel) (by decide +kernel)), (by decide +kernel), (by decide +kernel), (by decide +kernel), by decide⟩, (tw_t 615 (by decide +kernel) (by decide +kernel)), (tw_t 616 (by decide +kernel) (by decide +kernel))⟩
theorem vl_L_83 : VV RL 83 yX4_fault cX4_fault 1 (some .int) 0 := ⟨⟨(tw_t 414 (by decide +kernel) (by decide +kernel)), (tw_t 1 (by decide +kernel) (by decide +kernel)), (tw_t 417 (by decide +kernel) (by decide +kernel)), (by decide +kernel), (by decide +kernel), (by decide +kernel), by decide⟩, (tw_t 415 (by decide +kernel) (by decide +kernel)), (tw_t 416 (by decide +kernel) (by decide +kernel))⟩
theorem vl_L_86 : VV RL 86 yX5_fault cX5_fault 4 (some .int) 0 := ⟨⟨(tw_t 618 (by decide +kernel) (by decide +kernel)), (tw_t 6 (by decide +kernel) (by decide +kernel)), (tw_t 621 (by decide +kernel) (by decide +kernel)), (by decide +kernel), (by decide +kernel), (by decide +kernel), by decide⟩, (tw_t 619 (by decide +kernel) (by decide +kernel)), (tw_t 620 (by decide +kernel) (by decide +kernel))⟩
theorem vl_L_87 : VV RL 87 yX4_undo cX4_undo 1 (some .int) 0 := ⟨⟨(tw_t 418 (by decide +kernel) (by decide +kernel)), (tw_t 1 (by decide +kernel) (by decide +kernel)), (tw_t 421 (by decide +kernel) (by decide +kernel)), (by decide +kernel), (by decide +kernel), (by decide +kernel), by decide⟩, (tw_t 419 (by decide +kernel) (by decide +kernel)), (tw_t 420 (by decide +kernel) (by decide +kernel))⟩
theorem vl_L_90 : VV RL 90 yX5_undo cX5_undo 2 (some .int) 0 := ⟨⟨(tw_t 651 (by decide +kernel) (by decide +kernel)), (tw_t 6 (by decide +kernel) (by decide +kernel)), (tw_t 654 (by decide +kernel) (by decide +kernel)), (by decide +kernel), (by decide +kernel), (by decide +kernel), by decide⟩, (tw_t 652 (by decide +kernel) (by decide +kernel)), (tw_t 653 (by decide +kernel) (by decide +kernel))⟩
theorem vl_L_91 : VV RL 91 yX4_save cX4_save 2 (some .int) 1 := ⟨⟨(tw_t 426 (by decide +kernel) (by decide +kernel)), (tw_t 1 (by decide +kernel) (by decide +kernel)), (tw_t 429 (by decide +kernel) (by decide +kernel)), (by decide +kernel), (by decide +kernel), (by decide +kernel), by decide⟩, (tw_t 427 (by decide +kernel) (by decide +kernel)), (tw_t 428 (by decide +kernel) (by decide +kernel))⟩
theorem vl_L_94 : VV RL 94 yX5_save cX5_save 3 (some .int) 1 := ⟨⟨(tw_t 655 (by decide +kernel) (by decide +kernel)), (tw_t 6 (by decide +kernel) (by decide +kernel)), (tw_t 658 (by decide +kernel) (by decide +kernel)), (by decide +kernel), (by decide +kernel), (by decide +kernel), by decide⟩, (tw_t 656 (by decide +kernel) (by decide +kernel)), (tw_t 657 (by decide +kernel) (by decide +kernel))⟩
theorem vl_L_95 : VV RL 95 yX4_restore cX4_restore 3 (some .int) 1 := ⟨⟨(tw_t 433 (by decide +kernel) (by decide +kernel)), (tw_t 1 (by decide +kernel) (by decide +kernel)), (tw_t 436 (by decide +kernel) (by decide +kernel)), (by decide +kernel), (by decide +kernel), (by decide +kernel), by decide⟩, (tw_t 434 (by decide +kernel) (by decide +kernel)), (tw_t 435 (by decide +kernel) (by decide +kernel))⟩
theorem vl_L_98 : VV RL 98 yX5_restore cX5_restore 3 (some .int) 1 := ⟨⟨(tw_t 659 (by decide +kernel) (by decide +kernel)), (tw_t 6 (by decide +kernel) (by decide +kernel)), (tw_t 662 (by decide +kernel) (by decide +kernel)), (by decide +kernel), (by decide +kernel), (by decide +kernel), by decide⟩, (tw_t 660 (by decide +kernel) (by decide +kernel)), (tw_t 661 (by decide +kernel) (by decide +kernel))⟩
theorem vl_X5_26 : VS RX5 26 yX5_in cX5_in 3 (some .boolean) 3 := ⟨⟨(tw_t 470 (by decide +kernel) (by decide +kernel)), (tw_t 6 (by decide +kernel) (by decide +kernel)), (tw_t 472 (by decide +kernel) (by decide +kernel)), (by decide +kernel), (by decide +kernel), (by decide +kernel), by decide⟩, (tw_t 471 (by decide +kernel) (by decide +kernel))⟩
theorem vl_X5_34 : VS RX5 34 yX5_at cX5_at 2 (some .int) 2 := ⟨⟨(tw_t 491 (by decide +kernel) (by decide +kernel)), (tw_t 6 (by decide +kernel) (by decide +kernel)), (tw_t 493 (by decide +kernel) (by decide +kernel)), (by decide +kernel), (by decide +kernel), (by decide +kernel), by decide⟩, (tw_t 492 (by decide +kernel) (by decide +kernel))⟩
theorem vl_X5_38 : VV RX5 38 yX5_isBarred cX5_isBarred 3 (some .boolean) 2 := ⟨⟨(tw_t 529 (by decide +kernel) (by decide +kernel)), (tw_t 6 (by decide +kernel) (by decide +kernel)), (tw_t 532 (by decide +kernel) (by decide +kernel)), (by decide +kernel), (by decide +kernel), (by decide +kernel), by decide⟩, (tw_t 531 (by decide +kernel) (by decide +kernel)), (tw_p 8 (by decide +kernel) (by decide +kernel))⟩
theorem vl_X5_42 : VV RX5 42 yX5_hand cX5_hand 4 (some .int) 1 := ⟨⟨(tw_t 566 (by decide +kernel) (by decide +kernel)), (tw_t 6 (by decide +kernel) (by decide +kernel)), (tw_t 569 (by decide +kernel) (by decide +kernel)), (by decide +kernel), (by decide +kernel), (by decide +kernel), by decide⟩, (tw_t 568 (by decide +kernel) (by decide +kernel)), (tw_p 15 (by decide +kernel) (by decide +kernel))⟩
theorem vl_X5_46 : VV RX5 46 yX5_score cX5_score 3 (some .int) 2 := ⟨⟨(tw_t 533 (by decide +kernel) (by decide +kernel)), (tw_t 6 (by decide +kernel) (by decide +kernel)), (tw_t 536 (by decide +kernel) (by decide +kernel)), (by decide +kernel), (by decide +kernel), (by decide +kernel), by decide⟩, (tw_t 535 (by decide +kernel) (by decide +kernel)), (tw_p 9 (by decide +kernel) (by decide +kernel))⟩
theorem vl_X5_49 : VV RX5 49 yX5_scratches cX5_scratches 3 none 2 := ⟨⟨(tw_t 541 (by decide +kernel) (by decide +kernel)), (tw_t 6 (by decide +kernel) (by decide +kernel)), (tw_t 544 (by decide +kernel) (by decide +kernel)), (by decide +kernel), (by decide +kernel), (by decide +kernel), by decide⟩, (tw_t 543 (by decide +kernel) (by decide +kernel)), (tw_p 11 (by decide +kernel) (by decide +kernel))⟩
theorem vl_X5_53 : VV RX5 53 yX5_behind cX5_behind 3 (some .int) 2 := ⟨⟨(tw_t 517 (by decide +kernel) (by decide +kernel)), (tw_t 6 (by decide +kernel) (by decide +kernel)), (tw_t 520 (by decide +kernel) (by decide +kernel)), (by decide +kernel), (by decide +kernel), (by decide +kernel), by decide⟩, (tw_t 519 (by decide +kernel) (by decide +kernel)), (tw_p 6 (by decide +kernel) (by decide +kernel))⟩
theorem vl_X5_56 : VS RX5 56 yX5_less cX5_less 2 (some .int) 2 := ⟨⟨(tw_t 574 (by decide +kernel) (by decide +kernel)), (tw_t 6 (by decide +kernel) (by decide +kernel)), (tw_t 576 (by decide +kernel) (by decide +kernel)), (by decide +kernel), (by decide +kernel), (by decide +kernel), by decide⟩, (tw_t 575 (by decide +kernel) (by decide +kernel))⟩
theorem vl_X5_59 : VV RX5 59 yX5_deposes cX5_deposes 3 none 2 := ⟨⟨(tw_t 537 (by decide +kernel) (by decide +kernel)), (tw_t 6 (by decide +kernel) (by decide +kernel)), (tw_t 540 (by decide +kernel) (by decide +kernel)), (by decide +kernel), (by decide +kernel), (by decide +kernel), by decide⟩, (tw_t 539 (by decide +kernel) (by decide +kernel)), (tw_p 10 (by decide +kernel) (by decide +kernel))⟩
theorem vl_X5_62 : VV RX5 62 yX5_purrs cX5_purrs 3 (some .boolean) 1 := ⟨⟨(tw_t 562 (by decide +kernel) (by decide +kernel)), (tw_t 6 (by decide +kernel) (by decide +kernel)), (tw_t 565 (by decide +kernel) (by decide +kernel)), (by decide +kernel), (by decide +kernel), (by decide +kernel), by decide⟩, (tw_t 564 (by decide +kernel) (by decide +kernel)), (tw_p 14 (by decide +kernel) (by decide +kernel))⟩
theorem vl_X5_66 : VV RX5 66 yX5_pays cX5_pays 5 none 1 := ⟨⟨(tw_t 570 (by decide +kernel) (by decide +kernel)), (tw_t 6 (by decide +kernel) (by decide +kernel)), (tw_t 573 (by decide +kernel) (by decide +kernel)), (by decide +kernel), (by decide +kernel), (by decide +kernel), by decide⟩, (tw_t 572 (by decide +kernel) (by decide +kernel)), (tw_p 16 (by decide +kernel) (by decide +kernel))⟩
theorem vl_X5_70 : VV RX5 70 yX5_passesOne cX5_passesOne 3 (some .boolean) 1 := ⟨⟨(tw_t 558 (by decide +kernel) (by decide +kernel)), (tw_t 6 (by decide +kernel) (by decide +kernel)), (tw_t 561 (by decide +kernel) (by decide +kernel)), (by decide +kernel), (by decide +kernel), (by decide +kernel), by decide⟩, (tw_t 560 (by decide +kernel) (by decide +kernel)), (tw_p 13 (by decide +kernel) (by decide +kernel))⟩
theorem vl_X5_73 : VV RX5 73 yX5_changesPlaces cX5_changesPlaces 6 none 3 := ⟨⟨(tw_t 506 (by decide +kernel) (by decide +kernel)), (tw_t 6 (by decide +kernel) (by decide +kernel)), (tw_t 509 (by decide +kernel) (by decide +kernel)), (by decide +kernel), (by decide +kernel), (by decide +kernel), by decide⟩, (tw_t 508 (by decide +kernel) (by decide +kernel)), (tw_p 5 (by decide +kernel) (by decide +kernel))⟩
theorem vl_X5_77 : VS RX5 77 yX5_moved cX5_moved 3 (some .int) 3 := ⟨⟨(tw_t 510 (by decide +kernel) (by decide +kernel)), (tw_t 6 (by decide +kernel) (by decide +kernel)), (tw_t 512 (by decide +kernel) (by decide +kernel)), (by decide +kernel), (by decide +kernel), (by decide +kernel), by decide⟩, (tw_t 511 (by decide +kernel) (by decide +kernel))⟩
theorem vl_X5_81 : VS RX5 81 yX5_lowOf cX5_lowOf 1 (some .int) 1 := ⟨⟨(tw_t 473 (by decide +kernel) (by decide +kernel)), (tw_t 6 (by decide +kernel) (by decide +kernel)), (tw_t 475 (by decide +kernel) (by decide +kernel)), (by decide +kernel), (by decide +kernel), (by decide +kernel), by decide⟩, (tw_t 474 (by decide +kernel) (by decide +kernel))⟩
theorem vl_X5_84 : VS RX5 84 yX5_highOf cX5_highOf 1 (some .int) 1 := ⟨⟨(tw_t 476 (by decide +kernel) (by decide +kernel)), (tw_t 6 (by decide +kernel) (by decide +kernel)), (tw_t 478 (by decide +kernel) (by decide +kernel)), (by decide +kernel), (by decide +kernel), (by decide +kernel), by decide⟩, (tw_t 477 (by decide +kernel) (by decide +kernel))⟩
theorem vl_X5_87 : VV RX5 87 yX5_remembers cX5_remembers 2 none 0 := ⟨⟨(tw_t 479 (by decide +kernel) (by decide +kernel)), (tw_t 6 (by decide +kernel) (by decide +kernel)), (tw_t 482 (by decide +kernel) (by decide +kernel)), (by decide +kernel), (by decide +kernel), (by decide +kernel), by decide⟩, (tw_t 481 (by decide +kernel) (by decide +kernel)), (tw_p 1 (by decide +kernel) (by decide +kernel))⟩
theorem vl_X5_90 : VV RX5 90 yX5_comes cX5_comes 5 none 2 := ⟨⟨(tw_t 487 (by decide +kernel) (by decide +kernel)), (tw_t 6 (by decide +kernel) (by decide +kernel)), (tw_t 490 (by decide +kernel) (by decide +kernel)), (by decide +kernel), (by decide +kernel), (by decide +kernel), by decide⟩, (tw_t 489 (by decide +kernel) (by decide +kernel)), (tw_p 2 (by decide +kernel) (by decide +kernel))⟩
theorem vl_X5_93 : VV RX5 93 yX5_isPerson cX5_isPerson 2 (some .boolean) 1 := ⟨⟨(tw_t 498 (by decide +kernel) (by decide +kernel)), (tw_t 6 (by decide +kernel) (by decide +kernel)), (tw_t 501 (by decide +kernel) (by decide +kernel)), (by decide +kernel), (by decide +kernel), (by decide +kernel), by decide⟩, (tw_t 500 (by decide +kernel) (by decide +kernel)), (tw_p 3 (by decide +kernel) (by decide +kernel))⟩
theorem vl_X5_96 : VV RX5 96 yX5_moves cX5_moves 6 none 3 := ⟨⟨(tw_t 502 (by decide +kernel) (by decide +kernel)), (tw_t 6 (by decide +kernel) (by decide +kernel)), (tw_t 505 (by decide +kernel) (by decide +kernel)), (by decide +kernel), (by decide +kernel), (by decide +kernel), by decide⟩, (tw_t 504 (by decide +kernel) (by decide +kernel)), (tw_p 4 (by decide +kernel) (by decide +kernel))⟩
theorem vl_X5_99 : VV RX5 99 yX5_canAppeal cX5_canAppeal 3 (some .boolean) 1 := ⟨⟨(tw_t 525 (by decide +kernel) (by decide +kernel)), (tw_t 6 (by decide +kernel) (by decide +kernel)), (tw_t 528 (by decide +kernel) (by decide +kernel)), (by decide +kernel), (by decide +kernel), (by decide +kernel), by decide⟩, (tw_t 527 (by decide +kernel) (by decide +kernel)), (tw_p 7 (by decide +kernel) (by decide +kernel))⟩
theorem vl_X5_103 : VV RX5 103 yX5_passes cX5_passes 5 (some .int) 2 := ⟨⟨(tw_t 554 (by decide +kernel) (by decide +kernel)), (tw_t 6 (by decide +kernel) (by decide +kernel)), (tw_t 557 (by decide +kernel) (by decide +kernel)), (by decide +kernel), (by decide +kernel), (by decide +kernel), by decide⟩, (tw_t 556 (by decide +kernel) (by decide +kernel)), (tw_p 12 (by decide +kernel) (by decide +kernel))⟩
theorem vl_X5_106 : VV RX5 106 yX5_ofAll cX5_ofAll 4 (some .int) 1 := ⟨⟨(tw_t 585 (by decide +kernel) (by decide +kernel)), (tw_t 6 (by decide +kernel) (by decide +kernel)), (tw_t 588 (by decide +kernel) (by decide +kernel)), (by decide +kernel), (by decide +kernel), (by decide +kernel), by decide⟩, (tw_t 587 (by decide +kernel) (by decide +kernel)), (tw_p 17 (by decide +kernel) (by decide +kernel))⟩
theorem vl_X5_112 : VV RX5 112 yX5_copies cX5_copies 2 none 0 := ⟨⟨(tw_t 593 (by decide +kernel) (by decide +kernel)), (tw_t 6 (by decide +kernel) (by decide +kernel)), (tw_t 596 (by decide +kernel) (by decide +kernel)), (by decide +kernel), (by decide +kernel), (by decide +kernel), by decide⟩, (tw_t 595 (by decide +kernel) (by decide +kernel)), (tw_p 18 (by decide +kernel) (by decide +kernel))⟩
theorem vl_X5_117 : VV RX5 117 yX5_sign cX5_sign 2 (some .int) 1 := ⟨⟨(tw_t 630 (by decide +kernel) (by decide +kernel)), (tw_t 6 (by decide +kernel) (by decide +kernel)), (tw_t 633 (by decide +kernel) (by decide +kernel)), (by decide +kernel), (by decide +kernel), (by decide +kernel), by decide⟩, (tw_t 632 (by decide +kernel) (by decide +kernel)), (tw_p 21 (by decide +kernel) (by decide +kernel))⟩
theorem vl_X5_120 : VV RX5 120 yX5_digit cX5_digit 2 (some .int) 1 := ⟨⟨(tw_t 626 (by decide +kernel) (by decide +kernel)), (tw_t 6 (by decide +kernel) (by decide +kernel)), (tw_t 629 (by decide +kernel) (by decide +kernel)), (by decide +kernel), (by decide +kernel), (by decide +kernel), by decide⟩, (tw_t 628 (by decide +kernel) (by decide +kernel)), (tw_p 20 (by decide +kernel) (by decide +kernel))⟩
theorem vl_X5_123 : VV RX5 123 yX5_shareEnd cX5_shareEnd 3 (some .int) 1 := ⟨⟨(tw_t 634 (by decide +kernel) (by decide +kernel)), (tw_t 6 (by decide +kernel) (by decide +kernel)), (tw_t 637 (by decide +kernel) (by decide +kernel)), (by decide +kernel), (by decide +kernel), (by decide +kernel), by decide⟩, (tw_t 636 (by decide +kernel) (by decide +kernel)), (tw_p 22 (by decide +kernel) (by decide +kernel))⟩
theorem vl_X5_126 : VV RX5 126 yX5_personEnd cX5_personEnd 2 (some .int) 1 := ⟨⟨(tw_t 622 (by decide +kernel) (by decide +kernel)), (tw_t 6 (by decide +kernel) (by decide +kernel)), (tw_t 625 (by decide +kernel) (by decide +kernel)), (by decide +kernel), (by decide +kernel), (by decide +kernel), by decide⟩, (tw_t 624 (by decide +kernel) (by decide +kernel)), (tw_p 19 (by decide +kernel) (by decide +kernel))⟩
theorem vl_X5_129 : VV RX5 129 yX5_fault cX5_fault 4 (some .int) 0 := ⟨⟨(tw_t 642 (by decide +kernel) (by decide +kernel)), (tw_t 6 (by decide +kernel) (by decide +kernel)), (tw_t 621 (by decide +kernel) (by decide +kernel)), (by decide +kernel), (by decide +kernel), (by decide +kernel), by decide⟩, (tw_t 619 (by decide +kernel) (by decide +kernel)), (tw_t 620 (by decide +kernel) (by decide +kernel))⟩
theorem vl_X5_133 : VV RX5 133 yX5_peopleOfPad cX5_peopleOfPad 3 (some .int) 0 := ⟨⟨(tw_t 643 (by decide +kernel) (by decide +kernel)), (tw_t 6 (by decide +kernel) (by decide +kernel)), (tw_t 646 (by decide +kernel) (by decide +kernel)), (by decide +kernel), (by decide +kernel), (by decide +kernel), by decide⟩, (tw_t 645 (by decide +kernel) (by decide +kernel)), (tw_p 23 (by decide +kernel) (by decide +kernel))⟩
theorem vl_X5_136 : VV RX5 136 yX5_shareAt cX5_shareAt 4 (some .int) 1 := ⟨⟨(tw_t 647 (by decide +kernel) (by decide +kernel)), (tw_t 6 (by decide +kernel) (by decide +kernel)), (tw_t 650 (by decide +kernel) (by decide +kernel)), (by decide +kernel), (by decide +kernel), (by decide +kernel), by decide⟩, (tw_t 649 (by decide +kernel) (by decide +kernel)), (tw_p 24 (by decide +kernel) (by decide +kernel))⟩
theorem vn_X4_32 : Cond.initialized yX1_init.cls ∈ TW ∧ Cond.code yX1_init cX1_init 1 none ∈ TW ∧ yX1_init.cls ≠ "java/lang/invoke/MethodHandle" ∧ yX1_init.cls ≠ "java/lang/invoke/VarHandle" ∧ (parseMethodDescriptor yX1_init.desc).map (fun d => d.parameters.length) = some 0 ∧ 1 ≤ 17 ∧ Cond.instanceMethod yX1_init ∈ TW ∧ yX1_init.name = "<init>" := ⟨(tw_t 5 (by decide +kernel) (by decide +kernel)), (tw_t 145 (by decide +kernel) (by decide +kernel)), (by decide +kernel), (by decide +kernel), (by decide +kernel), by decide, (tw_t 144 (by decide +kernel) (by decide +kernel)), rfl⟩
theorem vn_X3_63 : Cond.initialized yX2_init.cls ∈ TW ∧ Cond.code yX2_init cX2_init 1 none ∈ TW ∧ yX2_init.cls ≠ "java/lang/invoke/MethodHandle" ∧ yX2_init.cls ≠ "java/lang/invoke/VarHandle" ∧ (parseMethodDescriptor yX2_init.desc).map (fun d => d.parameters.length) = some 0 ∧ 1 ≤ 17 ∧ Cond.instanceMethod yX2_init ∈ TW ∧ yX2_init.name = "<init>" := ⟨(tw_t 3 (by decide +kernel) (by decide +kernel)), (tw_t 38 (by decide +kernel) (by decide +kernel)), (by decide +kernel), (by decide +kernel), (by decide +kernel), by decide, (tw_t 37 (by decide +kernel) (by decide +kernel)), rfl⟩
theorem cl_X4_7 : Cond.classLink RX4 7 RX3 ∈ TW := (tw_t 18 (by decide +kernel) (by decide +kernel))
theorem nl_X4_7 : NL RX4 7 3 13 [.null, .null, .int 0, .int 0, .int 0, .int 0, .int 0, .int 0, .int 0, .int 0, .int 0, .int 0, .int 0] := ⟨RX3, TX3, tyX3, rfl, uX3, tyX3_ok, by decide +kernel, cl_X4_7, (tw_t 19 (by decide +kernel) (by decide +kernel)), (tw_t 2 (by decide +kernel) (by decide +kernel))⟩
theorem cl_X4_19 : Cond.classLink RX4 19 RX0 ∈ TW := (tw_t 124 (by decide +kernel) (by decide +kernel))
theorem nl_X4_19 : NL RX4 19 0 2 [.null, .int 0] := ⟨RX0, TX0, tyX0, rfl, uX0, tyX0_ok, by decide +kernel, cl_X4_19, (tw_t 125 (by decide +kernel) (by decide +kernel)), (tw_t 4 (by decide +kernel) (by decide +kernel))⟩
theorem cl_X4_30 : Cond.classLink RX4 30 RX1 ∈ TW := (tw_t 141 (by decide +kernel) (by decide +kernel))
theorem nl_X4_30 : NL RX4 30 1 2 [.null, .int 0] := ⟨RX1, TX1, tyX1, rfl, uX1, tyX1_ok, by decide +kernel, cl_X4_30, (tw_t 142 (by decide +kernel) (by decide +kernel)), (tw_t 5 (by decide +kernel) (by decide +kernel))⟩
theorem cl_X0_9 : Cond.classLink RX0 9 RX3 ∈ TW := (tw_t 130 (by decide +kernel) (by decide +kernel))
theorem nl_X0_9 : NL RX0 9 3 13 [.null, .null, .int 0, .int 0, .int 0, .int 0, .int 0, .int 0, .int 0, .int 0, .int 0, .int 0, .int 0] := ⟨RX3, TX3, tyX3, rfl, uX3, tyX3_ok, by decide +kernel, cl_X0_9, (tw_t 19 (by decide +kernel) (by decide +kernel)), (tw_t 2 (by decide +kernel) (by decide +kernel))⟩
theorem cl_X3_14 : Cond.classLink RX3 14 "[I" ∈ TW := (tw_t 32 (by decide +kernel) (by decide +kernel))
theorem cl_X3_23 : Cond.classLink RX3 23 RX2 ∈ TW := (tw_t 33 (by decide +kernel) (by decide +kernel))
theorem nl_X3_23 : NL RX3 23 2 6 [.int 0, .int 0, .int 0, .int 0, .int 0, .int 0] := ⟨RX2, TX2, tyX2, rfl, uX2, tyX2_ok, by decide +kernel, cl_X3_23, (tw_t 35 (by decide +kernel) (by decide +kernel)), (tw_t 3 (by decide +kernel) (by decide +kernel))⟩
theorem cl_L_7 : Cond.classLink RL 7 RX4 ∈ TW := (tw_t 10 (by decide +kernel) (by decide +kernel))
theorem nl_L_7 : NL RL 7 4 5 [.null, .null, .null, .null, .null] := ⟨RX4, TX4, tyX4, rfl, uX4, tyX4_ok, by decide +kernel, cl_L_7, (tw_t 11 (by decide +kernel) (by decide +kernel)), (tw_t 1 (by decide +kernel) (by decide +kernel))⟩
theorem cl_L_10 : Cond.classLink RL 10 RX5 ∈ TW := (tw_t 437 (by decide +kernel) (by decide +kernel))
theorem nl_L_10 : NL RL 10 5 7 [.null, .null, .int 0, .null, .null, .null, .int 0] := ⟨RX5, TX5, tyX5, rfl, uX5, tyX5_ok, by decide +kernel, cl_L_10, (tw_t 438 (by decide +kernel) (by decide +kernel)), (tw_t 6 (by decide +kernel) (by decide +kernel))⟩
theorem oi_X4_1 : Cond.methodLink RX4 1 objectInit ∈ TW := (tw_t 15 (by decide +kernel) (by decide +kernel))
theorem oi_X0_3 : Cond.methodLink RX0 3 objectInit ∈ TW := (tw_t 129 (by decide +kernel) (by decide +kernel))
theorem oi_X1_3 : Cond.methodLink RX1 3 objectInit ∈ TW := (tw_t 146 (by decide +kernel) (by decide +kernel))
theorem oi_X2_1 : Cond.methodLink RX2 1 objectInit ∈ TW := (tw_t 39 (by decide +kernel) (by decide +kernel))
theorem oi_X3_3 : Cond.methodLink RX3 3 objectInit ∈ TW := (tw_t 23 (by decide +kernel) (by decide +kernel))
theorem oi_X5_1 : Cond.methodLink RX5 1 objectInit ∈ TW := (tw_t 442 (by decide +kernel) (by decide +kernel))
theorem oi_2 : Cond.instanceMethod objectInit ∈ TW := (tw_t 16 (by decide +kernel) (by decide +kernel))
theorem oi_3 : Cond.code objectInit ⟨#[0xb1]⟩ 1 none ∈ TW := (tw_t 17 (by decide +kernel) (by decide +kernel))
theorem kc_X4_108 : Cond.constant RX4 108 (99999) ∈ TW := (tw_t 317 (by decide +kernel) (by decide +kernel))
theorem kc_X5_102 : Cond.constant RX5 102 (99999) ∈ TW := (tw_t 549 (by decide +kernel) (by decide +kernel))
theorem kl_X4_181 : Cond.constantLong RX4 181 (255) ∈ TW := (tw_t 403 (by decide +kernel) (by decide +kernel))
theorem kl_X4_196 : Cond.constantLong RX4 196 (33) ∈ TW := (tw_t 404 (by decide +kernel) (by decide +kernel))
theorem kl_X4_198 : Cond.constantLong RX4 198 (126) ∈ TW := (tw_t 405 (by decide +kernel) (by decide +kernel))
theorem kl_L_72 : Cond.constantLong RL 72 (4294967295) ∈ TW := (tw_t 663 (by decide +kernel) (by decide +kernel))
theorem kl_X5_115 : Cond.constantLong RX5 115 (255) ∈ TW := (tw_t 613 (by decide +kernel) (by decide +kernel))
end
section
/-! the mathematical value: what a day, a month, a hand, an appeal do -/
def mxI (a b : Int32) : Int32 := if a < b then b else a
def mnI (a b : Int32) : Int32 := if b < a then b else a
def abI (a : Int32) : Int32 := if 0 ≤ a then a else 0 - a
def cpI (a b : Int32) : Int32 := if a < b then (-1) else if a = b then nI 0 else nI 1
def bh (n j : Nat) : Nat := if j + 1 < n then j + 1 else 0
def bB (u : Nat → Int32) (q : Nat → Nat → Int32) (j : Nat) : Int32 := if q j 2 < u 4 then nI 0 else nI 1
theorem bB_0 {u : Nat → Int32} {q : Nat → Nat → Int32} {j : Nat} (h : bB u q j = 0) : q j 2 < u 4 := by
  unfold bB at h
  split at h
  · assumption
  · exact absurd h (by decide)
theorem bB_1 {u : Nat → Int32} {q : Nat → Nat → Int32} {j : Nat} (h : ¬ bB u q j = 0) : ¬ q j 2 < u 4 := by
  intro c
  exact h (by unfold bB; rw [if_pos c]; rfl)
def scI (u : Nat → Int32) (q : Nat → Nat → Int32) (j : Nat) : Int32 := u 8 + nI 5 * q j 0 - nI 10 * q j 2
def sumB (u : Nat → Int32) (q : Nat → Nat → Int32) (m : Nat) : Int32 := match m with
  | 0 => nI 0
  | k + 1 => if q k 2 < u 4 then sumB u q k else sumB u q k + 1
def sumP (q : Nat → Nat → Int32) (m : Nat) : Int32 := match m with
  | 0 => nI 0
  | k + 1 => sumP q k + q k 3
/-- the first one, of k that are asked from t on, who is not barred -/
def handF (n : Nat) (u : Nat → Int32) (q : Nat → Nat → Int32) (t k : Nat) : Option Nat := match k with
  | 0 => none
  | k + 1 => if q t 2 < u 4 then some t else handF n u q (bh n t) k
def hand (n t : Nat) (u : Nat → Int32) (q : Nat → Nat → Int32) : Option Nat := handF n u q t n
/-- a hand is held out; who gets the purr -/
def holdA (n t : Nat) (u : Nat → Int32) (q : Nat → Nat → Int32) : AS × Option Nat := match hand n t u q with
  | none => ((n, none, t, u, q), none)
  | some j => if scI u q j < u 0 then ((n, none, bh n j, upd (upd u 12 (u 12 + nI 1)) 8 (mxI (nI 0) (u 8 - nI 3)), uq q j 2 (q j 2 + nI 1)), none) else ((n, some j, t, upd u 13 (u 13 + nI 1), uq q j 4 (q j 4 + nI 1)), some j)
def monthA (A : AS) : AS := match A with
  | (n, none, t, u, q) => (n, none, t, upd (upd u 11 (u 11 - mnI (u 1 / nI 2) (u 11))) 15 (u 15 + mnI (u 1 / nI 2) (u 11)), q)
  | (n, some j, t, u, q) =>
    if mnI (nI 99) (u 8 + mnI (u 1) (u 11) * q j 1 / nI 100 / nI 2) < u 5 then
      (n, none, 0, upd (upd (upd (upd u 11 (u 11 - mnI (u 1) (u 11))) 15 (u 15 + mnI (u 1) (u 11) * q j 1 / nI 100)) 8 (mnI (nI 99) (u 8 + mnI (u 1) (u 11) * q j 1 / nI 100 / nI 2))) 14 (u 14 + nI 1), uq q j 3 (q j 3 + (mnI (u 1) (u 11) - mnI (u 1) (u 11) * q j 1 / nI 100)))
    else
      (n, some j, t, upd (upd (upd u 11 (u 11 - mnI (u 1) (u 11))) 15 (u 15 + mnI (u 1) (u 11) * q j 1 / nI 100)) 8 (mnI (nI 99) (u 8 + mnI (u 1) (u 11) * q j 1 / nI 100 / nI 2)), uq q j 3 (q j 3 + (mnI (u 1) (u 11) - mnI (u 1) (u 11) * q j 1 / nI 100)))
/-- the hand of a day, by who is the guardian -/
def hA (A : AS) : AS × Option Nat := match A with
  | (n, none, t, u, q) => holdA n t u q
  | (n, some j, t, u, q) => ((n, some j, t, u, q), none)
/-- the month's end, if it is one -/
def mA (A : AS) : AS := if A.2.2.2.1 6 - A.2.2.2.1 6 / A.2.2.2.1 3 * A.2.2.2.1 3 = 0 then monthA A else A
/-- the mood goes nearer to 50, and the guardian's day counts -/
def eA (A : AS) : AS := match A with
  | (n, none, t, u, q) => (n, none, t, upd u 8 (u 8 + cpI (nI 50) (u 8)), q)
  | (n, some j, t, u, q) => (n, some j, t, upd u 8 (u 8 + cpI (nI 50) (u 8)), uq q j 5 (q j 5 + nI 1))
/-- the day's number -/
def nA (A : AS) : AS := match A with
  | (n, g, t, u, q) => (n, g, t, upd u 6 (u 6 + nI 1), q)
def dayA (A : AS) : AS := eA (mA (hA (nA A)).1)
/-- who gets a purr on the day -/
def dayR (A : AS) : Option Nat := (hA (nA A)).2
def itA (k : Nat) (A : AS) : AS := match k with
  | 0 => A
  | k + 1 => dayA (itA k A)
/-- a place behind a move -/
def mvP (p x y : Nat) : Nat := if p = x then y else if x < p ∧ p ≤ y then p - 1 else if p < x ∧ y ≤ p then p + 1 else p
/-- who stands at a place behind a move -/
def mvI (x y p : Nat) : Nat := if p = y then x else if x ≤ p ∧ p < y then p + 1 else if y < p ∧ p ≤ x then p - 1 else p
def moveA (A : AS) (x y : Nat) : AS := match A with
  | (n, g, t, u, q) => (n, g.map (fun p => mvP p x y), mvP t x y, u, fun a b => q (mvI x y a) b)
/-- a new person at the end -/
def admA (A : AS) (w s : Int32) : AS := match A with
  | (n, g, t, u, q) => (n + 1, g, t, u, fun a b => if a = n then (if b = 0 then w else if b = 1 then s else 0) else q a b)
def mayB (n : Nat) (g : Option Nat) (u : Nat → Int32) (q : Nat → Nat → Int32) (j : Nat) : Prop := g ≠ none ∧ g ≠ some j ∧ q j 2 < u 4 ∧ ¬ q j 3 < u 2
/-- an appeal of j against i: whether the guardian is deposed -/
def appA (n i t : Nat) (u : Nat → Int32) (q : Nat → Nat → Int32) (j : Nat) : AS × Bool :=
  if scI u q i < scI u q j then ((n, none, j, upd (upd u 11 (u 11 + u 2)) 14 (u 14 + nI 1), uq q j 3 (q j 3 - u 2)), true)
  else ((n, some i, t, upd (upd u 11 (u 11 + u 2)) 12 (u 12 + nI 1), uq (uq q j 3 (q j 3 - u 2)) j 2 (q j 2 + nI 1)), false)
def mayI (n : Nat) (g : Option Nat) (u : Nat → Int32) (q : Nat → Nat → Int32) (j : Nat) : Int32 := if g ≠ none ∧ g ≠ some j ∧ q j 2 < u 4 ∧ ¬ q j 3 < u 2 then nI 1 else nI 0
/-- the numbers of a state are what they can be: 8 people at most, the guardian one of them, the turn too -/
def wfA (A : AS) : Prop := A.1 ≤ 8 ∧ (∀ i, A.2.1 = some i → i < A.1) ∧ (A.2.2.1 < A.1 ∨ A.2.2.1 = 0)
theorem bh_lt {n j : Nat} (h : 0 < n) : bh n j < n := by
  unfold bh
  split <;> omega
theorem handF_lt {n : Nat} {u : Nat → Int32} {q : Nat → Nat → Int32} : ∀ (k t j : Nat), t < n → handF n u q t k = some j → j < n
  | 0, _, _, _, h => by simp [handF] at h
  | k + 1, t, j, ht, h => by
    rw [handF] at h
    split at h
    · cases h
      exact ht
    · exact handF_lt k _ j (bh_lt (by omega)) h
theorem hand_lt {n t j : Nat} {u : Nat → Int32} {q : Nat → Nat → Int32} (ht : t < n ∨ t = 0) (h : hand n t u q = some j) : j < n := by
  unfold hand at h
  rcases Nat.eq_zero_or_pos n with e | e
  · subst e
    simp [handF] at h
  · exact handF_lt n t j (by omega) h
theorem nA_wf {A : AS} (w : wfA A) : wfA (nA A) := w
theorem hA_1 {A : AS} : (hA A).1.1 = A.1 := by
  obtain ⟨n, _ | i, t, u, q⟩ := A
  · show (holdA n t u q).1.1 = n
    unfold holdA
    split
    · rfl
    · split <;> rfl
  · rfl
theorem hA_u {A : AS} {i : Nat} (hi : i < 6) : (hA A).1.2.2.2.1 i = A.2.2.2.1 i := by
  obtain ⟨n, _ | j, t, u, q⟩ := A
  · show (holdA n t u q).1.2.2.2.1 i = u i
    unfold holdA
    split
    · rfl
    · split
      · show upd (upd u 12 _) 8 _ i = u i
        rw [upd_n (by omega), upd_n (by omega)]
      · show upd u 13 _ i = u i
        rw [upd_n (by omega)]
  · rfl
theorem hA_wf {A : AS} (w : wfA A) : wfA (hA A).1 := by
  obtain ⟨n, _ | i, t, u, q⟩ := A
  · obtain ⟨w1, w2, w3⟩ := w
    show wfA (holdA n t u q).1
    have hn : n ≤ 8 := w1
    have ht : t < n ∨ t = 0 := w3
    unfold holdA
    split
    · exact ⟨hn, fun i h => (by cases h), ht⟩
    · rename_i j hj
      have hjn := hand_lt ht hj
      split
      · exact ⟨hn, fun i h => (by cases h), Or.inl (bh_lt (by omega))⟩
      · exact ⟨hn, fun i h => (by cases h; exact hjn), ht⟩
  · exact w
theorem monthA_wf {A : AS} (w : wfA A) : wfA (monthA A) := by
  obtain ⟨n, _ | i, t, u, q⟩ := A
  · exact w
  · unfold monthA
    dsimp only
    split
    · exact ⟨w.1, fun i h => (by cases h), Or.inr rfl⟩
    · exact w
theorem monthA_1 {A : AS} : (monthA A).1 = A.1 := by
  obtain ⟨n, _ | i, t, u, q⟩ := A
  · rfl
  · unfold monthA
    dsimp only
    split <;> rfl
theorem monthA_u {A : AS} {k : Nat} (hk : k < 6) : (monthA A).2.2.2.1 k = A.2.2.2.1 k := by
  obtain ⟨n, _ | i, t, u, q⟩ := A
  · show upd (upd u 11 _) 15 _ k = u k
    rw [upd_n (by omega), upd_n (by omega)]
  · unfold monthA
    dsimp only
    split
    · show upd (upd (upd (upd u 11 _) 15 _) 8 _) 14 _ k = u k
      rw [upd_n (by omega), upd_n (by omega), upd_n (by omega), upd_n (by omega)]
    · show upd (upd (upd u 11 _) 15 _) 8 _ k = u k
      rw [upd_n (by omega), upd_n (by omega), upd_n (by omega)]
theorem mA_wf {A : AS} (w : wfA A) : wfA (mA A) := by
  unfold mA
  split
  · exact monthA_wf w
  · exact w
theorem mA_1 {A : AS} : (mA A).1 = A.1 := by
  unfold mA
  split
  · exact monthA_1
  · rfl
theorem mA_u {A : AS} {k : Nat} (hk : k < 6) : (mA A).2.2.2.1 k = A.2.2.2.1 k := by
  unfold mA
  split
  · exact monthA_u hk
  · rfl
theorem eA_wf {A : AS} (w : wfA A) : wfA (eA A) := by
  obtain ⟨n, _ | i, t, u, q⟩ := A <;> exact w
theorem eA_1 {A : AS} : (eA A).1 = A.1 := by
  obtain ⟨n, _ | i, t, u, q⟩ := A <;> rfl
theorem eA_u {A : AS} {k : Nat} (hk : k < 6) : (eA A).2.2.2.1 k = A.2.2.2.1 k := by
  obtain ⟨n, _ | i, t, u, q⟩ := A
  · show upd u 8 _ k = u k
    rw [upd_n (by omega)]
  · show upd u 8 _ k = u k
    rw [upd_n (by omega)]
theorem nA_u {A : AS} {k : Nat} (hk : k < 6) : (nA A).2.2.2.1 k = A.2.2.2.1 k := by
  obtain ⟨n, g, t, u, q⟩ := A
  show upd u 6 _ k = u k
  rw [upd_n (by omega)]
theorem dayA_wf {A : AS} (w : wfA A) : wfA (dayA A) := eA_wf (mA_wf (hA_wf (nA_wf w)))
theorem dayA_1 {A : AS} : (dayA A).1 = A.1 := by
  unfold dayA
  rw [eA_1, mA_1, hA_1]
  rfl
theorem dayA_u {A : AS} {k : Nat} (hk : k < 6) : (dayA A).2.2.2.1 k = A.2.2.2.1 k := by
  unfold dayA
  rw [eA_u hk, mA_u hk, hA_u hk, nA_u hk]
theorem itA_wf {A : AS} (w : wfA A) : ∀ k, wfA (itA k A)
  | 0 => w
  | k + 1 => dayA_wf (itA_wf w k)
theorem itA_1 {A : AS} : ∀ k, (itA k A).1 = A.1
  | 0 => rfl
  | k + 1 => by rw [itA, dayA_1, itA_1 k]
theorem itA_u {A : AS} {i : Nat} (hi : i < 6) : ∀ k, (itA k A).2.2.2.1 i = A.2.2.2.1 i
  | 0 => rfl
  | k + 1 => by rw [itA, dayA_u hi, itA_u hi k]
theorem nI_n6 {i : Nat} (h : i < 2 ^ 31) : ¬ nI i = (-6) := by
  intro q
  have a := nI_toInt h
  rw [q] at a
  have : (-6 : Int32).toInt = -6 := by decide
  omega
theorem nI_n1 {i : Nat} (h : i < 2 ^ 31) : ¬ nI i = (-1) := by
  intro q
  have a := nI_toInt h
  rw [q] at a
  have : (-1 : Int32).toInt = -1 := by decide
  omega
section EM
variable {G : GG} {l : Launch} {X : CT} {Q : State → Prop} {d mc ms cs sl : Nat} {cc : ByteArray} {own : String} {nL : Nat} {ret : Option FieldType} {h h0 : HP} {z pc : Nat} {lv : List (Nat × Value)} {st : List Value}
theorem exm_max {idx : Nat} {x y v : Int32} (w1 : Cond.methodLink own idx Lib.Math.max.name ∈ TW) (hv : mxI x y = v) (hd : 1 ≤ d) (hst : (st.map fun v => v.category).sum ≤ 8) (hc : cs ≤ mc) (hs : sl ≤ ms) (dg : decode cc pc = .ok (.invokestatic idx, 3)) (k1 : ex G l X Q d mc ms cs sl cc own nL ret h z (pc + 3) lv (.int v :: st)) : ex G l X Q d mc ms cs sl cc own nL ret h z pc lv (.int y :: .int x :: st) := by
  intro H locs ls F R S L
  subst hv
  have hts := F.2.2.2.2.1
  exact va_mmax F.1 F.2.1 (by rw [L.1]; exact F.2.2.1) F.2.2.2.1 (hts _ w1) (hts _ (tw_t 340 (by decide +kernel) (by decide +kernel))) (hts _ (tw_t 8 (by decide +kernel) (by decide +kernel))) (hts _ (tw_t 341 (by decide +kernel) (by decide +kernel))) hd (by show _ + 13 ≤ 36 * d; omega) hc hs dg (k1 H locs ls F R S L)
theorem exm_min {idx : Nat} {x y v : Int32} (w1 : Cond.methodLink own idx Lib.Math.min.name ∈ TW) (hv : mnI x y = v) (hd : 1 ≤ d) (hst : (st.map fun v => v.category).sum ≤ 8) (hc : cs ≤ mc) (hs : sl ≤ ms) (dg : decode cc pc = .ok (.invokestatic idx, 3)) (k1 : ex G l X Q d mc ms cs sl cc own nL ret h z (pc + 3) lv (.int v :: st)) : ex G l X Q d mc ms cs sl cc own nL ret h z pc lv (.int y :: .int x :: st) := by
  intro H locs ls F R S L
  subst hv
  have hts := F.2.2.2.2.1
  exact va_mmin F.1 F.2.1 (by rw [L.1]; exact F.2.2.1) F.2.2.2.1 (hts _ w1) (hts _ (tw_t 351 (by decide +kernel) (by decide +kernel))) (hts _ (tw_t 8 (by decide +kernel) (by decide +kernel))) (hts _ (tw_t 352 (by decide +kernel) (by decide +kernel))) hd (by show _ + 13 ≤ 36 * d; omega) hc hs dg (k1 H locs ls F R S L)
theorem exm_abs {idx : Nat} {x v : Int32} (w1 : Cond.methodLink own idx Lib.Math.abs.name ∈ TW) (hv : abI x = v) (hd : 1 ≤ d) (hst : (st.map fun v => v.category).sum ≤ 8) (hc : cs ≤ mc) (hs : sl ≤ ms) (dg : decode cc pc = .ok (.invokestatic idx, 3)) (k1 : ex G l X Q d mc ms cs sl cc own nL ret h z (pc + 3) lv (.int v :: st)) : ex G l X Q d mc ms cs sl cc own nL ret h z pc lv (.int x :: st) := by
  intro H locs ls F R S L
  subst hv
  have hts := F.2.2.2.2.1
  exact va_mabs F.1 F.2.1 (by rw [L.1]; exact F.2.2.1) F.2.2.2.1 (hts _ w1) (hts _ (tw_t 270 (by decide +kernel) (by decide +kernel))) (hts _ (tw_t 8 (by decide +kernel) (by decide +kernel))) (hts _ (tw_t 271 (by decide +kernel) (by decide +kernel))) hd (by show _ + 13 ≤ 36 * d; omega) hc hs dg (k1 H locs ls F R S L)
theorem mlx_max : Cond.methodLink RX3 134 Lib.Math.max.name ∈ TW := tw_t 339 (by decide +kernel) (by decide +kernel)
theorem mlx_min : Cond.methodLink RX3 149 Lib.Math.min.name ∈ TW := tw_t 350 (by decide +kernel) (by decide +kernel)
theorem mlx_abs : Cond.methodLink RX4 83 Lib.Math.abs.name ∈ TW := tw_t 269 (by decide +kernel) (by decide +kernel)
end EM
end
section
set_option maxRecDepth 20000 in
set_option maxHeartbeats 2000000 in
theorem c_at {G : GG} {l : Launch} {h0 : HP} {z o : Nat} {π : Nat → Nat} {n : Nat} {g : Option Nat} {t : Nat} {u : Nat → Int32} {q : Nat → Nat → Int32} (S0 : SP G h0 o π (n, g, t, u, q)) {j : Nat} (h8 : j < 8) (hn : j < n) (n8 : n ≤ 8) : Ct G l 0 0 0 yX3_at cX3_at 2 (some (.object "PurrProbates$Person")) [.ref o, .int (nI j)] h0 z (p0 (.ref (o + 3 + π j)) h0 z) := by
  refine Ct.intro (lv := [(0, .ref o), (1, .int (nI j))]) (by decide +kernel) (Nat.le_of_ble_eq_true rfl) rfl (fun X Q hQ hnm => ?_)
  have S := S0.sf
  refine ex_iload_n 1 dX3_at_0 rfl rfl ?_
  refine ex_if_lt (tgt := 27) dX3_at_1 (by decide) (fun c_1 => absurd c_1 (nI_pos (by omega))) (fun c_1 => ?_)
  refine ex_iload_n 1 dX3_at_4 rfl rfl ?_
  refine ex_aload_n 0 dX3_at_5 rfl rfl ?_
  refine ex_get (v := .int (nI n)) fl_X3_29 S.ob rfl dX3_at_6 ?_
  refine ex_icmp_ge (tgt := 27) dX3_at_9 (by decide) (fun c_9 => absurd c_9 (fun q9 => absurd ((nI_leI (by omega) (by omega)).mp q9) (by omega))) (fun c_9 => ?_)
  refine ex_iload_n 1 dX3_at_12 rfl rfl ?_
  refine ex_bipush (v := nI 8) dX3_at_13 (by decide) ?_
  refine ex_icmp_ge (tgt := 27) dX3_at_15 (by decide) (fun c_15 => absurd c_15 (fun q9 => absurd ((nI_leI (by omega) (by omega)).mp q9) (by omega))) (fun c_15 => ?_)
  refine ex_aload_n 0 dX3_at_18 rfl rfl ?_
  refine ex_get (v := .ref (o + 2)) fl_X3_25 S.ob rfl dX3_at_19 ?_
  refine ex_iload_n 1 dX3_at_22 rfl rfl ?_
  refine exS_pl (i := j) S rfl h8 dX3_at_23 ?_
  refine ex_goto (tgt := 28) dX3_at_24 (by decide) ?_
  exact ex_aret hQ rfl (Or.inr ⟨_, rfl⟩) ⟨rfl, rfl, rfl⟩ dX3_at_28

set_option maxRecDepth 20000 in
set_option maxHeartbeats 2000000 in
theorem c_atN {G : GG} {l : Launch} {h0 : HP} {z o : Nat} {π : Nat → Nat} {n : Nat} {g : Option Nat} {t : Nat} {u : Nat → Int32} {q : Nat → Nat → Int32} (S0 : SP G h0 o π (n, g, t, u, q)) {x : Int32} (hx : x < 0 ∨ nI n ≤ x) (n8 : n ≤ 8) : Ct G l 0 0 0 yX3_at cX3_at 2 (some (.object "PurrProbates$Person")) [.ref o, .int x] h0 z (p0 .null h0 z) := by
  refine Ct.intro (lv := [(0, .ref o), (1, .int x)]) (by decide +kernel) (Nat.le_of_ble_eq_true rfl) rfl (fun X Q hQ hnm => ?_)
  have S := S0.sf
  refine ex_iload_n 1 dX3_at_0 rfl rfl ?_
  refine ex_if_lt (tgt := 27) dX3_at_1 (by decide) (fun c_1 => ?_) (fun c_1 => ?_)
  · refine ex_null dX3_at_27 ?_
    exact ex_aret hQ rfl (Or.inl rfl) ⟨rfl, rfl, rfl⟩ dX3_at_28
  · refine ex_iload_n 1 dX3_at_4 rfl rfl ?_
    refine ex_aload_n 0 dX3_at_5 rfl rfl ?_
    refine ex_get (v := .int (nI n)) fl_X3_29 S.ob rfl dX3_at_6 ?_
    refine ex_icmp_ge (tgt := 27) dX3_at_9 (by decide) (fun c_9 => ?_) (fun c_9 => absurd (hx.resolve_left c_1) c_9)
    refine ex_null dX3_at_27 ?_
    exact ex_aret hQ rfl (Or.inl rfl) ⟨rfl, rfl, rfl⟩ dX3_at_28

set_option maxRecDepth 20000 in
set_option maxHeartbeats 2000000 in
theorem c_behind {G : GG} {l : Launch} {h0 : HP} {z o : Nat} {π : Nat → Nat} {n : Nat} {g : Option Nat} {t : Nat} {u : Nat → Int32} {q : Nat → Nat → Int32} (S0 : SP G h0 o π (n, g, t, u, q)) {j : Nat} (hj : j < 9) (n8 : n ≤ 8) : Ct G l 0 0 0 yX3_behind cX3_behind 2 (some .int) [.ref o, .int (nI j)] h0 z (p0 (.int (nI (bh n j))) h0 z) := by
  refine Ct.intro (lv := [(0, .ref o), (1, .int (nI j))]) (by decide +kernel) (Nat.le_of_ble_eq_true rfl) rfl (fun X Q hQ hnm => ?_)
  have S := S0.sf
  refine ex_iload_n 1 dX3_behind_0 rfl rfl ?_
  refine ex_iconst (v := nI 1) dX3_behind_1 (by decide) ?_
  refine ex_iaddN dX3_behind_2 ?_
  refine ex_aload_n 0 dX3_behind_3 rfl rfl ?_
  refine ex_get (v := .int (nI n)) fl_X3_29 S.ob rfl dX3_behind_4 ?_
  refine ex_icmp_ge (tgt := 16) dX3_behind_7 (by decide) (fun c_7 => ?_) (fun c_7 => ?_)
  · have n_7 : n ≤ (j + 1) := (nI_leI (by omega) (by omega)).mp c_7
    refine ex_iconst (v := nI 0) dX3_behind_16 (by decide) ?_
    exact ex_iret hQ rfl ⟨by first | simp [bh, show j + 1 < n by omega] | simp [bh, show ¬ j + 1 < n by omega], rfl, rfl⟩ dX3_behind_17
  · have n_7 : ¬ (n ≤ (j + 1)) := fun q9 => c_7 ((nI_leI (by omega) (by omega)).mpr q9)
    refine ex_iload_n 1 dX3_behind_10 rfl rfl ?_
    refine ex_iconst (v := nI 1) dX3_behind_11 (by decide) ?_
    refine ex_iaddN dX3_behind_12 ?_
    refine ex_goto (tgt := 17) dX3_behind_13 (by decide) ?_
    exact ex_iret hQ rfl ⟨by first | simp [bh, show j + 1 < n by omega] | simp [bh, show ¬ j + 1 < n by omega], rfl, rfl⟩ dX3_behind_17

set_option maxRecDepth 20000 in
set_option maxHeartbeats 2000000 in
theorem c_isBarred {G : GG} {l : Launch} {h0 : HP} {z o : Nat} {π : Nat → Nat} {n : Nat} {g : Option Nat} {t : Nat} {u : Nat → Int32} {q : Nat → Nat → Int32} (S0 : SP G h0 o π (n, g, t, u, q)) {j : Nat} (h8 : j < 8) (hn : j < n) : Ct G l 0 0 0 yX3_isBarred cX3_isBarred 2 (some .boolean) [.ref o, .ref (o + 3 + π j)] h0 z (p0 (.int (bB u q j)) h0 z) := by
  refine Ct.intro (lv := [(0, .ref o), (1, .ref (o + 3 + π j))]) (by decide +kernel) (Nat.le_of_ble_eq_true rfl) rfl (fun X Q hQ hnm => ?_)
  have S := S0.sf
  refine ex_aload_n 1 dX3_isBarred_0 rfl rfl ?_
  refine ex_get (v := .int (q j 2)) fl_X3_78 (S.pe h8 hn) rfl dX3_isBarred_1 ?_
  refine ex_aload_n 0 dX3_isBarred_4 rfl rfl ?_
  refine ex_get (v := .ref (o + 1)) fl_X3_18 S.ob rfl dX3_isBarred_5 ?_
  refine ex_iconst (v := nI 4) dX3_isBarred_8 (by decide) ?_
  refine exS_ld (i := 4) (v := u 4) S rfl (by decide) rfl dX3_isBarred_9 ?_
  refine ex_icmp_lt (tgt := 17) dX3_isBarred_10 (by decide) (fun c_10 => ?_) (fun c_10 => ?_)
  · refine ex_iconst (v := nI 0) dX3_isBarred_17 (by decide) ?_
    exact ex_zret hQ rfl (by decide) ⟨by simp [bB, c_10], rfl, rfl⟩ dX3_isBarred_18
  · refine ex_iconst (v := nI 1) dX3_isBarred_13 (by decide) ?_
    refine ex_goto (tgt := 18) dX3_isBarred_14 (by decide) ?_
    exact ex_zret hQ rfl (by decide) ⟨by simp [bB, c_10], rfl, rfl⟩ dX3_isBarred_18

set_option maxRecDepth 20000 in
set_option maxHeartbeats 2000000 in
theorem c_score {G : GG} {l : Launch} {h0 : HP} {z o : Nat} {π : Nat → Nat} {n : Nat} {g : Option Nat} {t : Nat} {u : Nat → Int32} {q : Nat → Nat → Int32} (S0 : SP G h0 o π (n, g, t, u, q)) {j : Nat} (h8 : j < 8) (hn : j < n) : Ct G l 0 0 0 yX3_score cX3_score 2 (some .int) [.ref o, .ref (o + 3 + π j)] h0 z (p0 (.int (scI u q j)) h0 z) := by
  refine Ct.intro (lv := [(0, .ref o), (1, .ref (o + 3 + π j))]) (by decide +kernel) (Nat.le_of_ble_eq_true rfl) rfl (fun X Q hQ hnm => ?_)
  have S := S0.sf
  refine ex_aload_n 0 dX3_score_0 rfl rfl ?_
  refine ex_get (v := .int (u 8)) fl_X3_33 S.ob rfl dX3_score_1 ?_
  refine ex_iconst (v := nI 5) dX3_score_4 (by decide) ?_
  refine ex_aload_n 1 dX3_score_5 rfl rfl ?_
  refine ex_get (v := .int (q j 0)) fl_X3_79 (S.pe h8 hn) rfl dX3_score_6 ?_
  refine ex_imul dX3_score_9 ?_
  refine ex_iadd dX3_score_10 ?_
  refine ex_bipush (v := nI 10) dX3_score_11 (by decide) ?_
  refine ex_aload_n 1 dX3_score_13 rfl rfl ?_
  refine ex_get (v := .int (q j 2)) fl_X3_78 (S.pe h8 hn) rfl dX3_score_14 ?_
  refine ex_imul dX3_score_17 ?_
  refine ex_isub dX3_score_18 ?_
  exact ex_iret hQ rfl ⟨rfl, rfl, rfl⟩ dX3_score_19

set_option maxRecDepth 20000 in
set_option maxHeartbeats 2000000 in
theorem c_barredPeople {G : GG} {l : Launch} {h0 : HP} {z o : Nat} {π : Nat → Nat} {n : Nat} {g : Option Nat} {t : Nat} {u : Nat → Int32} {q : Nat → Nat → Int32} (S0 : SP G h0 o π (n, g, t, u, q)) (n8 : n ≤ 8) : Ct G l 1 0 0 yX3_barredPeople cX3_barredPeople 4 (some .int) [.ref o] h0 z (p0 (.int (sumB u q n)) h0 z) := by
  refine Ct.intro (lv := [(0, .ref o)]) (by decide +kernel) (Nat.le_of_ble_eq_true rfl) rfl (fun X Q hQ hnm => ?_)
  have S := S0.sf
  refine ex_iconst (v := nI 0) dX3_barredPeople_0 (by decide) ?_
  refine ex_istore_n (lv' := [(1, .int (nI 0)), (0, .ref o)]) dX3_barredPeople_1 rfl (by decide) rfl ?_
  refine ex_iconst (v := nI 0) dX3_barredPeople_2 (by decide) ?_
  refine ex_istore_n (lv' := [(2, .int (nI 0)), (1, .int (nI 0)), (0, .ref o)]) dX3_barredPeople_3 rfl (by decide) rfl ?_
  suffices H : ∀ (k m : Nat), m + k = n → ex G l X Q 1 0 0 0 0 cX3_barredPeople yX3_barredPeople.cls 4 (some .int) h0 z 4 [(2, .int (nI m)), (1, .int (sumB u q m)), (0, .ref o)] [] from by
    have e2 := H n 0 (by omega)
    refine ex_lv (lv2 := [(2, .int (nI 0)), (1, .int (nI 0)), (0, .ref o)]) [0, 1, 2] rfl ?_
    exact e2
  intro k
  induction k with
  | zero =>
    intro m hm
    refine ex_iload_n 0 dX3_barredPeople_4 rfl rfl ?_
    refine ex_aload_n 2 dX3_barredPeople_5 rfl rfl ?_
    refine ex_get (v := .int (nI n)) fl_X3_29 S.ob rfl dX3_barredPeople_6 ?_
    refine ex_icmp_ge (tgt := 39) dX3_barredPeople_9 (by decide) (fun c_9 => ?_) (fun c_9 => absurd ((nI_leI (by omega) (by omega)).mpr (by omega)) c_9)
    refine ex_iload_n 1 dX3_barredPeople_39 rfl rfl ?_
    exact ex_iret hQ rfl ⟨by rw [show m = n by omega], rfl, rfl⟩ dX3_barredPeople_40
  | succ k ih =>
    intro m hm
    refine ex_iload_n 0 dX3_barredPeople_4 rfl rfl ?_
    refine ex_aload_n 2 dX3_barredPeople_5 rfl rfl ?_
    refine ex_get (v := .int (nI n)) fl_X3_29 S.ob rfl dX3_barredPeople_6 ?_
    refine ex_icmp_ge (tgt := 39) dX3_barredPeople_9 (by decide) (fun c_9 => absurd c_9 (fun q9 => absurd ((nI_leI (by omega) (by omega)).mp q9) (by omega))) (fun c_9 => ?_)
    refine ex_aload_n 2 dX3_barredPeople_12 rfl rfl ?_
    refine ex_iload_n 0 dX3_barredPeople_13 rfl rfl ?_
    refine ex_call0 (As := [.int (nI m)]) (v := .ref (o + 3 + π m)) (ci := 3) vl_X3_70 rfl (c_at S.1 (by omega) (by omega) n8) S.ob rfl (by decide) (Nat.le_of_ble_eq_true rfl) (Nat.le_refl _) (Nat.le_refl _) rfl dX3_barredPeople_14 ?_
    refine ex_astore_n (lv' := [(3, .ref (o + 3 + π m)), (2, .int (nI m)), (1, .int (sumB u q m)), (0, .ref o)]) dX3_barredPeople_17 rfl (by decide) rfl ?_
    refine ex_aload_n 0 dX3_barredPeople_18 rfl rfl ?_
    refine ex_ifnull dX3_barredPeople_19 ?_
    refine ex_aload_n 3 dX3_barredPeople_22 rfl rfl ?_
    refine ex_aload_n 0 dX3_barredPeople_23 rfl rfl ?_
    refine ex_call0 (As := [.ref (o + 3 + π m)]) (v := .int (bB u q m)) (ci := 3) vl_X3_82 rfl (c_isBarred S.1 (by omega) (by omega)) S.ob rfl (by decide) (Nat.le_of_ble_eq_true rfl) (Nat.le_refl _) (Nat.le_refl _) rfl dX3_barredPeople_24 ?_
    refine ex_if_eq (tgt := 33) dX3_barredPeople_27 (by decide) (fun c_27 => ?_) (fun c_27 => ?_)
    · refine ex_iinc (v := nI (m + 1)) (lv' := [(2, .int (nI (m + 1))), (3, .ref (o + 3 + π m)), (1, .int (sumB u q m)), (0, .ref o)]) 1 dX3_barredPeople_33 rfl (nI_1 m) (by decide) rfl ?_
      refine ex_goto (tgt := 4) dX3_barredPeople_36 (by decide) ?_
      have e1 : sumB u q (m + 1) = sumB u q m := by first | simp [sumB, bB_0 c_27] | simp [sumB, bB_1 c_27]
      have e2 := ih (m + 1) (by omega)
      rw [e1] at e2
      refine ex_lv (lv2 := [(2, .int (nI (m + 1))), (1, .int (sumB u q m)), (0, .ref o)]) [0, 2, 3] rfl ?_
      exact e2
    · refine ex_iinc (v := (sumB u q m) + 1) (lv' := [(1, .int ((sumB u q m) + 1)), (3, .ref (o + 3 + π m)), (2, .int (nI m)), (0, .ref o)]) 2 dX3_barredPeople_30 rfl rfl (by decide) rfl ?_
      refine ex_iinc (v := nI (m + 1)) (lv' := [(2, .int (nI (m + 1))), (1, .int ((sumB u q m) + 1)), (3, .ref (o + 3 + π m)), (0, .ref o)]) 2 dX3_barredPeople_33 rfl (nI_1 m) (by decide) rfl ?_
      refine ex_goto (tgt := 4) dX3_barredPeople_36 (by decide) ?_
      have e1 : sumB u q (m + 1) = (sumB u q m) + 1 := by first | simp [sumB, bB_0 c_27] | simp [sumB, bB_1 c_27]
      have e2 := ih (m + 1) (by omega)
      rw [e1] at e2
      refine ex_lv (lv2 := [(2, .int (nI (m + 1))), (1, .int ((sumB u q m) + 1)), (0, .ref o)]) [0, 1, 3] rfl ?_
      exact e2

set_option maxRecDepth 20000 in
set_option maxHeartbeats 2000000 in
theorem c_allPurses {G : GG} {l : Launch} {h0 : HP} {z o : Nat} {π : Nat → Nat} {n : Nat} {g : Option Nat} {t : Nat} {u : Nat → Int32} {q : Nat → Nat → Int32} (S0 : SP G h0 o π (n, g, t, u, q)) (n8 : n ≤ 8) : Ct G l 1 0 0 yX3_allPurses cX3_allPurses 4 (some .int) [.ref o] h0 z (p0 (.int (sumP q n)) h0 z) := by
  refine Ct.intro (lv := [(0, .ref o)]) (by decide +kernel) (Nat.le_of_ble_eq_true rfl) rfl (fun X Q hQ hnm => ?_)
  have S := S0.sf
  refine ex_iconst (v := nI 0) dX3_allPurses_0 (by decide) ?_
  refine ex_istore_n (lv' := [(1, .int (nI 0)), (0, .ref o)]) dX3_allPurses_1 rfl (by decide) rfl ?_
  refine ex_iconst (v := nI 0) dX3_allPurses_2 (by decide) ?_
  refine ex_istore_n (lv' := [(2, .int (nI 0)), (1, .int (nI 0)), (0, .ref o)]) dX3_allPurses_3 rfl (by decide) rfl ?_
  suffices H : ∀ (k m : Nat), m + k = n → ex G l X Q 1 0 0 0 0 cX3_allPurses yX3_allPurses.cls 4 (some .int) h0 z 4 [(2, .int (nI m)), (1, .int (sumP q m)), (0, .ref o)] [] from by
    have e2 := H n 0 (by omega)
    refine ex_lv (lv2 := [(2, .int (nI 0)), (1, .int (nI 0)), (0, .ref o)]) [0, 1, 2] rfl ?_
    exact e2
  intro k
  induction k with
  | zero =>
    intro m hm
    refine ex_iload_n 0 dX3_allPurses_4 rfl rfl ?_
    refine ex_aload_n 2 dX3_allPurses_5 rfl rfl ?_
    refine ex_get (v := .int (nI n)) fl_X3_29 S.ob rfl dX3_allPurses_6 ?_
    refine ex_icmp_ge (tgt := 35) dX3_allPurses_9 (by decide) (fun c_9 => ?_) (fun c_9 => absurd ((nI_leI (by omega) (by omega)).mpr (by omega)) c_9)
    refine ex_iload_n 1 dX3_allPurses_35 rfl rfl ?_
    exact ex_iret hQ rfl ⟨by rw [show m = n by omega], rfl, rfl⟩ dX3_allPurses_36
  | succ k ih =>
    intro m hm
    refine ex_iload_n 0 dX3_allPurses_4 rfl rfl ?_
    refine ex_aload_n 2 dX3_allPurses_5 rfl rfl ?_
    refine ex_get (v := .int (nI n)) fl_X3_29 S.ob rfl dX3_allPurses_6 ?_
    refine ex_icmp_ge (tgt := 35) dX3_allPurses_9 (by decide) (fun c_9 => absurd c_9 (fun q9 => absurd ((nI_leI (by omega) (by omega)).mp q9) (by omega))) (fun c_9 => ?_)
    refine ex_aload_n 2 dX3_allPurses_12 rfl rfl ?_
    refine ex_iload_n 0 dX3_allPurses_13 rfl rfl ?_
    refine ex_call0 (As := [.int (nI m)]) (v := .ref (o + 3 + π m)) (ci := 3) vl_X3_70 rfl (c_at S.1 (by omega) (by omega) n8) S.ob rfl (by decide) (Nat.le_of_ble_eq_true rfl) (Nat.le_refl _) (Nat.le_refl _) rfl dX3_allPurses_14 ?_
    refine ex_astore_n (lv' := [(3, .ref (o + 3 + π m)), (2, .int (nI m)), (1, .int (sumP q m)), (0, .ref o)]) dX3_allPurses_17 rfl (by decide) rfl ?_
    refine ex_aload_n 0 dX3_allPurses_18 rfl rfl ?_
    refine ex_ifnull dX3_allPurses_19 ?_
    refine ex_iload_n 2 dX3_allPurses_22 rfl rfl ?_
    refine ex_aload_n 0 dX3_allPurses_23 rfl rfl ?_
    refine ex_get (v := .int (q m 3)) fl_X3_86 (S.pe (by omega) (by omega)) rfl dX3_allPurses_24 ?_
    refine ex_iadd dX3_allPurses_27 ?_
    refine ex_istore_n (lv' := [(1, .int ((sumP q m) + (q m 3))), (3, .ref (o + 3 + π m)), (2, .int (nI m)), (0, .ref o)]) dX3_allPurses_28 rfl (by decide) rfl ?_
    refine ex_iinc (v := nI (m + 1)) (lv' := [(2, .int (nI (m + 1))), (1, .int ((sumP q m) + (q m 3))), (3, .ref (o + 3 + π m)), (0, .ref o)]) 2 dX3_allPurses_29 rfl (nI_1 m) (by decide) rfl ?_
    refine ex_goto (tgt := 4) dX3_allPurses_32 (by decide) ?_
    have e1 : sumP q (m + 1) = (sumP q m) + (q m 3) := by rfl
    have e2 := ih (m + 1) (by omega)
    rw [e1] at e2
    refine ex_lv (lv2 := [(2, .int (nI (m + 1))), (1, .int ((sumP q m) + (q m 3))), (0, .ref o)]) [0, 1, 3] rfl ?_
    exact e2
end
section
set_option maxRecDepth 20000 in
set_option maxHeartbeats 2000000 in
theorem c_scratch {G : GG} {l : Launch} {h0 : HP} {z o : Nat} {π : Nat → Nat} {n : Nat} {g : Option Nat} {t : Nat} {u : Nat → Int32} {q : Nat → Nat → Int32} (S0 : SP G h0 o π (n, g, t, u, q)) {j : Nat} (h8 : j < 8) (hn : j < n) : Ct G l 0 0 0 yX3_scratch cX3_scratch 2 none [.ref o, .ref (o + 3 + π j)] h0 z (pS G none h0 z o π (n, g, t, upd u 12 (u 12 + nI 1), uq q j 2 (q j 2 + nI 1))) := by
  refine Ct.intro (lv := [(0, .ref o), (1, .ref (o + 3 + π j))]) (by decide +kernel) (Nat.le_of_ble_eq_true rfl) rfl (fun X Q hQ hnm => ?_)
  have S := S0.sf
  refine ex_aload_n 1 dX3_scratch_0 rfl rfl ?_
  refine ex_dup dX3_scratch_1 rfl ?_
  refine ex_get (v := .int (q j 2)) fl_X3_78 (S.pe h8 hn) rfl dX3_scratch_2 ?_
  refine ex_iconst (v := nI 1) dX3_scratch_5 (by decide) ?_
  refine ex_iadd dX3_scratch_6 ?_
  refine exP_put S h8 hn fl_X3_78 (by decide) rfl dX3_scratch_7 (fun h S => ?_)
  refine ex_aload_n 0 dX3_scratch_10 rfl rfl ?_
  refine ex_dup dX3_scratch_11 rfl ?_
  refine ex_get (v := .int (u 12)) fl_X3_48 S.ob rfl dX3_scratch_12 ?_
  refine ex_iconst (v := nI 1) dX3_scratch_15 (by decide) ?_
  refine ex_iadd dX3_scratch_16 ?_
  refine exS_putU (i := 12) S fl_X3_48 (by decide) (by decide) rfl dX3_scratch_17 (fun h S => ?_)
  exact ex_vret hQ rfl ⟨rfl, rfl, S⟩ dX3_scratch_20

set_option maxRecDepth 20000 in
set_option maxHeartbeats 2000000 in
theorem c_leave {G : GG} {l : Launch} {h0 : HP} {z o : Nat} {π : Nat → Nat} {n : Nat} {g : Option Nat} {t : Nat} {u : Nat → Int32} {q : Nat → Nat → Int32} (S0 : SP G h0 o π (n, g, t, u, q)) {t1 : Nat} : Ct G l 0 0 0 yX3_leaveWithoutGuardian cX3_leaveWithoutGuardian 2 none [.ref o, .int (nI t1)] h0 z (pS G none h0 z o π (n, none, t1, u, q)) := by
  refine Ct.intro (lv := [(0, .ref o), (1, .int (nI t1))]) (by decide +kernel) (Nat.le_of_ble_eq_true rfl) rfl (fun X Q hQ hnm => ?_)
  have S := S0.sf
  refine ex_aload_n 0 dX3_leaveWithoutGuardian_0 rfl rfl ?_
  refine ex_bipush (v := (-6)) dX3_leaveWithoutGuardian_1 (by decide) ?_
  refine exS_putG (g1 := none) S fl_X3_36 rfl dX3_leaveWithoutGuardian_3 (fun h S => ?_)
  refine ex_aload_n 0 dX3_leaveWithoutGuardian_6 rfl rfl ?_
  refine ex_iload_n 1 dX3_leaveWithoutGuardian_7 rfl rfl ?_
  refine exS_putT (t1 := t1) S fl_X3_39 rfl dX3_leaveWithoutGuardian_8 (fun h S => ?_)
  exact ex_vret hQ rfl ⟨rfl, rfl, S⟩ dX3_leaveWithoutGuardian_11

set_option maxRecDepth 20000 in
set_option maxHeartbeats 2000000 in
theorem c_depose {G : GG} {l : Launch} {h0 : HP} {z o : Nat} {π : Nat → Nat} {n : Nat} {g : Option Nat} {t : Nat} {u : Nat → Int32} {q : Nat → Nat → Int32} (S0 : SP G h0 o π (n, g, t, u, q)) {t1 : Nat} : Ct G l 1 0 0 yX3_depose cX3_depose 2 none [.ref o, .int (nI t1)] h0 z (pS G none h0 z o π (n, none, t1, upd u 14 (u 14 + nI 1), q)) := by
  refine Ct.intro (lv := [(0, .ref o), (1, .int (nI t1))]) (by decide +kernel) (Nat.le_of_ble_eq_true rfl) rfl (fun X Q hQ hnm => ?_)
  have S := S0.sf
  refine ex_aload_n 0 dX3_depose_0 rfl rfl ?_
  refine ex_iload_n 1 dX3_depose_1 rfl rfl ?_
  refine exS_call (As := [.int (nI t1)]) (r0 := none) (B := (n, none, t1, u, q)) vl_X3_97 rfl S (fun S1 => c_leave S1) rfl (by decide) (Nat.le_of_ble_eq_true rfl) (Nat.le_refl _) (Nat.le_refl _) rfl dX3_depose_2 (fun h S => ?_)
  refine ex_aload_n 0 dX3_depose_5 rfl rfl ?_
  refine ex_dup dX3_depose_6 rfl ?_
  refine ex_get (v := .int (u 14)) fl_X3_54 S.ob rfl dX3_depose_7 ?_
  refine ex_iconst (v := nI 1) dX3_depose_10 (by decide) ?_
  refine ex_iadd dX3_depose_11 ?_
  refine exS_putU (i := 14) S fl_X3_54 (by decide) (by decide) rfl dX3_depose_12 (fun h S => ?_)
  exact ex_vret hQ rfl ⟨rfl, rfl, S⟩ dX3_depose_15

set_option maxRecDepth 20000 in
set_option maxHeartbeats 2000000 in
theorem c_draw {G : GG} {l : Launch} {h0 : HP} {z o : Nat} {π : Nat → Nat} {n : Nat} {g : Option Nat} {t : Nat} {u : Nat → Int32} {q : Nat → Nat → Int32} (S0 : SP G h0 o π (n, g, t, u, q)) {x : Int32} : Ct G l 1 0 0 yX3_draw cX3_draw 3 (some .int) [.ref o, .int x] h0 z (pS G (some (.int (mnI x (u 11)))) h0 z o π (n, g, t, upd u 11 (u 11 - mnI x (u 11)), q)) := by
  refine Ct.intro (lv := [(0, .ref o), (1, .int x)]) (by decide +kernel) (Nat.le_of_ble_eq_true rfl) rfl (fun X Q hQ hnm => ?_)
  have S := S0.sf
  refine ex_iload_n 1 dX3_draw_0 rfl rfl ?_
  refine ex_aload_n 0 dX3_draw_1 rfl rfl ?_
  refine ex_get (v := .int (u 11)) fl_X3_42 S.ob rfl dX3_draw_2 ?_
  refine exm_min (v := mnI x (u 11)) mlx_min rfl (by decide) (Nat.le_of_ble_eq_true rfl) (Nat.le_refl _) (Nat.le_refl _) dX3_draw_5 ?_
  refine ex_istore_n (lv' := [(2, .int (mnI x (u 11))), (0, .ref o), (1, .int x)]) dX3_draw_8 rfl (by decide) rfl ?_
  refine ex_aload_n 1 dX3_draw_9 rfl rfl ?_
  refine ex_dup dX3_draw_10 rfl ?_
  refine ex_get (v := .int (u 11)) fl_X3_42 S.ob rfl dX3_draw_11 ?_
  refine ex_iload_n 0 dX3_draw_14 rfl rfl ?_
  refine ex_isub dX3_draw_15 ?_
  refine exS_putU (i := 11) S fl_X3_42 (by decide) (by decide) rfl dX3_draw_16 (fun h S => ?_)
  refine ex_iload_n 0 dX3_draw_19 rfl rfl ?_
  exact ex_iret hQ rfl ⟨rfl, rfl, S⟩ dX3_draw_20

set_option maxRecDepth 20000 in
set_option maxHeartbeats 2000000 in
theorem c_endMonth {G : GG} {l : Launch} {h0 : HP} {z o : Nat} {π : Nat → Nat} {n : Nat} {g : Option Nat} {t : Nat} {u : Nat → Int32} {q : Nat → Nat → Int32} (S0 : SP G h0 o π (n, g, t, u, q)) (gw : ∀ i, g = some i → i < n) (n8 : n ≤ 8) : Ct G l 2 0 0 yX3_endMonth cX3_endMonth 4 none [.ref o] h0 z (pS G none h0 z o π (monthA (n, g, t, u, q))) := by
  refine Ct.intro (lv := [(0, .ref o)]) (by decide +kernel) (Nat.le_of_ble_eq_true rfl) rfl (fun X Q hQ hnm => ?_)
  have S := S0.sf
  rcases g with _ | i
  · refine ex_aload_n 0 dX3_endMonth_0 rfl rfl ?_
    refine ex_aload_n 0 dX3_endMonth_1 rfl rfl ?_
    refine ex_get (v := .int (-6)) fl_X3_36 S.ob rfl dX3_endMonth_2 ?_
    refine ex_call0 (As := [.int (-6)]) (v := .null) (ci := 3) vl_X3_70 rfl (c_atN S.1 (Or.inl (by decide)) n8) S.ob rfl (by decide) (Nat.le_of_ble_eq_true rfl) (Nat.le_refl _) (Nat.le_refl _) rfl dX3_endMonth_5 ?_
    refine ex_astore_nN (lv' := [(1, .null), (0, .ref o)]) dX3_endMonth_8 rfl (by decide) rfl ?_
    refine ex_aload_nN 0 dX3_endMonth_9 rfl rfl ?_
    refine ex_ifnonnullN dX3_endMonth_10 ?_
    refine ex_aload_n 1 dX3_endMonth_13 rfl rfl ?_
    refine ex_dup dX3_endMonth_14 rfl ?_
    refine ex_get (v := .int (u 15)) fl_X3_57 S.ob rfl dX3_endMonth_15 ?_
    refine ex_aload_n 1 dX3_endMonth_18 rfl rfl ?_
    refine ex_aload_n 1 dX3_endMonth_19 rfl rfl ?_
    refine ex_get (v := .ref (o + 1)) fl_X3_18 S.ob rfl dX3_endMonth_20 ?_
    refine ex_iconst (v := nI 1) dX3_endMonth_23 (by decide) ?_
    refine exS_ld (i := 1) (v := u 1) S rfl (by decide) rfl dX3_endMonth_24 ?_
    refine ex_iconst (v := nI 2) dX3_endMonth_25 (by decide) ?_
    refine ex_idiv dX3_endMonth_26 (by decide) ?_
    refine exS_call (As := [.int ((u 1) / (nI 2))]) (r0 := (some (.int (mnI ((u 1) / (nI 2)) (u 11))))) (B := (n, none, t, (upd u 11 (u 11 - mnI ((u 1) / (nI 2)) (u 11))), q)) vl_X3_143 rfl S (fun S1 => c_draw S1) rfl (by decide) (Nat.le_of_ble_eq_true rfl) (Nat.le_refl _) (Nat.le_refl _) rfl dX3_endMonth_27 (fun h S => ?_)
    refine ex_iadd dX3_endMonth_30 ?_
    refine exS_putU (i := 15) S fl_X3_57 (by decide) (by decide) rfl dX3_endMonth_31 (fun h S => ?_)
    exact ex_vret hQ rfl ⟨rfl, rfl, S⟩ dX3_endMonth_34
  · have gi := gw i rfl
    refine ex_aload_n 0 dX3_endMonth_0 rfl rfl ?_
    refine ex_aload_n 0 dX3_endMonth_1 rfl rfl ?_
    refine ex_get (v := .int (nI i)) fl_X3_36 S.ob rfl dX3_endMonth_2 ?_
    refine ex_call0 (As := [.int (nI i)]) (v := .ref (o + 3 + π i)) (ci := 3) vl_X3_70 rfl (c_at S.1 (by omega) gi n8) S.ob rfl (by decide) (Nat.le_of_ble_eq_true rfl) (Nat.le_refl _) (Nat.le_refl _) rfl dX3_endMonth_5 ?_
    refine ex_astore_n (lv' := [(1, .ref (o + 3 + π i)), (0, .ref o)]) dX3_endMonth_8 rfl (by decide) rfl ?_
    refine ex_aload_n 0 dX3_endMonth_9 rfl rfl ?_
    refine ex_ifnonnull (tgt := 35) dX3_endMonth_10 (by decide) ?_
    refine ex_aload_n 1 dX3_endMonth_35 rfl rfl ?_
    refine ex_aload_n 1 dX3_endMonth_36 rfl rfl ?_
    refine ex_get (v := .ref (o + 1)) fl_X3_18 S.ob rfl dX3_endMonth_37 ?_
    refine ex_iconst (v := nI 1) dX3_endMonth_40 (by decide) ?_
    refine exS_ld (i := 1) (v := u 1) S rfl (by decide) rfl dX3_endMonth_41 ?_
    refine exS_call (As := [.int (u 1)]) (r0 := (some (.int (mnI (u 1) (u 11))))) (B := (n, (some i), t, (upd u 11 (u 11 - mnI (u 1) (u 11))), q)) vl_X3_143 rfl S (fun S1 => c_draw S1) rfl (by decide) (Nat.le_of_ble_eq_true rfl) (Nat.le_refl _) (Nat.le_refl _) rfl dX3_endMonth_42 (fun h S => ?_)
    refine ex_istore_n (lv' := [(2, .int (mnI (u 1) (u 11))), (1, .ref (o + 3 + π i)), (0, .ref o)]) dX3_endMonth_45 rfl (by decide) rfl ?_
    refine ex_iload_n 0 dX3_endMonth_46 rfl rfl ?_
    refine ex_aload_n 1 dX3_endMonth_47 rfl rfl ?_
    refine ex_get (v := .int (q i 1)) fl_X3_146 (S.pe (by omega) gi) rfl dX3_endMonth_48 ?_
    refine ex_imul dX3_endMonth_51 ?_
    refine ex_bipush (v := nI 100) dX3_endMonth_52 (by decide) ?_
    refine ex_idiv dX3_endMonth_54 (by decide) ?_
    refine ex_istore_n (lv' := [(3, .int (((mnI (u 1) (u 11)) * (q i 1)) / (nI 100))), (2, .int (mnI (u 1) (u 11))), (1, .ref (o + 3 + π i)), (0, .ref o)]) dX3_endMonth_55 rfl (by decide) rfl ?_
    refine ex_aload_n 3 dX3_endMonth_56 rfl rfl ?_
    refine ex_dup dX3_endMonth_57 rfl ?_
    refine ex_get (v := .int (u 15)) fl_X3_57 S.ob rfl dX3_endMonth_58 ?_
    refine ex_iload_n 0 dX3_endMonth_61 rfl rfl ?_
    refine ex_iadd dX3_endMonth_62 ?_
    refine exS_putU (i := 15) S fl_X3_57 (by decide) (by decide) rfl dX3_endMonth_63 (fun h S => ?_)
    refine ex_aload_n 2 dX3_endMonth_66 rfl rfl ?_
    refine ex_dup dX3_endMonth_67 rfl ?_
    refine ex_get (v := .int (q i 3)) fl_X3_86 (S.pe (by omega) gi) rfl dX3_endMonth_68 ?_
    refine ex_iload_n 1 dX3_endMonth_71 rfl rfl ?_
    refine ex_iload_n 0 dX3_endMonth_72 rfl rfl ?_
    refine ex_isub dX3_endMonth_73 ?_
    refine ex_iadd dX3_endMonth_74 ?_
    refine exP_put S (by omega) gi fl_X3_86 (by decide) rfl dX3_endMonth_75 (fun h S => ?_)
    refine ex_aload_n 3 dX3_endMonth_78 rfl rfl ?_
    refine ex_bipush (v := nI 99) dX3_endMonth_79 (by decide) ?_
    refine ex_aload_n 3 dX3_endMonth_81 rfl rfl ?_
    refine ex_get (v := .int (u 8)) fl_X3_33 S.ob rfl dX3_endMonth_82 ?_
    refine ex_iload_n 0 dX3_endMonth_85 rfl rfl ?_
    refine ex_iconst (v := nI 2) dX3_endMonth_86 (by decide) ?_
    refine ex_idiv dX3_endMonth_87 (by decide) ?_
    refine ex_iadd dX3_endMonth_88 ?_
    refine exm_min (v := mnI (nI 99) ((u 8) + ((((mnI (u 1) (u 11)) * (q i 1)) / (nI 100)) / (nI 2)))) mlx_min rfl (by decide) (Nat.le_of_ble_eq_true rfl) (Nat.le_refl _) (Nat.le_refl _) dX3_endMonth_89 ?_
    refine exS_putU (i := 8) S fl_X3_33 (by decide) (by decide) rfl dX3_endMonth_92 (fun h S => ?_)
    refine ex_aload_n 3 dX3_endMonth_95 rfl rfl ?_
    refine ex_get (v := .int (mnI (nI 99) ((u 8) + ((((mnI (u 1) (u 11)) * (q i 1)) / (nI 100)) / (nI 2))))) fl_X3_33 S.ob rfl dX3_endMonth_96 ?_
    refine ex_aload_n 3 dX3_endMonth_99 rfl rfl ?_
    refine ex_get (v := .ref (o + 1)) fl_X3_18 S.ob rfl dX3_endMonth_100 ?_
    refine ex_iconst (v := nI 5) dX3_endMonth_103 (by decide) ?_
    refine exS_ld (i := 5) (v := u 5) S rfl (by decide) rfl dX3_endMonth_104 ?_
    refine ex_icmp_ge (tgt := 113) dX3_endMonth_105 (by decide) (fun c_105 => ?_) (fun c_105 => ?_)
    · exact ex_vret hQ rfl ⟨rfl, rfl, by simp only [monthA]; rw [if_neg (Int32.not_lt.mpr c_105)]; exact S⟩ dX3_endMonth_113
    · refine ex_aload_n 3 dX3_endMonth_108 rfl rfl ?_
      refine ex_iconst (v := nI 0) dX3_endMonth_109 (by decide) ?_
      refine exS_call (As := [.int (nI 0)]) (r0 := none) (B := (n, none, 0, (upd (upd (upd (upd u 11 (u 11 - mnI (u 1) (u 11))) 15 ((u 15) + (((mnI (u 1) (u 11)) * (q i 1)) / (nI 100)))) 8 (mnI (nI 99) ((u 8) + ((((mnI (u 1) (u 11)) * (q i 1)) / (nI 100)) / (nI 2))))) 14 (u 14 + nI 1)), (uq q i 3 ((q i 3) + ((mnI (u 1) (u 11)) - (((mnI (u 1) (u 11)) * (q i 1)) / (nI 100))))))) vl_X3_105 rfl S (fun S1 => c_depose S1) rfl (by decide) (Nat.le_of_ble_eq_true rfl) (Nat.le_refl _) (Nat.le_refl _) rfl dX3_endMonth_110 (fun h S => ?_)
      exact ex_vret hQ rfl ⟨rfl, rfl, by simp only [monthA]; rw [if_pos (Int32.not_le.mp c_105)]; exact S⟩ dX3_endMonth_113

set_option maxRecDepth 20000 in
set_option maxHeartbeats 2000000 in
theorem c_nextHand {G : GG} {l : Launch} {h0 : HP} {z o : Nat} {π : Nat → Nat} {n : Nat} {g : Option Nat} {t : Nat} {u : Nat → Int32} {q : Nat → Nat → Int32} (S0 : SP G h0 o π (n, g, t, u, q)) (tw : t < n ∨ t = 0) (n8 : n ≤ 8) : Ct G l 1 0 0 yX3_nextHand cX3_nextHand 4 (some .int) [.ref o] h0 z (p0 (.int (gv (hand n t u q))) h0 z) := by
  refine Ct.intro (lv := [(0, .ref o)]) (by decide +kernel) (Nat.le_of_ble_eq_true rfl) rfl (fun X Q hQ hnm => ?_)
  have S := S0.sf
  refine ex_aload_n 0 dX3_nextHand_0 rfl rfl ?_
  refine ex_get (v := .int (nI t)) fl_X3_39 S.ob rfl dX3_nextHand_1 ?_
  refine ex_istore_n (lv' := [(1, .int (nI t)), (0, .ref o)]) dX3_nextHand_4 rfl (by decide) rfl ?_
  refine ex_iconst (v := nI 0) dX3_nextHand_5 (by decide) ?_
  refine ex_istore_n (lv' := [(2, .int (nI 0)), (1, .int (nI t)), (0, .ref o)]) dX3_nextHand_6 rfl (by decide) rfl ?_
  suffices H : ∀ (r k t1 : Nat), k + r = n → (0 < n → t1 < n) → t1 < 9 → handF n u q t1 r = hand n t u q → ex G l X Q 1 0 0 0 0 cX3_nextHand yX3_nextHand.cls 4 (some .int) h0 z 7 [(2, .int (nI k)), (1, .int (nI t1)), (0, .ref o)] [] from by
    have e2 := H n 0 t (by omega) (by omega) (by omega) rfl
    refine ex_lv (lv2 := [(2, .int (nI 0)), (1, .int (nI t)), (0, .ref o)]) [0, 1, 2] rfl ?_
    exact e2
  intro r
  induction r with
  | zero =>
    intro k t1 hk ht h9 hh
    refine ex_iload_n 0 dX3_nextHand_7 rfl rfl ?_
    refine ex_aload_n 2 dX3_nextHand_8 rfl rfl ?_
    refine ex_get (v := .int (nI n)) fl_X3_29 S.ob rfl dX3_nextHand_9 ?_
    refine ex_icmp_ge (tgt := 47) dX3_nextHand_12 (by decide) (fun c_12 => ?_) (fun c_12 => absurd ((nI_leI (by omega) (by omega)).mpr (by omega)) c_12)
    refine ex_bipush (v := (-6)) dX3_nextHand_47 (by decide) ?_
    exact ex_iret hQ rfl ⟨by rw [← hh]; rfl, rfl, rfl⟩ dX3_nextHand_49
  | succ r ih =>
    intro k t1 hk ht h9 hh
    refine ex_iload_n 0 dX3_nextHand_7 rfl rfl ?_
    refine ex_aload_n 2 dX3_nextHand_8 rfl rfl ?_
    refine ex_get (v := .int (nI n)) fl_X3_29 S.ob rfl dX3_nextHand_9 ?_
    refine ex_icmp_ge (tgt := 47) dX3_nextHand_12 (by decide) (fun c_12 => absurd c_12 (fun q9 => absurd ((nI_leI (by omega) (by omega)).mp q9) (by omega))) (fun c_12 => ?_)
    refine ex_aload_n 2 dX3_nextHand_15 rfl rfl ?_
    refine ex_iload_n 1 dX3_nextHand_16 rfl rfl ?_
    refine ex_call0 (As := [.int (nI t1)]) (v := .ref (o + 3 + π t1)) (ci := 3) vl_X3_70 rfl (c_at S.1 (by omega) (by omega) n8) S.ob rfl (by decide) (Nat.le_of_ble_eq_true rfl) (Nat.le_refl _) (Nat.le_refl _) rfl dX3_nextHand_17 ?_
    refine ex_astore_n (lv' := [(3, .ref (o + 3 + π t1)), (2, .int (nI k)), (1, .int (nI t1)), (0, .ref o)]) dX3_nextHand_20 rfl (by decide) rfl ?_
    refine ex_aload_n 0 dX3_nextHand_21 rfl rfl ?_
    refine ex_ifnull dX3_nextHand_22 ?_
    refine ex_aload_n 3 dX3_nextHand_25 rfl rfl ?_
    refine ex_aload_n 0 dX3_nextHand_26 rfl rfl ?_
    refine ex_call0 (As := [.ref (o + 3 + π t1)]) (v := .int (bB u q t1)) (ci := 3) vl_X3_82 rfl (c_isBarred S.1 (by omega) (by omega)) S.ob rfl (by decide) (Nat.le_of_ble_eq_true rfl) (Nat.le_refl _) (Nat.le_refl _) rfl dX3_nextHand_27 ?_
    refine ex_if_ne (tgt := 35) dX3_nextHand_30 (by decide) (fun c_30 => ?_) (fun c_30 => ?_)
    · refine ex_aload_n 3 dX3_nextHand_35 rfl rfl ?_
      refine ex_iload_n 2 dX3_nextHand_36 rfl rfl ?_
      refine ex_call0 (As := [.int (nI t1)]) (v := .int (nI (bh n t1))) (ci := 3) vl_X3_139 rfl (c_behind S.1 (by omega) n8) S.ob rfl (by decide) (Nat.le_of_ble_eq_true rfl) (Nat.le_refl _) (Nat.le_refl _) rfl dX3_nextHand_37 ?_
      refine ex_istore_n (lv' := [(1, .int (nI (bh n t1))), (3, .ref (o + 3 + π t1)), (2, .int (nI k)), (0, .ref o)]) dX3_nextHand_40 rfl (by decide) rfl ?_
      refine ex_iinc (v := nI (k + 1)) (lv' := [(2, .int (nI (k + 1))), (1, .int (nI (bh n t1))), (3, .ref (o + 3 + π t1)), (0, .ref o)]) 2 dX3_nextHand_41 rfl (nI_1 k) (by decide) rfl ?_
      refine ex_goto (tgt := 7) dX3_nextHand_44 (by decide) ?_
      have e2 := ih (k + 1) (bh n t1) (by omega) (fun q9 => bh_lt q9) (by have := @bh_lt n t1 (by omega); omega) (by rw [← hh, handF, if_neg (bB_1 c_30)])
      refine ex_lv (lv2 := [(2, .int (nI (k + 1))), (1, .int (nI (bh n t1))), (0, .ref o)]) [0, 1, 3] rfl ?_
      exact e2
    · refine ex_iload_n 2 dX3_nextHand_33 rfl rfl ?_
      exact ex_iret hQ rfl ⟨by rw [← hh, handF, if_pos (bB_0 c_30)]; rfl, rfl, rfl⟩ dX3_nextHand_34

set_option maxRecDepth 20000 in
set_option maxHeartbeats 2000000 in
theorem c_holdOut {G : GG} {l : Launch} {h0 : HP} {z o : Nat} {π : Nat → Nat} {n : Nat} {t : Nat} {u : Nat → Int32} {q : Nat → Nat → Int32} (S0 : SP G h0 o π (n, none, t, u, q)) (tw : t < n ∨ t = 0) (n8 : n ≤ 8) : Ct G l 2 0 0 yX3_holdOutHand cX3_holdOutHand 3 (some .int) [.ref o] h0 z (pS G (some (.int (gv (holdA n t u q).2))) h0 z o π (holdA n t u q).1) := by
  refine Ct.intro (lv := [(0, .ref o)]) (by decide +kernel) (Nat.le_of_ble_eq_true rfl) rfl (fun X Q hQ hnm => ?_)
  have S := S0.sf
  refine ex_aload_n 0 dX3_holdOutHand_0 rfl rfl ?_
  refine ex_call0 (As := []) (v := .int (gv (hand n t u q))) (ci := 3) vl_X3_130 rfl (c_nextHand S.1 tw n8) S.ob rfl (by decide) (Nat.le_of_ble_eq_true rfl) (Nat.le_refl _) (Nat.le_refl _) rfl dX3_holdOutHand_1 ?_
  rcases hh : hand n t u q with _ | j
  · refine ex_istore_n (lv' := [(1, .int (-6)), (0, .ref o)]) dX3_holdOutHand_4 rfl (by decide) rfl ?_
    refine ex_aload_n 1 dX3_holdOutHand_5 rfl rfl ?_
    refine ex_iload_n 0 dX3_holdOutHand_6 rfl rfl ?_
    refine ex_call0 (As := [.int (-6)]) (v := .null) (ci := 3) vl_X3_70 rfl (c_atN S.1 (Or.inl (by decide)) n8) S.ob rfl (by decide) (Nat.le_of_ble_eq_true rfl) (Nat.le_refl _) (Nat.le_refl _) rfl dX3_holdOutHand_7 ?_
    refine ex_astore_nN (lv' := [(2, .null), (1, .int (-6)), (0, .ref o)]) dX3_holdOutHand_10 rfl (by decide) rfl ?_
    refine ex_aload_nN 0 dX3_holdOutHand_11 rfl rfl ?_
    refine ex_ifnonnullN dX3_holdOutHand_12 ?_
    refine ex_bipush (v := (-6)) dX3_holdOutHand_15 (by decide) ?_
    exact ex_iret hQ rfl ⟨by simp only [holdA, hh]; rfl, rfl, by simp only [holdA, hh]; exact S⟩ dX3_holdOutHand_17
  · have hj : j < n := hand_lt tw hh
    refine ex_istore_n (lv' := [(1, .int (nI j)), (0, .ref o)]) dX3_holdOutHand_4 rfl (by decide) rfl ?_
    refine ex_aload_n 1 dX3_holdOutHand_5 rfl rfl ?_
    refine ex_iload_n 0 dX3_holdOutHand_6 rfl rfl ?_
    refine ex_call0 (As := [.int (nI j)]) (v := .ref (o + 3 + π j)) (ci := 3) vl_X3_70 rfl (c_at S.1 (by omega) hj n8) S.ob rfl (by decide) (Nat.le_of_ble_eq_true rfl) (Nat.le_refl _) (Nat.le_refl _) rfl dX3_holdOutHand_7 ?_
    refine ex_astore_n (lv' := [(2, .ref (o + 3 + π j)), (1, .int (nI j)), (0, .ref o)]) dX3_holdOutHand_10 rfl (by decide) rfl ?_
    refine ex_aload_n 0 dX3_holdOutHand_11 rfl rfl ?_
    refine ex_ifnonnull (tgt := 18) dX3_holdOutHand_12 (by decide) ?_
    refine ex_aload_n 2 dX3_holdOutHand_18 rfl rfl ?_
    refine ex_aload_n 0 dX3_holdOutHand_19 rfl rfl ?_
    refine ex_call0 (As := [.ref (o + 3 + π j)]) (v := .int (scI u q j)) (ci := 3) vl_X3_101 rfl (c_score S.1 (by omega) hj) S.ob rfl (by decide) (Nat.le_of_ble_eq_true rfl) (Nat.le_refl _) (Nat.le_refl _) rfl dX3_holdOutHand_20 ?_
    refine ex_aload_n 2 dX3_holdOutHand_23 rfl rfl ?_
    refine ex_get (v := .ref (o + 1)) fl_X3_18 S.ob rfl dX3_holdOutHand_24 ?_
    refine ex_iconst (v := nI 0) dX3_holdOutHand_27 (by decide) ?_
    refine exS_ld (i := 0) (v := u 0) S rfl (by decide) rfl dX3_holdOutHand_28 ?_
    refine ex_icmp_lt (tgt := 59) dX3_holdOutHand_29 (by decide) (fun c_29 => ?_) (fun c_29 => ?_)
    · refine ex_aload_n 2 dX3_holdOutHand_59 rfl rfl ?_
      refine ex_aload_n 0 dX3_holdOutHand_60 rfl rfl ?_
      refine exS_call (As := [.ref (o + 3 + π j)]) (r0 := none) (B := (n, none, t, (upd u 12 (u 12 + nI 1)), (uq q j 2 (q j 2 + nI 1)))) vl_X3_108 rfl S (fun S1 => c_scratch S1 (by omega) hj) rfl (by decide) (Nat.le_of_ble_eq_true rfl) (Nat.le_refl _) (Nat.le_refl _) rfl dX3_holdOutHand_61 (fun h S => ?_)
      refine ex_aload_n 2 dX3_holdOutHand_64 rfl rfl ?_
      refine ex_iconst (v := nI 0) dX3_holdOutHand_65 (by decide) ?_
      refine ex_aload_n 2 dX3_holdOutHand_66 rfl rfl ?_
      refine ex_get (v := .int (u 8)) fl_X3_33 S.ob rfl dX3_holdOutHand_67 ?_
      refine ex_iconst (v := nI 3) dX3_holdOutHand_70 (by decide) ?_
      refine ex_isub dX3_holdOutHand_71 ?_
      refine exm_max (v := mxI (nI 0) ((u 8) - (nI 3))) mlx_max rfl (by decide) (Nat.le_of_ble_eq_true rfl) (Nat.le_refl _) (Nat.le_refl _) dX3_holdOutHand_72 ?_
      refine exS_putU (i := 8) S fl_X3_33 (by decide) (by decide) rfl dX3_holdOutHand_75 (fun h S => ?_)
      refine ex_aload_n 2 dX3_holdOutHand_78 rfl rfl ?_
      refine ex_aload_n 2 dX3_holdOutHand_79 rfl rfl ?_
      refine ex_iload_n 1 dX3_holdOutHand_80 rfl rfl ?_
      refine ex_call0 (As := [.int (nI j)]) (v := .int (nI (bh n j))) (ci := 3) vl_X3_139 rfl (c_behind S.1 (by omega) n8) S.ob rfl (by decide) (Nat.le_of_ble_eq_true rfl) (Nat.le_refl _) (Nat.le_refl _) rfl dX3_holdOutHand_81 ?_
      refine exS_putT (t1 := bh n j) S fl_X3_39 rfl dX3_holdOutHand_84 (fun h S => ?_)
      refine ex_bipush (v := (-6)) dX3_holdOutHand_87 (by decide) ?_
      exact ex_iret hQ rfl ⟨by simp only [holdA, hh]; rw [if_pos c_29]; rfl, rfl, by simp only [holdA, hh]; rw [if_pos c_29]; exact S⟩ dX3_holdOutHand_89
    · refine ex_aload_n 2 dX3_holdOutHand_32 rfl rfl ?_
      refine ex_iload_n 1 dX3_holdOutHand_33 rfl rfl ?_
      refine exS_putG (g1 := (some j)) S fl_X3_36 rfl dX3_holdOutHand_34 (fun h S => ?_)
      refine ex_aload_n 0 dX3_holdOutHand_37 rfl rfl ?_
      refine ex_dup dX3_holdOutHand_38 rfl ?_
      refine ex_get (v := .int (q j 4)) fl_X3_133 (S.pe (by omega) hj) rfl dX3_holdOutHand_39 ?_
      refine ex_iconst (v := nI 1) dX3_holdOutHand_42 (by decide) ?_
      refine ex_iadd dX3_holdOutHand_43 ?_
      refine exP_put S (by omega) hj fl_X3_133 (by decide) rfl dX3_holdOutHand_44 (fun h S => ?_)
      refine ex_aload_n 2 dX3_holdOutHand_47 rfl rfl ?_
      refine ex_dup dX3_holdOutHand_48 rfl ?_
      refine ex_get (v := .int (u 13)) fl_X3_51 S.ob rfl dX3_holdOutHand_49 ?_
      refine ex_iconst (v := nI 1) dX3_holdOutHand_52 (by decide) ?_
      refine ex_iadd dX3_holdOutHand_53 ?_
      refine exS_putU (i := 13) S fl_X3_51 (by decide) (by decide) rfl dX3_holdOutHand_54 (fun h S => ?_)
      refine ex_iload_n 1 dX3_holdOutHand_57 rfl rfl ?_
      exact ex_iret hQ rfl ⟨by simp only [holdA, hh]; rw [if_neg c_29]; rfl, rfl, by simp only [holdA, hh]; rw [if_neg c_29]; exact S⟩ dX3_holdOutHand_58
end
section
set_option maxRecDepth 20000 in
set_option maxHeartbeats 2000000 in
theorem c_cmp {G : GG} {l : Launch} {h0 : HP} {z : Nat} {a b : Int32} : Ct G l 0 0 0 yJ6_compare_7cf53 cJ6_compare_7cf53 2 (some .int) [.int a, .int b] h0 z (p0 (.int (cpI a b)) h0 z) := by
  refine Ct.intro (lv := [(0, .int a), (1, .int b)]) (by decide +kernel) (Nat.le_of_ble_eq_true rfl) rfl (fun X Q hQ hnm => ?_)
  refine ex_iload_n 0 dJ6_compare_7cf53_0 rfl rfl ?_
  refine ex_iload_n 1 dJ6_compare_7cf53_1 rfl rfl ?_
  refine ex_icmp_ge (tgt := 9) dJ6_compare_7cf53_2 (by decide) (fun c_2 => ?_) (fun c_2 => ?_)
  · refine ex_iload_n 0 dJ6_compare_7cf53_9 rfl rfl ?_
    refine ex_iload_n 1 dJ6_compare_7cf53_10 rfl rfl ?_
    refine ex_icmp_ne (tgt := 18) dJ6_compare_7cf53_11 (by decide) (fun c_11 => ?_) (fun c_11 => ?_)
    · refine ex_iconst (v := nI 1) dJ6_compare_7cf53_18 (by decide) ?_
      exact ex_iret hQ rfl ⟨by simp [cpI, c_11, Int32.not_lt.mpr c_2], rfl, rfl⟩ dJ6_compare_7cf53_19
    · refine ex_iconst (v := nI 0) dJ6_compare_7cf53_14 (by decide) ?_
      refine ex_goto (tgt := 19) dJ6_compare_7cf53_15 (by decide) ?_
      exact ex_iret hQ rfl ⟨by simp [cpI, c_11, Int32.lt_irrefl], rfl, rfl⟩ dJ6_compare_7cf53_19
  · refine ex_iconst (v := (-1)) dJ6_compare_7cf53_5 (by decide) ?_
    refine ex_goto (tgt := 19) dJ6_compare_7cf53_6 (by decide) ?_
    exact ex_iret hQ rfl ⟨by simp [cpI, Int32.not_le.mp c_2], rfl, rfl⟩ dJ6_compare_7cf53_19

set_option maxRecDepth 20000 in
set_option maxHeartbeats 2000000 in
theorem c_liveDayT {G : GG} {l : Launch} {h0 : HP} {z o : Nat} {π : Nat → Nat} {n : Nat} {g : Option Nat} {t : Nat} {u : Nat → Int32} {q : Nat → Nat → Int32} (S0 : SP G h0 o π (n, g, t, u, q)) (w0 : wfA (n, g, t, u, q)) (hm0 : 0 < u 3) : Ct G l 3 0 0 yX3_liveDay cX3_liveDay 4 (some .int) [.ref o] h0 z (pS G (some (.int (gv (dayR (n, g, t, u, q))))) h0 z o π (dayA (n, g, t, u, q))) := by
  refine Ct.intro (lv := [(0, .ref o)]) (by decide +kernel) (Nat.le_of_ble_eq_true rfl) rfl (fun X Q hQ hnm => ?_)
  have S := S0.sf
  have n8 : n ≤ 8 := w0.1
  have gw : ∀ i, g = some i → i < n := w0.2.1
  have tw : t < n ∨ t = 0 := w0.2.2
  refine ex_aload_n 0 dX3_liveDay_0 rfl rfl ?_
  refine ex_dup dX3_liveDay_1 rfl ?_
  refine ex_get (v := .int (u 6)) fl_X3_45 S.ob rfl dX3_liveDay_2 ?_
  refine ex_iconst (v := nI 1) dX3_liveDay_5 (by decide) ?_
  refine ex_iadd dX3_liveDay_6 ?_
  refine exS_putU (i := 6) S fl_X3_45 (by decide) (by decide) rfl dX3_liveDay_7 (fun h S => ?_)
  have wf1 : wfA (hA (nA (n, g, t, u, q))).1 := hA_wf (nA_wf w0)
  have hm1 : (hA (nA (n, g, t, u, q))).1.2.2.2.1 3 = u 3 := hA_u (A := nA (n, g, t, u, q)) (by decide)
  suffices J : ∀ (h : HP) (B : AS), (hA (nA (n, g, t, u, q))).1 = B → SF G h0 h o π B → ex G l X Q 3 0 0 0 0 cX3_liveDay yX3_liveDay.cls 4 (some .int) h z 28 [(0, .ref o)] [.int (gv (dayR (n, g, t, u, q)))] from by
    rcases g with _ | i
    · refine ex_aload_n 0 dX3_liveDay_10 rfl rfl ?_
      refine ex_get (v := .int (-6)) fl_X3_36 S.ob rfl dX3_liveDay_11 ?_
      refine ex_bipush (v := (-6)) dX3_liveDay_14 (by decide) ?_
      refine ex_icmp_ne (tgt := 26) dX3_liveDay_16 (by decide) (fun c_16 => absurd (rfl) c_16) (fun c_16 => ?_)
      refine ex_aload_n 0 dX3_liveDay_19 rfl rfl ?_
      refine exS_call (As := []) (r0 := (some (.int (gv (holdA n t (upd u 6 ((u 6) + (nI 1))) q).2)))) (B := (holdA n t (upd u 6 ((u 6) + (nI 1))) q).1) vl_X3_115 rfl S (fun S1 => c_holdOut S1 tw n8) rfl (by decide) (Nat.le_of_ble_eq_true rfl) (Nat.le_refl _) (Nat.le_refl _) rfl dX3_liveDay_20 (fun h S => ?_)
      refine ex_goto (tgt := 28) dX3_liveDay_23 (by decide) ?_
      exact J _ _ rfl S
    · have gi := gw i rfl
      refine ex_aload_n 0 dX3_liveDay_10 rfl rfl ?_
      refine ex_get (v := .int (nI i)) fl_X3_36 S.ob rfl dX3_liveDay_11 ?_
      refine ex_bipush (v := (-6)) dX3_liveDay_14 (by decide) ?_
      refine ex_icmp_ne (tgt := 26) dX3_liveDay_16 (by decide) (fun c_16 => ?_) (fun c_16 => absurd c_16 (nI_n6 (by omega)))
      refine ex_bipush (v := (-6)) dX3_liveDay_26 (by decide) ?_
      exact J _ _ rfl S
  intro h B hB S
  obtain ⟨n1, g1, t1, u1, q1⟩ := B
  rw [hB] at wf1 hm1
  have n8 : n1 ≤ 8 := wf1.1
  have gw1 : ∀ i, g1 = some i → i < n1 := wf1.2.1
  have hmo : ¬ u1 3 ≤ 0 := by rw [show u1 3 = u 3 from hm1]; exact Int32.not_le.mpr hm0
  refine ex_istore_n (lv' := [(1, .int (gv (dayR (n, g, t, u, q)))), (0, .ref o)]) dX3_liveDay_28 rfl (by decide) rfl ?_
  refine ex_aload_n 1 dX3_liveDay_29 rfl rfl ?_
  refine ex_get (v := .ref (o + 1)) fl_X3_18 S.ob rfl dX3_liveDay_30 ?_
  refine ex_iconst (v := nI 3) dX3_liveDay_33 (by decide) ?_
  refine exS_ld (i := 3) (v := u1 3) S rfl (by decide) rfl dX3_liveDay_34 ?_
  refine ex_istore_n (lv' := [(2, .int (u1 3)), (1, .int (gv (dayR (n, g, t, u, q)))), (0, .ref o)]) dX3_liveDay_35 rfl (by decide) rfl ?_
  refine ex_iload_n 0 dX3_liveDay_36 rfl rfl ?_
  refine ex_if_le (tgt := 53) dX3_liveDay_37 (by decide) (fun c_37 => absurd c_37 (hmo)) (fun c_37 => ?_)
  refine ex_aload_n 2 dX3_liveDay_40 rfl rfl ?_
  refine ex_get (v := .int (u1 6)) fl_X3_45 S.ob rfl dX3_liveDay_41 ?_
  refine ex_iload_n 0 dX3_liveDay_44 rfl rfl ?_
  refine ex_irem dX3_liveDay_45 (fun q9 => hmo (by rw [q9]; exact Int32.le_refl 0)) ?_
  have wf2 : wfA (mA (n1, g1, t1, u1, q1)) := mA_wf wf1
  suffices J2 : ∀ (h : HP) (B : AS), mA (n1, g1, t1, u1, q1) = B → SF G h0 h o π B → ex G l X Q 3 0 0 0 0 cX3_liveDay yX3_liveDay.cls 4 (some .int) h z 53 [(2, .int (u1 3)), (1, .int (gv (dayR (n, g, t, u, q)))), (0, .ref o)] [] from by
    refine ex_if_ne (tgt := 53) dX3_liveDay_46 (by decide) (fun c_46 => ?_) (fun c_46 => ?_)
    · exact J2 _ _ (by unfold mA; rw [if_neg c_46]) S
    · refine ex_aload_n 2 dX3_liveDay_49 rfl rfl ?_
      refine exS_call (As := []) (r0 := none) (B := monthA (n1, g1, t1, u1, q1)) vl_X3_118 rfl S (fun S1 => c_endMonth S1 gw1 n8) rfl (by decide) (Nat.le_of_ble_eq_true rfl) (Nat.le_refl _) (Nat.le_refl _) rfl dX3_liveDay_50 (fun h S => ?_)
      exact J2 _ _ (by unfold mA; rw [if_pos c_46]) S
  intro h B hB2 S
  obtain ⟨n2, g2, t2, u2, q2⟩ := B
  rw [hB2] at wf2
  have n8 : n2 ≤ 8 := wf2.1
  have gw2 : ∀ i, g2 = some i → i < n2 := wf2.2.1
  refine ex_aload_n 2 dX3_liveDay_53 rfl rfl ?_
  refine ex_dup dX3_liveDay_54 rfl ?_
  refine ex_get (v := .int (u2 8)) fl_X3_33 S.ob rfl dX3_liveDay_55 ?_
  refine ex_bipush (v := nI 50) dX3_liveDay_58 (by decide) ?_
  refine ex_aload_n 2 dX3_liveDay_60 rfl rfl ?_
  refine ex_get (v := .int (u2 8)) fl_X3_33 S.ob rfl dX3_liveDay_61 ?_
  refine ex_callS0 (As := [.int (nI 50), .int (u2 8)]) (v := .int (cpI (nI 50) (u2 8))) vl_X3_121 (c_cmp) rfl (by decide) (Nat.le_of_ble_eq_true rfl) (Nat.le_refl _) (Nat.le_refl _) rfl dX3_liveDay_64 ?_
  refine ex_iadd dX3_liveDay_67 ?_
  refine exS_putU (i := 8) S fl_X3_33 (by decide) (by decide) rfl dX3_liveDay_68 (fun h S => ?_)
  rcases g2 with _ | i
  · refine ex_aload_n 2 dX3_liveDay_71 rfl rfl ?_
    refine ex_aload_n 2 dX3_liveDay_72 rfl rfl ?_
    refine ex_get (v := .int (-6)) fl_X3_36 S.ob rfl dX3_liveDay_73 ?_
    refine ex_call0 (As := [.int (-6)]) (v := .null) (ci := 3) vl_X3_70 rfl (c_atN S.1 (Or.inl (by decide)) n8) S.ob rfl (by decide) (Nat.le_of_ble_eq_true rfl) (Nat.le_refl _) (Nat.le_refl _) rfl dX3_liveDay_76 ?_
    refine ex_astore_nN (lv' := [(3, .null), (2, .int (u1 3)), (1, .int (gv (dayR (n, g, t, u, q)))), (0, .ref o)]) dX3_liveDay_79 rfl (by decide) rfl ?_
    refine ex_aload_nN 0 dX3_liveDay_80 rfl rfl ?_
    refine ex_ifnullN (tgt := 94) dX3_liveDay_81 (by decide) ?_
    refine ex_iload_n 2 dX3_liveDay_94 rfl rfl ?_
    exact ex_iret hQ rfl ⟨rfl, rfl, by rw [show dayA (n, g, t, u, q) = _ from by unfold dayA; rw [hB, hB2]]; exact S⟩ dX3_liveDay_95
  · have gi := gw2 i rfl
    refine ex_aload_n 2 dX3_liveDay_71 rfl rfl ?_
    refine ex_aload_n 2 dX3_liveDay_72 rfl rfl ?_
    refine ex_get (v := .int (nI i)) fl_X3_36 S.ob rfl dX3_liveDay_73 ?_
    refine ex_call0 (As := [.int (nI i)]) (v := .ref (o + 3 + π i)) (ci := 3) vl_X3_70 rfl (c_at S.1 (by omega) gi n8) S.ob rfl (by decide) (Nat.le_of_ble_eq_true rfl) (Nat.le_refl _) (Nat.le_refl _) rfl dX3_liveDay_76 ?_
    refine ex_astore_n (lv' := [(3, .ref (o + 3 + π i)), (2, .int (u1 3)), (1, .int (gv (dayR (n, g, t, u, q)))), (0, .ref o)]) dX3_liveDay_79 rfl (by decide) rfl ?_
    refine ex_aload_n 0 dX3_liveDay_80 rfl rfl ?_
    refine ex_ifnull dX3_liveDay_81 ?_
    refine ex_aload_n 0 dX3_liveDay_84 rfl rfl ?_
    refine ex_dup dX3_liveDay_85 rfl ?_
    refine ex_get (v := .int (q2 i 5)) fl_X3_127 (S.pe (by omega) gi) rfl dX3_liveDay_86 ?_
    refine ex_iconst (v := nI 1) dX3_liveDay_89 (by decide) ?_
    refine ex_iadd dX3_liveDay_90 ?_
    refine exP_put S (by omega) gi fl_X3_127 (by decide) rfl dX3_liveDay_91 (fun h S => ?_)
    refine ex_iload_n 2 dX3_liveDay_94 rfl rfl ?_
    exact ex_iret hQ rfl ⟨rfl, rfl, by rw [show dayA (n, g, t, u, q) = _ from by unfold dayA; rw [hB, hB2]]; exact S⟩ dX3_liveDay_95

theorem c_liveDay {G : GG} {l : Launch} {h0 : HP} {z o : Nat} {π : Nat → Nat} {A : AS} (S0 : SP G h0 o π A) (w0 : wfA A) (hm0 : 0 < A.2.2.2.1 3) : Ct G l 3 0 0 yX3_liveDay cX3_liveDay 4 (some .int) [.ref o] h0 z (pS G (some (.int (gv (dayR A)))) h0 z o π (dayA A)) := by
  obtain ⟨n, g, t, u, q⟩ := A
  exact c_liveDayT S0 w0 hm0

set_option maxRecDepth 20000 in
set_option maxHeartbeats 2000000 in
theorem c_liveDays {G : GG} {l : Launch} {h0 : HP} {z o : Nat} {π : Nat → Nat} {A : AS} (S0 : SP G h0 o π A) (w0 : wfA A) (hm0 : 0 < A.2.2.2.1 3) {D : Nat} (hD : D < 1000) : Ct G l 4 0 0 yX3_liveDays cX3_liveDays 3 none [.ref o, .int (nI D)] h0 z (pS G none h0 z o π (itA D A)) := by
  refine Ct.intro (lv := [(0, .ref o), (1, .int (nI D))]) (by decide +kernel) (Nat.le_of_ble_eq_true rfl) rfl (fun X Q hQ hnm => ?_)
  have S := S0.sf
  refine ex_iconst (v := nI 0) dX3_liveDays_0 (by decide) ?_
  refine ex_istore_n (lv' := [(2, .int (nI 0)), (0, .ref o), (1, .int (nI D))]) dX3_liveDays_1 rfl (by decide) rfl ?_
  suffices H : ∀ (r m : Nat) (h : HP), m + r = D → SF G h0 h o π (itA m A) → ex G l X Q 4 0 0 0 0 cX3_liveDays yX3_liveDays.cls 3 none h z 2 [(2, .int (nI m)), (0, .ref o), (1, .int (nI D))] [] from by
    have e2 := H D 0 h0 (by omega) S
    refine ex_lv (lv2 := [(2, .int (nI 0)), (0, .ref o), (1, .int (nI D))]) [0, 1, 2] rfl ?_
    exact e2
  intro r
  induction r with
  | zero =>
    intro m h hm S
    refine ex_iload_n 0 dX3_liveDays_2 rfl rfl ?_
    refine ex_iload_n 2 dX3_liveDays_3 rfl rfl ?_
    refine ex_icmp_ge (tgt := 18) dX3_liveDays_4 (by decide) (fun c_4 => ?_) (fun c_4 => absurd ((nI_leI (by omega) (by omega)).mpr (by omega)) c_4)
    exact ex_vret hQ rfl ⟨rfl, rfl, by rw [← show m = D by omega]; exact S⟩ dX3_liveDays_18
  | succ r ih =>
    intro m h hm S
    refine ex_iload_n 0 dX3_liveDays_2 rfl rfl ?_
    refine ex_iload_n 2 dX3_liveDays_3 rfl rfl ?_
    refine ex_icmp_ge (tgt := 18) dX3_liveDays_4 (by decide) (fun c_4 => absurd c_4 (fun q9 => absurd ((nI_leI (by omega) (by omega)).mp q9) (by omega))) (fun c_4 => ?_)
    refine ex_aload_n 1 dX3_liveDays_7 rfl rfl ?_
    refine exS_call (As := []) (r0 := (some (.int (gv (dayR (itA m A)))))) (B := dayA (itA m A)) vl_X3_111 rfl S (fun S1 => c_liveDay S1 (itA_wf w0 m) (by rw [itA_u (by decide)]; exact hm0)) rfl (by decide) (Nat.le_of_ble_eq_true rfl) (Nat.le_refl _) (Nat.le_refl _) rfl dX3_liveDays_8 (fun h S => ?_)
    refine ex_pop dX3_liveDays_11 rfl ?_
    refine ex_iinc (v := nI (m + 1)) (lv' := [(2, .int (nI (m + 1))), (0, .ref o), (1, .int (nI D))]) 0 dX3_liveDays_12 rfl (nI_1 m) (by decide) rfl ?_
    refine ex_goto (tgt := 2) dX3_liveDays_15 (by decide) ?_
    have e2 := ih (m + 1) h (by omega) S
    refine ex_lv (lv2 := [(2, .int (nI (m + 1))), (0, .ref o), (1, .int (nI D))]) [0, 1, 2] rfl ?_
    exact e2
end
section
/-! more rows over a state: its size, a copy of settings, calls of a person, the array of the people -/
theorem SF.to {G : GG} {h0 h : HP} {o : Nat} {π : Nat → Nat} {A B : AS} (S : SF G h0 h o π A) (e1 : B.1 = A.1) (e2 : B.2.1 = A.2.1) (e3 : B.2.2.1 = A.2.2.1) (e4 : ∀ i, i < 17 → i ≠ 7 → i ≠ 9 → i ≠ 10 → B.2.2.2.1 i = A.2.2.2.1 i) (e5 : ∀ j k, j < A.1 → k < 6 → B.2.2.2.2 j k = A.2.2.2.2 j k) : SF G h0 h o π B := ⟨S.1.to e1 e2 e3 e4 e5, S.2⟩
theorem SP.wit {G : GG} {h : HP} {o : Nat} {π : Nat → Nat} {A : AS} (S : SP G h o π A) : ∃ w : Nat → Nat → Int32, ∀ j, j < 8 → h (o + 3 + π j) = some (.inr (2, pF (w j))) ∧ (j < A.1 → ∀ k, k < 6 → w j k = A.2.2.2.2 j k) := by
  have h1 : ∀ j : Nat, ∃ w : Nat → Int32, j < 8 → h (o + 3 + π j) = some (.inr (2, pF w)) ∧ (j < A.1 → ∀ k, k < 6 → w k = A.2.2.2.2 j k) := by
    intro j
    by_cases hj : j < 8
    · obtain ⟨w, w1, w2⟩ := S.2.2.2.2.2 j hj
      exact ⟨w, fun _ => ⟨w1, w2⟩⟩
    · exact ⟨fun _ => 0, fun q => absurd q hj⟩
  exact ⟨fun j => Classical.choose (h1 j), fun j hj => Classical.choose_spec (h1 j) hj⟩
theorem SF.putN {G : GG} {h0 h : HP} {o : Nat} {π : Nat → Nat} {n n1 : Nat} {g : Option Nat} {t : Nat} {u : Nat → Int32} {q : Nat → Nat → Int32} {fs : List Value} (S : SF G h0 h o π (n, g, t, u, q)) (hk : fs = stF o (n1, g, t, u, q)) : ∃ w : Nat → Nat → Int32, (∀ j k, j < n → j < 8 → k < 6 → w j k = q j k) ∧ SF G h0 (hu h o (.inr (3, fs))) o π (n1, g, t, u, w) := by
  obtain ⟨w, hw⟩ := S.1.wit
  obtain ⟨⟨s1, ⟨f, s2, s2'⟩, ⟨r, s3, s3'⟩, s4, s5, s6⟩, s7⟩ := S
  refine ⟨w, fun j k hj h8 hk => (hw j h8).2 hj k hk, ⟨by rw [hu_s, hk]; rfl, ⟨f, by rw [hu_n (by omega)]; exact s2, s2'⟩, ⟨r, by rw [hu_n (by omega)]; exact s3, s3'⟩, s4, s5, fun j hj => ?_⟩, fun a ha => by rw [hu_n (by omega)]; exact s7 a ha⟩
  exact ⟨w j, by rw [hu_n (by omega)]; exact (hw j hj).1, fun _ k _ => rfl⟩
theorem SF.cpy {G : GG} {h0 h : HP} {o : Nat} {π : Nat → Nat} {n : Nat} {g : Option Nat} {t : Nat} {u ub : Nat → Int32} {q : Nat → Nat → Int32} {f1 : Nat → Int32} (S : SF G h0 h o π (n, g, t, u, q)) (hf : ∀ i, i < 6 → f1 i = ub i) : SF G h0 (hu h (o + 1) (aA G 0 6 f1)) o π (n, g, t, (fun i => if i < 6 then ub i else u i), q) := by
  obtain ⟨⟨s1, -, ⟨r, s3, s3'⟩, s4, s5, s6⟩, s7⟩ := S
  refine ⟨⟨?_, ⟨_, hu_s, fun b hb => ?_⟩, ⟨r, by rw [hu_n (by omega)]; exact s3, s3'⟩, s4, s5, fun j hj => ?_⟩, fun a ha => by rw [hu_n (by omega)]; exact s7 a ha⟩
  · rw [hu_n (by omega), s1]
    rfl
  · show f1 b = if b < 6 then ub b else u b
    rw [if_pos hb, hf b hb]
  · obtain ⟨w, w1, w2⟩ := s6 j hj
    exact ⟨w, by rw [hu_n (by omega)]; exact w1, w2⟩
section ES2
variable {G : GG} {l : Launch} {X : CT} {Q : State → Prop} {d mc ms cs sl : Nat} {cc : ByteArray} {own : String} {nL : Nat} {ret : Option FieldType} {h h0 : HP} {z pc : Nat} {lv : List (Nat × Value)} {st : List Value} {o : Nat} {π : Nat → Nat} {n : Nat} {g : Option Nat} {t : Nat} {u : Nat → Int32} {q : Nat → Nat → Int32}
theorem ex_topi {x y : Int32} (e : x = y) (k1 : ex G l X Q d mc ms cs sl cc own nL ret h z pc lv (.int y :: st)) : ex G l X Q d mc ms cs sl cc own nL ret h z pc lv (.int x :: st) := by
  subst e
  exact k1
theorem exS_putN {idx n1 : Nat} {v : Int32} (S : SF G h0 h o π (n, g, t, u, q)) (fl : FL own idx 3 2 .int false) (hv : v = nI n1) (dg : decode cc pc = .ok (.putfield idx, 3)) (k1 : ∀ (h : HP) (w : Nat → Nat → Int32), (∀ j k, j < n → j < 8 → k < 6 → w j k = q j k) → SF G h0 h o π (n1, g, t, u, w) → ex G l X Q d mc ms cs sl cc own nL ret h z (pc + 3) lv st) : ex G l X Q d mc ms cs sl cc own nL ret h z pc lv (.int v :: .ref o :: st) := by
  subst hv
  obtain ⟨w, hw, S1⟩ := S.putN (n1 := n1) (fs := (stF o (n, g, t, u, q)).set 2 (.int (nI n1))) rfl
  exact ex_put fl S.ob rfl rfl (by show 2 < 13; decide) dg (k1 _ w hw S1)
theorem exS_cpy {idx o2 : Nat} {π2 : Nat → Nat} {B : AS} (w1 : Cond.methodLink own idx arraycopyName ∈ TW) (w2 : Cond.native arraycopyName ∈ TW) (w3 : Cond.static arraycopyName ∈ TW) (w4 : Cond.initialized "java/lang/System" ∈ TW) (S : SF G h0 h o π (n, g, t, u, q)) (S2 : SP G h o2 π2 B) (hd : 1 ≤ d) (hst : (st.map fun v => v.category).sum ≤ 8) (dg : decode cc pc = .ok (.invokestatic idx, 3)) (k1 : ∀ h : HP, SF G h0 h o π (n, g, t, (fun i => if i < 6 then B.2.2.2.1 i else u i), q) → ex G l X Q d mc ms cs sl cc own nL ret h z (pc + 3) lv st) : ex G l X Q d mc ms cs sl cc own nL ret h z pc lv (.int (nI 6) :: .int (nI 0) :: .ref (o + 1) :: .int (nI 0) :: .ref (o2 + 1) :: st) := by
  obtain ⟨f, hf, hf2⟩ := S.1.2.1
  obtain ⟨f2, hg, hg2⟩ := S2.2.1
  refine ex_copy w1 w2 w3 w4 hg hf (Nat.le_refl _) (Nat.le_refl _) (by decide) hd hst dg (k1 _ (S.cpy fun i hi => ?_))
  rw [← hg2 i hi]
  unfold va_cpy
  simp [hi]
theorem exP_call {idx m d1 ny j : Nat} {y : MethodName} {cy : ByteArray} {ry : Option FieldType} {As : List Value} {r0 : Option Value} {π1 : Nat → Nat} {A B : AS} {st0 : List Value} (V : VV own idx y cy ny ry m) (hC : y.cls = RX2) (S : SF G h0 h o π A) (h8 : j < 8) (hn1 : j < A.1) (K : SP G h o π A → Ct G l d1 0 0 y cy ny ry (.ref (o + 3 + π j) :: As) h z (pS G r0 h z o π1 B)) (hn : As.length = m) (hd : d1 + 1 ≤ d) (hst : (st.map fun v => v.category).sum ≤ 8) (hc : cs ≤ mc) (hs : sl ≤ ms) (stk : st0 = As.reverse ++ .ref (o + 3 + π j) :: st) (dg : decode cc pc = .ok (.invokevirtual idx, 3)) (k1 : ∀ h : HP, SF G h0 h o π1 B → ex G l X Q d mc ms cs sl cc own nL ret h z (pc + 3) lv (r0.toList ++ st)) : ex G l X Q d mc ms cs sl cc own nL ret h z pc lv st0 :=
  ex_callV V (ci := 2) (by rw [hC]; rfl) (K S.1) (S.pe h8 hn1) hn hd hst hc hs stk dg (fun r h1 z1 hp => by obtain ⟨rfl, rfl, S1⟩ := hp; exact k1 h1 (S.trans S1))
end ES2
theorem ac_1 : Cond.methodLink RX3 64 arraycopyName ∈ TW := tw_t 196 (by decide +kernel) (by decide +kernel)
theorem ac_2 : Cond.native arraycopyName ∈ TW := tw_t 198 (by decide +kernel) (by decide +kernel)
theorem ac_3 : Cond.static arraycopyName ∈ TW := tw_t 197 (by decide +kernel) (by decide +kernel)
theorem ac_4 : Cond.initialized "java/lang/System" ∈ TW := tw_t 7 (by decide +kernel) (by decide +kernel)
end
section
set_option maxRecDepth 20000 in
set_option maxHeartbeats 2000000 in
theorem c_mayAppeal {G : GG} {l : Launch} {h0 : HP} {z o : Nat} {π : Nat → Nat} {n : Nat} {g : Option Nat} {t : Nat} {u : Nat → Int32} {q : Nat → Nat → Int32} (S0 : SP G h0 o π (n, g, t, u, q)) {j : Nat} (h8 : j < 8) (hn : j < n) (gw : ∀ i, g = some i → i < n) (n8 : n ≤ 8) : Ct G l 1 0 0 yX3_mayAppeal cX3_mayAppeal 3 (some .boolean) [.ref o, .int (nI j)] h0 z (p0 (.int (mayI n g u q j)) h0 z) := by
  refine Ct.intro (lv := [(0, .ref o), (1, .int (nI j))]) (by decide +kernel) (Nat.le_of_ble_eq_true rfl) rfl (fun X Q hQ hnm => ?_)
  have S := S0.sf
  rcases g with _ | i
  · refine ex_aload_n 0 dX3_mayAppeal_0 rfl rfl ?_
    refine ex_iload_n 1 dX3_mayAppeal_1 rfl rfl ?_
    refine ex_call0 (As := [.int (nI j)]) (v := .ref (o + 3 + π j)) (ci := 3) vl_X3_70 rfl (c_at S.1 h8 hn n8) S.ob rfl (by decide) (Nat.le_of_ble_eq_true rfl) (Nat.le_refl _) (Nat.le_refl _) rfl dX3_mayAppeal_2 ?_
    refine ex_astore_n (lv' := [(2, .ref (o + 3 + π j)), (0, .ref o), (1, .int (nI j))]) dX3_mayAppeal_5 rfl (by decide) rfl ?_
    refine ex_aload_n 0 dX3_mayAppeal_6 rfl rfl ?_
    refine ex_ifnull dX3_mayAppeal_7 ?_
    refine ex_aload_n 1 dX3_mayAppeal_10 rfl rfl ?_
    refine ex_get (v := .int (-6)) fl_X3_36 S.ob rfl dX3_mayAppeal_11 ?_
    refine ex_bipush (v := (-6)) dX3_mayAppeal_14 (by decide) ?_
    refine ex_icmp_eq (tgt := 52) dX3_mayAppeal_16 (by decide) (fun c_16 => ?_) (fun c_16 => absurd (rfl) c_16)
    refine ex_iconst (v := nI 0) dX3_mayAppeal_52 (by decide) ?_
    exact ex_zret hQ rfl (by decide) ⟨by simp [mayI], rfl, rfl⟩ dX3_mayAppeal_53
  · have gi := gw i rfl
    refine ex_aload_n 0 dX3_mayAppeal_0 rfl rfl ?_
    refine ex_iload_n 1 dX3_mayAppeal_1 rfl rfl ?_
    refine ex_call0 (As := [.int (nI j)]) (v := .ref (o + 3 + π j)) (ci := 3) vl_X3_70 rfl (c_at S.1 h8 hn n8) S.ob rfl (by decide) (Nat.le_of_ble_eq_true rfl) (Nat.le_refl _) (Nat.le_refl _) rfl dX3_mayAppeal_2 ?_
    refine ex_astore_n (lv' := [(2, .ref (o + 3 + π j)), (0, .ref o), (1, .int (nI j))]) dX3_mayAppeal_5 rfl (by decide) rfl ?_
    refine ex_aload_n 0 dX3_mayAppeal_6 rfl rfl ?_
    refine ex_ifnull dX3_mayAppeal_7 ?_
    refine ex_aload_n 1 dX3_mayAppeal_10 rfl rfl ?_
    refine ex_get (v := .int (nI i)) fl_X3_36 S.ob rfl dX3_mayAppeal_11 ?_
    refine ex_bipush (v := (-6)) dX3_mayAppeal_14 (by decide) ?_
    refine ex_icmp_eq (tgt := 52) dX3_mayAppeal_16 (by decide) (fun c_16 => absurd c_16 (nI_n6 (by omega))) (fun c_16 => ?_)
    refine ex_iload_n 2 dX3_mayAppeal_19 rfl rfl ?_
    refine ex_aload_n 1 dX3_mayAppeal_20 rfl rfl ?_
    refine ex_get (v := .int (nI i)) fl_X3_36 S.ob rfl dX3_mayAppeal_21 ?_
    refine ex_icmp_eq (tgt := 52) dX3_mayAppeal_24 (by decide) (fun c_24 => ?_) (fun c_24 => ?_)
    · have n_24 : j = i := (nI_eq (by omega) (by omega)).mp c_24
      refine ex_iconst (v := nI 0) dX3_mayAppeal_52 (by decide) ?_
      exact ex_zret hQ rfl (by decide) ⟨by first | (simp [mayI, bB_0 c_32, c_45, Ne.symm n_24]; done) | (simp [mayI, bB_0 c_32, c_45]; done) | (simp [mayI, bB_1 c_32]; done) | (simp [mayI, n_24]; done) | (simp [mayI, bB_0 c_32, c_45]; omega), rfl, rfl⟩ dX3_mayAppeal_53
    · have n_24 : ¬ (j = i) := fun q9 => c_24 ((nI_eq (by omega) (by omega)).mpr q9)
      refine ex_aload_n 1 dX3_mayAppeal_27 rfl rfl ?_
      refine ex_aload_n 0 dX3_mayAppeal_28 rfl rfl ?_
      refine ex_call0 (As := [.ref (o + 3 + π j)]) (v := .int (bB u q j)) (ci := 3) vl_X3_82 rfl (c_isBarred S.1 h8 hn) S.ob rfl (by decide) (Nat.le_of_ble_eq_true rfl) (Nat.le_refl _) (Nat.le_refl _) rfl dX3_mayAppeal_29 ?_
      refine ex_if_ne (tgt := 52) dX3_mayAppeal_32 (by decide) (fun c_32 => ?_) (fun c_32 => ?_)
      · refine ex_iconst (v := nI 0) dX3_mayAppeal_52 (by decide) ?_
        exact ex_zret hQ rfl (by decide) ⟨by first | (simp [mayI, bB_0 c_32, c_45, Ne.symm n_24]; done) | (simp [mayI, bB_0 c_32, c_45]; done) | (simp [mayI, bB_1 c_32]; done) | (simp [mayI, n_24]; done) | (simp [mayI, bB_0 c_32, c_45]; omega), rfl, rfl⟩ dX3_mayAppeal_53
      · refine ex_aload_n 0 dX3_mayAppeal_35 rfl rfl ?_
        refine ex_get (v := .int (q j 3)) fl_X3_86 (S.pe h8 hn) rfl dX3_mayAppeal_36 ?_
        refine ex_aload_n 1 dX3_mayAppeal_39 rfl rfl ?_
        refine ex_get (v := .ref (o + 1)) fl_X3_18 S.ob rfl dX3_mayAppeal_40 ?_
        refine ex_iconst (v := nI 2) dX3_mayAppeal_43 (by decide) ?_
        refine exS_ld (i := 2) (v := u 2) S rfl (by decide) rfl dX3_mayAppeal_44 ?_
        refine ex_icmp_lt (tgt := 52) dX3_mayAppeal_45 (by decide) (fun c_45 => ?_) (fun c_45 => ?_)
        · refine ex_iconst (v := nI 0) dX3_mayAppeal_52 (by decide) ?_
          exact ex_zret hQ rfl (by decide) ⟨by first | (simp [mayI, bB_0 c_32, c_45, Ne.symm n_24]; done) | (simp [mayI, bB_0 c_32, c_45]; done) | (simp [mayI, bB_1 c_32]; done) | (simp [mayI, n_24]; done) | (simp [mayI, bB_0 c_32, c_45]; omega), rfl, rfl⟩ dX3_mayAppeal_53
        · refine ex_iconst (v := nI 1) dX3_mayAppeal_48 (by decide) ?_
          refine ex_goto (tgt := 53) dX3_mayAppeal_49 (by decide) ?_
          exact ex_zret hQ rfl (by decide) ⟨by first | (simp [mayI, bB_0 c_32, c_45, Ne.symm n_24]; done) | (simp [mayI, bB_0 c_32, c_45]; done) | (simp [mayI, bB_1 c_32]; done) | (simp [mayI, n_24]; done) | (simp [mayI, bB_0 c_32, c_45]; omega), rfl, rfl⟩ dX3_mayAppeal_53

set_option maxRecDepth 20000 in
set_option maxHeartbeats 2000000 in
theorem c_hearAppeal {G : GG} {l : Launch} {h0 : HP} {z o : Nat} {π : Nat → Nat} {n i : Nat} {t : Nat} {u : Nat → Int32} {q : Nat → Nat → Int32} (S0 : SP G h0 o π (n, some i, t, u, q)) {j : Nat} (h8 : j < 8) (hn : j < n) (hi : i < n) (n8 : n ≤ 8) : Ct G l 2 0 0 yX3_hearAppeal cX3_hearAppeal 4 (some .boolean) [.ref o, .int (nI j)] h0 z (pS G (some (.int (if (appA n i t u q j).2 = true then nI 1 else nI 0))) h0 z o π (appA n i t u q j).1) := by
  refine Ct.intro (lv := [(0, .ref o), (1, .int (nI j))]) (by decide +kernel) (Nat.le_of_ble_eq_true rfl) rfl (fun X Q hQ hnm => ?_)
  have S := S0.sf
  refine ex_aload_n 0 dX3_hearAppeal_0 rfl rfl ?_
  refine ex_iload_n 1 dX3_hearAppeal_1 rfl rfl ?_
  refine ex_call0 (As := [.int (nI j)]) (v := .ref (o + 3 + π j)) (ci := 3) vl_X3_70 rfl (c_at S.1 h8 hn n8) S.ob rfl (by decide) (Nat.le_of_ble_eq_true rfl) (Nat.le_refl _) (Nat.le_refl _) rfl dX3_hearAppeal_2 ?_
  refine ex_astore_n (lv' := [(2, .ref (o + 3 + π j)), (0, .ref o), (1, .int (nI j))]) dX3_hearAppeal_5 rfl (by decide) rfl ?_
  refine ex_aload_n 1 dX3_hearAppeal_6 rfl rfl ?_
  refine ex_aload_n 1 dX3_hearAppeal_7 rfl rfl ?_
  refine ex_get (v := .int (nI i)) fl_X3_36 S.ob rfl dX3_hearAppeal_8 ?_
  refine ex_call0 (As := [.int (nI i)]) (v := .ref (o + 3 + π i)) (ci := 3) vl_X3_70 rfl (c_at S.1 (by omega) hi n8) S.ob rfl (by decide) (Nat.le_of_ble_eq_true rfl) (Nat.le_refl _) (Nat.le_refl _) rfl dX3_hearAppeal_11 ?_
  refine ex_astore_n (lv' := [(3, .ref (o + 3 + π i)), (2, .ref (o + 3 + π j)), (0, .ref o), (1, .int (nI j))]) dX3_hearAppeal_14 rfl (by decide) rfl ?_
  refine ex_aload_n 1 dX3_hearAppeal_15 rfl rfl ?_
  refine ex_ifnull dX3_hearAppeal_16 ?_
  refine ex_aload_n 0 dX3_hearAppeal_19 rfl rfl ?_
  refine ex_ifnonnull (tgt := 25) dX3_hearAppeal_20 (by decide) ?_
  refine ex_aload_n 1 dX3_hearAppeal_25 rfl rfl ?_
  refine ex_dup dX3_hearAppeal_26 rfl ?_
  refine ex_get (v := .int (q j 3)) fl_X3_86 (S.pe h8 hn) rfl dX3_hearAppeal_27 ?_
  refine ex_aload_n 2 dX3_hearAppeal_30 rfl rfl ?_
  refine ex_get (v := .ref (o + 1)) fl_X3_18 S.ob rfl dX3_hearAppeal_31 ?_
  refine ex_iconst (v := nI 2) dX3_hearAppeal_34 (by decide) ?_
  refine exS_ld (i := 2) (v := u 2) S rfl (by decide) rfl dX3_hearAppeal_35 ?_
  refine ex_isub dX3_hearAppeal_36 ?_
  refine exP_put S h8 hn fl_X3_86 (by decide) rfl dX3_hearAppeal_37 (fun h S => ?_)
  refine ex_aload_n 2 dX3_hearAppeal_40 rfl rfl ?_
  refine ex_dup dX3_hearAppeal_41 rfl ?_
  refine ex_get (v := .int (u 11)) fl_X3_42 S.ob rfl dX3_hearAppeal_42 ?_
  refine ex_aload_n 2 dX3_hearAppeal_45 rfl rfl ?_
  refine ex_get (v := .ref (o + 1)) fl_X3_18 S.ob rfl dX3_hearAppeal_46 ?_
  refine ex_iconst (v := nI 2) dX3_hearAppeal_49 (by decide) ?_
  refine exS_ld (i := 2) (v := u 2) S rfl (by decide) rfl dX3_hearAppeal_50 ?_
  refine ex_iadd dX3_hearAppeal_51 ?_
  refine exS_putU (i := 11) S fl_X3_42 (by decide) (by decide) rfl dX3_hearAppeal_52 (fun h S => ?_)
  refine ex_aload_n 2 dX3_hearAppeal_55 rfl rfl ?_
  refine ex_aload_n 1 dX3_hearAppeal_56 rfl rfl ?_
  refine ex_call0 (As := [.ref (o + 3 + π j)]) (v := .int (scI (upd u 11 ((u 11) + (u 2))) (uq q j 3 ((q j 3) - (u 2))) j)) (ci := 3) vl_X3_101 rfl (c_score S.1 h8 hn) S.ob rfl (by decide) (Nat.le_of_ble_eq_true rfl) (Nat.le_refl _) (Nat.le_refl _) rfl dX3_hearAppeal_57 ?_
  refine ex_aload_n 2 dX3_hearAppeal_60 rfl rfl ?_
  refine ex_aload_n 0 dX3_hearAppeal_61 rfl rfl ?_
  refine ex_call0 (As := [.ref (o + 3 + π i)]) (v := .int (scI (upd u 11 ((u 11) + (u 2))) (uq q j 3 ((q j 3) - (u 2))) i)) (ci := 3) vl_X3_101 rfl (c_score S.1 (by omega) hi) S.ob rfl (by decide) (Nat.le_of_ble_eq_true rfl) (Nat.le_refl _) (Nat.le_refl _) rfl dX3_hearAppeal_62 ?_
  refine ex_icmp_le (tgt := 75) dX3_hearAppeal_65 (by decide) (fun c_65 => ?_) (fun c_65 => ?_)
  · refine ex_aload_n 2 dX3_hearAppeal_75 rfl rfl ?_
    refine ex_aload_n 1 dX3_hearAppeal_76 rfl rfl ?_
    refine exS_call (As := [.ref (o + 3 + π j)]) (r0 := none) (B := (n, (some i), t, (upd (upd u 11 ((u 11) + (u 2))) 12 (u 12 + nI 1)), (uq (uq q j 3 ((q j 3) - (u 2))) j 2 (q j 2 + nI 1)))) vl_X3_108 rfl S (fun S1 => c_scratch S1 h8 hn) rfl (by decide) (Nat.le_of_ble_eq_true rfl) (Nat.le_refl _) (Nat.le_refl _) rfl dX3_hearAppeal_77 (fun h S => ?_)
    refine ex_iconst (v := nI 0) dX3_hearAppeal_80 (by decide) ?_
    exact ex_zret hQ rfl (by decide) ⟨by unfold appA; rw [if_neg (show ¬ scI u q i < scI u q j from Int32.not_lt.mpr c_65)]; rfl, rfl, by unfold appA; rw [if_neg (show ¬ scI u q i < scI u q j from Int32.not_lt.mpr c_65)]; exact S⟩ dX3_hearAppeal_81
  · refine ex_aload_n 2 dX3_hearAppeal_68 rfl rfl ?_
    refine ex_iload_n 3 dX3_hearAppeal_69 rfl rfl ?_
    refine exS_call (As := [.int (nI j)]) (r0 := none) (B := (n, none, j, (upd (upd u 11 ((u 11) + (u 2))) 14 (u 14 + nI 1)), (uq q j 3 ((q j 3) - (u 2))))) vl_X3_105 rfl S (fun S1 => c_depose S1) rfl (by decide) (Nat.le_of_ble_eq_true rfl) (Nat.le_refl _) (Nat.le_refl _) rfl dX3_hearAppeal_70 (fun h S => ?_)
    refine ex_iconst (v := nI 1) dX3_hearAppeal_73 (by decide) ?_
    exact ex_zret hQ rfl (by decide) ⟨by unfold appA; rw [if_pos (show scI u q i < scI u q j from Int32.not_le.mp c_65)]; rfl, rfl, by unfold appA; rw [if_pos (show scI u q i < scI u q j from Int32.not_le.mp c_65)]; exact S⟩ dX3_hearAppeal_74

set_option maxRecDepth 20000 in
set_option maxHeartbeats 2000000 in
theorem c_begin {G : GG} {l : Launch} {h0 : HP} {z o : Nat} {π : Nat → Nat} {n : Nat} {g : Option Nat} {t : Nat} {u : Nat → Int32} {q : Nat → Nat → Int32} (S0 : SP G h0 o π (n, g, t, u, q)) {j : Nat} (h8 : j < 8) (hn : j < n) {x y : Int32} : Ct G l 0 0 0 yX2_begin cX2_begin 3 none [.ref (o + 3 + π j), .int x, .int y] h0 z (pS G none h0 z o π (n, g, t, u, (uq (uq (uq (uq (uq (uq q j 0 x) j 1 y) j 2 (nI 0)) j 3 (nI 0)) j 4 (nI 0)) j 5 (nI 0)))) := by
  refine Ct.intro (lv := [(0, .ref (o + 3 + π j)), (1, .int x), (2, .int y)]) (by decide +kernel) (Nat.le_of_ble_eq_true rfl) rfl (fun X Q hQ hnm => ?_)
  have S := S0.sf
  refine ex_aload_n 0 dX2_begin_0 rfl rfl ?_
  refine ex_iload_n 1 dX2_begin_1 rfl rfl ?_
  refine exP_put S h8 hn fl_X2_7 (by decide) rfl dX2_begin_2 (fun h S => ?_)
  refine ex_aload_n 0 dX2_begin_5 rfl rfl ?_
  refine ex_iload_n 2 dX2_begin_6 rfl rfl ?_
  refine exP_put S h8 hn fl_X2_13 (by decide) rfl dX2_begin_7 (fun h S => ?_)
  refine ex_aload_n 0 dX2_begin_10 rfl rfl ?_
  refine ex_iconst (v := nI 0) dX2_begin_11 (by decide) ?_
  refine exP_put S h8 hn fl_X2_16 (by decide) rfl dX2_begin_12 (fun h S => ?_)
  refine ex_aload_n 0 dX2_begin_15 rfl rfl ?_
  refine ex_iconst (v := nI 0) dX2_begin_16 (by decide) ?_
  refine exP_put S h8 hn fl_X2_19 (by decide) rfl dX2_begin_17 (fun h S => ?_)
  refine ex_aload_n 0 dX2_begin_20 rfl rfl ?_
  refine ex_iconst (v := nI 0) dX2_begin_21 (by decide) ?_
  refine exP_put S h8 hn fl_X2_22 (by decide) rfl dX2_begin_22 (fun h S => ?_)
  refine ex_aload_n 0 dX2_begin_25 rfl rfl ?_
  refine ex_iconst (v := nI 0) dX2_begin_26 (by decide) ?_
  refine exP_put S h8 hn fl_X2_25 (by decide) rfl dX2_begin_27 (fun h S => ?_)
  exact ex_vret hQ rfl ⟨rfl, rfl, S⟩ dX2_begin_30

set_option maxRecDepth 20000 in
set_option maxHeartbeats 2000000 in
theorem c_admit {G : GG} {l : Launch} {h0 : HP} {z o : Nat} {π : Nat → Nat} {n : Nat} {g : Option Nat} {t : Nat} {u : Nat → Int32} {q : Nat → Nat → Int32} (S0 : SP G h0 o π (n, g, t, u, q)) (h8 : n < 8) {x y : Int32} : Ct G l 1 0 0 yX3_admit cX3_admit 4 none [.ref o, .int x, .int y] h0 z (pS G none h0 z o π (admA (n, g, t, u, q) x y)) := by
  refine Ct.intro (lv := [(0, .ref o), (1, .int x), (2, .int y)]) (by decide +kernel) (Nat.le_of_ble_eq_true rfl) rfl (fun X Q hQ hnm => ?_)
  have S := S0.sf
  refine ex_aload_n 0 dX3_admit_0 rfl rfl ?_
  refine ex_get (v := .int (nI n)) fl_X3_29 S.ob rfl dX3_admit_1 ?_
  refine ex_bipush (v := nI 8) dX3_admit_4 (by decide) ?_
  refine ex_icmp_lt (tgt := 10) dX3_admit_6 (by decide) (fun c_6 => ?_) (fun c_6 => absurd ((nI_ltI (by omega) (by omega)).mpr (by omega)) c_6)
  refine ex_aload_n 0 dX3_admit_10 rfl rfl ?_
  refine ex_dup dX3_admit_11 rfl ?_
  refine ex_get (v := .int (nI n)) fl_X3_29 S.ob rfl dX3_admit_12 ?_
  refine ex_iconst (v := nI 1) dX3_admit_15 (by decide) ?_
  refine ex_iaddN dX3_admit_16 ?_
  refine exS_putN (n1 := n + 1) S fl_X3_29 rfl dX3_admit_17 (fun h w hw S => ?_)
  refine ex_aload_n 0 dX3_admit_20 rfl rfl ?_
  refine ex_aload_n 0 dX3_admit_21 rfl rfl ?_
  refine ex_get (v := .int (nI (n + 1))) fl_X3_29 S.ob rfl dX3_admit_22 ?_
  refine ex_iconst (v := nI 1) dX3_admit_25 (by decide) ?_
  refine ex_isub dX3_admit_26 ?_
  refine ex_topi (show nI (n + 1) - nI 1 = nI n from nI_pred n) ?_
  have n9 : n + 1 ≤ 8 := by omega
  refine ex_call0 (As := [.int (nI n)]) (v := .ref (o + 3 + π n)) (ci := 3) vl_X3_70 rfl (c_at S.1 h8 (by omega) n9) S.ob rfl (by decide) (Nat.le_of_ble_eq_true rfl) (Nat.le_refl _) (Nat.le_refl _) rfl dX3_admit_27 ?_
  refine ex_astore_n (lv' := [(3, .ref (o + 3 + π n)), (0, .ref o), (1, .int x), (2, .int y)]) dX3_admit_30 rfl (by decide) rfl ?_
  refine ex_aload_n 0 dX3_admit_31 rfl rfl ?_
  refine ex_ifnull dX3_admit_32 ?_
  refine ex_aload_n 0 dX3_admit_35 rfl rfl ?_
  refine ex_iload_n 2 dX3_admit_36 rfl rfl ?_
  refine ex_iload_n 3 dX3_admit_37 rfl rfl ?_
  refine exP_call (As := [.int x, .int y]) (r0 := none) (B := ((n + 1), g, t, u, (uq (uq (uq (uq (uq (uq w n 0 x) n 1 y) n 2 (nI 0)) n 3 (nI 0)) n 4 (nI 0)) n 5 (nI 0)))) vl_X3_89 rfl S h8 (Nat.lt_succ_self n) (fun S1 => c_begin S1 h8 (Nat.lt_succ_self n)) rfl (by decide) (Nat.le_of_ble_eq_true rfl) (Nat.le_refl _) (Nat.le_refl _) rfl dX3_admit_38 (fun h S => ?_)
  exact ex_vret hQ rfl ⟨rfl, rfl, S.to rfl rfl rfl (fun _ _ _ _ _ => rfl) (fun a b ha hb => by
      have ha : a < n + 1 := ha
      show (if a = n then _ else _) = _
      by_cases e : a = n
      · subst e
        rcases (show b = 0 ∨ b = 1 ∨ b = 2 ∨ b = 3 ∨ b = 4 ∨ b = 5 by omega) with rfl | rfl | rfl | rfl | rfl | rfl <;> simp [uq, nI_0]
      · rw [if_neg e]
        simp only [uq, e, if_false]
        rw [← hw a b (by omega) (by omega) hb]
        split <;> (try split) <;> (try split) <;> (try split) <;> (try split) <;> (try split) <;> rfl)⟩ dX3_admit_41

set_option maxRecDepth 20000 in
set_option maxHeartbeats 2000000 in
theorem c_pam {G : GG} {l : Launch} {h0 : HP} {z o : Nat} {p x y : Nat} (hp : p < 9) (hx : x < 9) (hy : y < 9) : Ct G l 0 0 0 yX3_placeAfterMove cX3_placeAfterMove 4 (some .int) [.ref o, .int (nI p), .int (nI x), .int (nI y)] h0 z (p0 (.int (nI (mvP p x y))) h0 z) := by
  refine Ct.intro (lv := [(0, .ref o), (1, .int (nI p)), (2, .int (nI x)), (3, .int (nI y))]) (by decide +kernel) (Nat.le_of_ble_eq_true rfl) rfl (fun X Q hQ hnm => ?_)
  refine ex_iload_n 1 dX3_placeAfterMove_0 rfl rfl ?_
  refine ex_iload_n 2 dX3_placeAfterMove_1 rfl rfl ?_
  refine ex_icmp_ne (tgt := 7) dX3_placeAfterMove_2 (by decide) (fun c_2 => ?_) (fun c_2 => ?_)
  · have n_2 : ¬ (p = x) := fun q9 => c_2 ((nI_eq (by omega) (by omega)).mpr q9)
    refine ex_iload_n 1 dX3_placeAfterMove_7 rfl rfl ?_
    refine ex_iload_n 2 dX3_placeAfterMove_8 rfl rfl ?_
    refine ex_icmp_le (tgt := 21) dX3_placeAfterMove_9 (by decide) (fun c_9 => ?_) (fun c_9 => ?_)
    · have n_9 : p ≤ x := (nI_leI (by omega) (by omega)).mp c_9
      refine ex_iload_n 1 dX3_placeAfterMove_21 rfl rfl ?_
      refine ex_iload_n 2 dX3_placeAfterMove_22 rfl rfl ?_
      refine ex_icmp_ge (tgt := 35) dX3_placeAfterMove_23 (by decide) (fun c_23 => ?_) (fun c_23 => ?_)
      · have n_23 : x ≤ p := (nI_leI (by omega) (by omega)).mp c_23
        refine ex_iload_n 1 dX3_placeAfterMove_35 rfl rfl ?_
        exact ex_iret hQ rfl ⟨congrArg (fun a => some (Value.int (nI a))) (by unfold mvP; first | (rw [if_pos (by omega)]; done) | (rw [if_neg (by omega), if_pos (by omega)]; done) | (rw [if_neg (by omega), if_neg (by omega), if_pos (by omega)]; done) | (rw [if_neg (by omega), if_neg (by omega), if_neg (by omega)]; done)), rfl, rfl⟩ dX3_placeAfterMove_36
      · have n_23 : ¬ (x ≤ p) := fun q9 => c_23 ((nI_leI (by omega) (by omega)).mpr q9)
        refine ex_iload_n 1 dX3_placeAfterMove_26 rfl rfl ?_
        refine ex_iload_n 3 dX3_placeAfterMove_27 rfl rfl ?_
        refine ex_icmp_lt (tgt := 35) dX3_placeAfterMove_28 (by decide) (fun c_28 => ?_) (fun c_28 => ?_)
        · have n_28 : p < y := (nI_ltI (by omega) (by omega)).mp c_28
          refine ex_iload_n 1 dX3_placeAfterMove_35 rfl rfl ?_
          exact ex_iret hQ rfl ⟨congrArg (fun a => some (Value.int (nI a))) (by unfold mvP; first | (rw [if_pos (by omega)]; done) | (rw [if_neg (by omega), if_pos (by omega)]; done) | (rw [if_neg (by omega), if_neg (by omega), if_pos (by omega)]; done) | (rw [if_neg (by omega), if_neg (by omega), if_neg (by omega)]; done)), rfl, rfl⟩ dX3_placeAfterMove_36
        · have n_28 : ¬ (p < y) := fun q9 => c_28 ((nI_ltI (by omega) (by omega)).mpr q9)
          refine ex_iload_n 1 dX3_placeAfterMove_31 rfl rfl ?_
          refine ex_iconst (v := nI 1) dX3_placeAfterMove_32 (by decide) ?_
          refine ex_iaddN dX3_placeAfterMove_33 ?_
          exact ex_iret hQ rfl ⟨congrArg (fun a => some (Value.int (nI a))) (by unfold mvP; first | (rw [if_pos (by omega)]; done) | (rw [if_neg (by omega), if_pos (by omega)]; done) | (rw [if_neg (by omega), if_neg (by omega), if_pos (by omega)]; done) | (rw [if_neg (by omega), if_neg (by omega), if_neg (by omega)]; done)), rfl, rfl⟩ dX3_placeAfterMove_34
    · have n_9 : ¬ (p ≤ x) := fun q9 => c_9 ((nI_leI (by omega) (by omega)).mpr q9)
      refine ex_iload_n 1 dX3_placeAfterMove_12 rfl rfl ?_
      refine ex_iload_n 3 dX3_placeAfterMove_13 rfl rfl ?_
      refine ex_icmp_gt (tgt := 21) dX3_placeAfterMove_14 (by decide) (fun c_14 => ?_) (fun c_14 => ?_)
      · have n_14 : y < p := (nI_ltI (by omega) (by omega)).mp c_14
        refine ex_iload_n 1 dX3_placeAfterMove_21 rfl rfl ?_
        refine ex_iload_n 2 dX3_placeAfterMove_22 rfl rfl ?_
        refine ex_icmp_ge (tgt := 35) dX3_placeAfterMove_23 (by decide) (fun c_23 => ?_) (fun c_23 => ?_)
        · have n_23 : x ≤ p := (nI_leI (by omega) (by omega)).mp c_23
          refine ex_iload_n 1 dX3_placeAfterMove_35 rfl rfl ?_
          exact ex_iret hQ rfl ⟨congrArg (fun a => some (Value.int (nI a))) (by unfold mvP; first | (rw [if_pos (by omega)]; done) | (rw [if_neg (by omega), if_pos (by omega)]; done) | (rw [if_neg (by omega), if_neg (by omega), if_pos (by omega)]; done) | (rw [if_neg (by omega), if_neg (by omega), if_neg (by omega)]; done)), rfl, rfl⟩ dX3_placeAfterMove_36
        · have n_23 : ¬ (x ≤ p) := fun q9 => c_23 ((nI_leI (by omega) (by omega)).mpr q9)
          refine ex_iload_n 1 dX3_placeAfterMove_26 rfl rfl ?_
          refine ex_iload_n 3 dX3_placeAfterMove_27 rfl rfl ?_
          refine ex_icmp_lt (tgt := 35) dX3_placeAfterMove_28 (by decide) (fun c_28 => ?_) (fun c_28 => ?_)
          · have n_28 : p < y := (nI_ltI (by omega) (by omega)).mp c_28
            refine ex_iload_n 1 dX3_placeAfterMove_35 rfl rfl ?_
            exact ex_iret hQ rfl ⟨congrArg (fun a => some (Value.int (nI a))) (by unfold mvP; first | (rw [if_pos (by omega)]; done) | (rw [if_neg (by omega), if_pos (by omega)]; done) | (rw [if_neg (by omega), if_neg (by omega), if_pos (by omega)]; done) | (rw [if_neg (by omega), if_neg (by omega), if_neg (by omega)]; done)), rfl, rfl⟩ dX3_placeAfterMove_36
          · have n_28 : ¬ (p < y) := fun q9 => c_28 ((nI_ltI (by omega) (by omega)).mpr q9)
            refine ex_iload_n 1 dX3_placeAfterMove_31 rfl rfl ?_
            refine ex_iconst (v := nI 1) dX3_placeAfterMove_32 (by decide) ?_
            refine ex_iaddN dX3_placeAfterMove_33 ?_
            exact ex_iret hQ rfl ⟨congrArg (fun a => some (Value.int (nI a))) (by unfold mvP; first | (rw [if_pos (by omega)]; done) | (rw [if_neg (by omega), if_pos (by omega)]; done) | (rw [if_neg (by omega), if_neg (by omega), if_pos (by omega)]; done) | (rw [if_neg (by omega), if_neg (by omega), if_neg (by omega)]; done)), rfl, rfl⟩ dX3_placeAfterMove_34
      · have n_14 : ¬ (y < p) := fun q9 => c_14 ((nI_ltI (by omega) (by omega)).mpr q9)
        refine ex_iload_n 1 dX3_placeAfterMove_17 rfl rfl ?_
        refine ex_iconst (v := nI 1) dX3_placeAfterMove_18 (by decide) ?_
        refine ex_isubN dX3_placeAfterMove_19 (by omega) ?_
        exact ex_iret hQ rfl ⟨congrArg (fun a => some (Value.int (nI a))) (by unfold mvP; first | (rw [if_pos (by omega)]; done) | (rw [if_neg (by omega), if_pos (by omega)]; done) | (rw [if_neg (by omega), if_neg (by omega), if_pos (by omega)]; done) | (rw [if_neg (by omega), if_neg (by omega), if_neg (by omega)]; done)), rfl, rfl⟩ dX3_placeAfterMove_20
  · have n_2 : p = x := (nI_eq (by omega) (by omega)).mp c_2
    refine ex_iload_n 3 dX3_placeAfterMove_5 rfl rfl ?_
    exact ex_iret hQ rfl ⟨congrArg (fun a => some (Value.int (nI a))) (by unfold mvP; first | (rw [if_pos (by omega)]; done) | (rw [if_neg (by omega), if_pos (by omega)]; done) | (rw [if_neg (by omega), if_neg (by omega), if_pos (by omega)]; done) | (rw [if_neg (by omega), if_neg (by omega), if_neg (by omega)]; done)), rfl, rfl⟩ dX3_placeAfterMove_6

set_option maxRecDepth 20000 in
set_option maxHeartbeats 2000000 in
theorem c_pamN {G : GG} {l : Launch} {h0 : HP} {z o : Nat} {x y : Nat} (hx : x < 9) (hy : y < 9) : Ct G l 0 0 0 yX3_placeAfterMove cX3_placeAfterMove 4 (some .int) [.ref o, .int (-6), .int (nI x), .int (nI y)] h0 z (p0 (.int (-6)) h0 z) := by
  refine Ct.intro (lv := [(0, .ref o), (1, .int (-6)), (2, .int (nI x)), (3, .int (nI y))]) (by decide +kernel) (Nat.le_of_ble_eq_true rfl) rfl (fun X Q hQ hnm => ?_)
  refine ex_iload_n 1 dX3_placeAfterMove_0 rfl rfl ?_
  refine ex_iload_n 2 dX3_placeAfterMove_1 rfl rfl ?_
  refine ex_icmp_ne (tgt := 7) dX3_placeAfterMove_2 (by decide) (fun c_2 => ?_) (fun c_2 => absurd c_2 (fun q9 => nI_n6 (show x < 2 ^ 31 by omega) q9.symm))
  refine ex_iload_n 1 dX3_placeAfterMove_7 rfl rfl ?_
  refine ex_iload_n 2 dX3_placeAfterMove_8 rfl rfl ?_
  refine ex_icmp_le (tgt := 21) dX3_placeAfterMove_9 (by decide) (fun c_9 => ?_) (fun c_9 => absurd (Int32.le_iff_toInt_le.mpr (by rw [nI_toInt (by omega), show (-6 : Int32).toInt = -6 from by decide]; omega)) c_9)
  refine ex_iload_n 1 dX3_placeAfterMove_21 rfl rfl ?_
  refine ex_iload_n 2 dX3_placeAfterMove_22 rfl rfl ?_
  refine ex_icmp_ge (tgt := 35) dX3_placeAfterMove_23 (by decide) (fun c_23 => absurd c_23 (fun q9 => by have a9 := Int32.le_iff_toInt_le.mp q9; rw [nI_toInt (by omega), show (-6 : Int32).toInt = -6 from by decide] at a9; omega)) (fun c_23 => ?_)
  refine ex_iload_n 1 dX3_placeAfterMove_26 rfl rfl ?_
  refine ex_iload_n 3 dX3_placeAfterMove_27 rfl rfl ?_
  refine ex_icmp_lt (tgt := 35) dX3_placeAfterMove_28 (by decide) (fun c_28 => ?_) (fun c_28 => absurd (Int32.lt_iff_toInt_lt.mpr (by rw [nI_toInt (by omega), show (-6 : Int32).toInt = -6 from by decide]; omega)) c_28)
  refine ex_iload_n 1 dX3_placeAfterMove_35 rfl rfl ?_
  exact ex_iret hQ rfl ⟨rfl, rfl, rfl⟩ dX3_placeAfterMove_36
end
section
/-! the array of the people while they change places: everything but that array is as it was -/
def SA (G : GG) (h : HP) (o : Nat) (π : Nat → Nat) (A : AS) (r : Nat → Option Nat) : Prop :=
  h o = some (.inr (3, stF o A)) ∧ (∃ f : Nat → Int32, h (o + 1) = some (aA G 0 6 f) ∧ ∀ i, i < 6 → f i = A.2.2.2.1 i) ∧ h (o + 2) = some (aQ G 3 8 r) ∧ (∀ j, j < 8 → π j < 8) ∧ (∀ i j, i < 8 → j < 8 → π i = π j → i = j) ∧ (∀ j, j < 8 → ∃ w : Nat → Int32, h (o + 3 + π j) = some (.inr (2, pF w)) ∧ (j < A.1 → ∀ k, k < 6 → w k = A.2.2.2.2 j k))
def SAF (G : GG) (h0 h : HP) (o : Nat) (π : Nat → Nat) (A : AS) (r : Nat → Option Nat) : Prop := SA G h o π A r ∧ ∀ a, (a < o ∨ o + 11 ≤ a) → h a = h0 a
theorem SAF.ob {G : GG} {h0 h : HP} {o : Nat} {π : Nat → Nat} {A : AS} {r : Nat → Option Nat} (S : SAF G h0 h o π A r) : h o = some (.inr (3, stF o A)) := S.1.1
theorem SF.sa {G : GG} {h0 h : HP} {o : Nat} {π : Nat → Nat} {A : AS} (S : SF G h0 h o π A) : ∃ r : Nat → Option Nat, (∀ j, j < 8 → r j = some (o + 3 + π j)) ∧ SAF G h0 h o π A r := by
  obtain ⟨⟨s1, s2, ⟨r, s3, s3'⟩, s4, s5, s6⟩, s7⟩ := S
  exact ⟨r, s3', ⟨s1, s2, s3, s4, s5, s6⟩, s7⟩
theorem SAF.put {G : GG} {h0 h : HP} {o : Nat} {π : Nat → Nat} {A : AS} {r r2 : Nat → Option Nat} (S : SAF G h0 h o π A r) : SAF G h0 (hu h (o + 2) (aQ G 3 8 r2)) o π A r2 := by
  obtain ⟨⟨s1, ⟨f, s2, s2'⟩, s3, s4, s5, s6⟩, s7⟩ := S
  refine ⟨⟨by rw [hu_n (by omega)]; exact s1, ⟨f, by rw [hu_n (by omega)]; exact s2, s2'⟩, hu_s, s4, s5, fun j hj => ?_⟩, fun a ha => by rw [hu_n (by omega)]; exact s7 a ha⟩
  obtain ⟨w, w1, w2⟩ := s6 j hj
  exact ⟨w, by rw [hu_n (by omega)]; exact w1, w2⟩
theorem mvI_lt {x y p n : Nat} (hx : x < n) (hy : y < n) (hp : p < n) : mvI x y p < n := by
  unfold mvI
  split
  · exact hx
  · split
    · omega
    · split <;> omega
theorem mvI_inj {x y p p2 : Nat} (h : mvI x y p = mvI x y p2) : p = p2 := by
  unfold mvI at h
  split at h <;> split at h <;> (try split at h) <;> (try split at h) <;> (try split at h) <;> (try split at h) <;> omega
/-- the people in their new places -/
theorem SAF.done {G : GG} {h0 h : HP} {o : Nat} {π : Nat → Nat} {n : Nat} {g : Option Nat} {t : Nat} {u : Nat → Int32} {q : Nat → Nat → Int32} {r : Nat → Option Nat} {x y : Nat} (S : SAF G h0 h o π (n, g, t, u, q) r) (n8 : n ≤ 8) (hx : x < n) (hy : y < n) (hr : ∀ j, j < 8 → r j = some (o + 3 + π (mvI x y j))) : SF G h0 h o (fun j => π (mvI x y j)) (n, g, t, u, fun a b => q (mvI x y a) b) := by
  obtain ⟨⟨s1, s2, s3, s4, s5, s6⟩, s7⟩ := S
  have lt8 : ∀ j, j < 8 → mvI x y j < 8 := fun j hj => mvI_lt (by omega) (by omega) hj
  refine ⟨⟨s1, s2, ⟨r, s3, hr⟩, fun j hj => s4 _ (lt8 j hj), fun i j hi hj e => mvI_inj (s5 _ _ (lt8 i hi) (lt8 j hj) e), fun j hj => ?_⟩, s7⟩
  obtain ⟨w, w1, w2⟩ := s6 _ (lt8 j hj)
  exact ⟨w, w1, fun hn k hk => w2 (mvI_lt hx hy hn) k hk⟩
section ES3
variable {G : GG} {l : Launch} {X : CT} {Q : State → Prop} {d mc ms cs sl : Nat} {cc : ByteArray} {own : String} {nL : Nat} {ret : Option FieldType} {h h0 : HP} {z pc : Nat} {lv : List (Nat × Value)} {st : List Value} {o : Nat} {π : Nat → Nat} {n : Nat} {g : Option Nat} {t : Nat} {u : Nat → Int32} {q : Nat → Nat → Int32} {r : Nat → Option Nat}
theorem exA_ld {i j : Nat} {x : Int32} (S : SAF G h0 h o π (n, g, t, u, q) r) (hx : x = nI i) (hi : i < 8) (hr : r i = some (o + 3 + π j)) (dg : decode cc pc = .ok (.aaload, 1)) (k1 : ex G l X Q d mc ms cs sl cc own nL ret h z (pc + 1) lv (.ref (o + 3 + π j) :: st)) : ex G l X Q d mc ms cs sl cc own nL ret h z pc lv (.int x :: .ref (o + 2) :: st) := by
  refine ex_aald3 S.1.2.2.1 hx hi (by decide) dg ?_
  rw [hr]
  exact k1
theorem exA_st {i j : Nat} {x : Int32} (S : SAF G h0 h o π (n, g, t, u, q) r) (hx : x = nI i) (hi : i < 8) (hj : j < 8) (dg : decode cc pc = .ok (.aastore, 1)) (k1 : ∀ h : HP, SAF G h0 h o π (n, g, t, u, q) (va_up r i (some (o + 3 + π j))) → ex G l X Q d mc ms cs sl cc own nL ret h z (pc + 1) lv st) : ex G l X Q d mc ms cs sl cc own nL ret h z pc lv (.ref (o + 3 + π j) :: .int x :: .ref (o + 2) :: st) := by
  obtain ⟨w, w1, -⟩ := S.1.2.2.2.2.2 j hj
  exact ex_aast (t := 3) (ci := 2) (r := (RX2, TX2, 6)) rfl rfl S.1.2.2.1 w1 hx hi (by decide) dg (k1 _ S.put)
end ES3
end
section
set_option maxRecDepth 20000 in
set_option maxHeartbeats 2000000 in
theorem c_relocate {G : GG} {l : Launch} {h0 : HP} {z o : Nat} {π : Nat → Nat} {n : Nat} {g : Option Nat} {t : Nat} {u : Nat → Int32} {q : Nat → Nat → Int32} (S0 : SP G h0 o π (n, g, t, u, q)) (gw : ∀ i, g = some i → i < n) (tw : t < n ∨ t = 0) (n8 : n ≤ 8) {x y : Nat} (hx : x < n) (hy : y < n) : Ct G l 1 0 0 yX3_relocate cX3_relocate 5 none [.ref o, .int (nI x), .int (nI y)] h0 z (pS G none h0 z o (fun j => π (mvI x y j)) (moveA (n, g, t, u, q) x y)) := by
  refine Ct.intro (lv := [(0, .ref o), (1, .int (nI x)), (2, .int (nI y))]) (by decide +kernel) (Nat.le_of_ble_eq_true rfl) rfl (fun X Q hQ hnm => ?_)
  have S := S0.sf
  refine ex_aload_n 0 dX3_relocate_0 rfl rfl ?_
  refine ex_iload_n 1 dX3_relocate_1 rfl rfl ?_
  refine ex_call0 (As := [.int (nI x)]) (v := .ref (o + 3 + π x)) (ci := 3) vl_X3_70 rfl (c_at S.1 (by omega) hx n8) S.ob rfl (by decide) (Nat.le_of_ble_eq_true rfl) (Nat.le_refl _) (Nat.le_refl _) rfl dX3_relocate_2 ?_
  refine ex_astore_n (lv' := [(3, .ref (o + 3 + π x)), (0, .ref o), (1, .int (nI x)), (2, .int (nI y))]) dX3_relocate_5 rfl (by decide) rfl ?_
  refine ex_aload_n 0 dX3_relocate_6 rfl rfl ?_
  refine ex_ifnull dX3_relocate_7 ?_
  refine ex_aload_n 1 dX3_relocate_10 rfl rfl ?_
  refine ex_iload_n 3 dX3_relocate_11 rfl rfl ?_
  refine ex_call0 (As := [.int (nI y)]) (v := .ref (o + 3 + π y)) (ci := 3) vl_X3_70 rfl (c_at S.1 (by omega) hy n8) S.ob rfl (by decide) (Nat.le_of_ble_eq_true rfl) (Nat.le_refl _) (Nat.le_refl _) rfl dX3_relocate_12 ?_
  refine ex_ifnonnull (tgt := 19) dX3_relocate_15 (by decide) ?_
  refine ex_iload_n 2 dX3_relocate_19 rfl rfl ?_
  refine ex_istore (lv' := [(4, .int (nI x)), (3, .ref (o + 3 + π x)), (0, .ref o), (1, .int (nI x)), (2, .int (nI y))]) dX3_relocate_20 (by decide) rfl ?_
  obtain ⟨r0, hr0, SA0⟩ := S.sa
  have L2 : ∀ (k p : Nat) (h : HP) (r : Nat → Option Nat), k + y = p ∨ (p = x ∧ x ≤ y) → p ≤ x → SAF G h0 h o π (n, g, t, u, q) r → (∀ j, j < 8 → r j = some (o + 3 + π (if x ≤ j ∧ j < y then j + 1 else if p < j ∧ j ≤ x then j - 1 else j))) → ex G l X Q 1 0 0 0 0 cX3_relocate yX3_relocate.cls 5 none h z 53 [(4, .int (nI p)), (3, .ref (o + 3 + π x)), (2, .int (nI y)), (1, .int (nI x)), (0, .ref o)] [] := by
    intro k
    induction k with
    | zero =>
      intro p h r hk hp S hr
      refine ex_iload 0 dX3_relocate_53 rfl ?_
      refine ex_iload_n 2 dX3_relocate_55 rfl rfl ?_
      refine ex_icmp_le (tgt := 81) dX3_relocate_56 (by decide) (fun c_56 => ?_) (fun c_56 => absurd ((nI_leI (by omega) (by omega)).mpr (by omega)) c_56)
      refine ex_aload_n 4 dX3_relocate_81 rfl rfl ?_
      refine ex_get (v := .ref (o + 2)) fl_X3_25 S.ob rfl dX3_relocate_82 ?_
      refine ex_iload_n 2 dX3_relocate_85 rfl rfl ?_
      refine ex_aload_n 1 dX3_relocate_86 rfl rfl ?_
      refine exA_st (i := y) (j := x) S rfl (by omega) (by omega) dX3_relocate_87 (fun h S => ?_)
      have S := S.done n8 hx hy (fun j hj => by
        show (if j = y then _ else r j) = _
        unfold mvI
        by_cases e : j = y
        · rw [if_pos e, if_pos e]
        · rw [if_neg e, if_neg e, hr j hj]
          by_cases e1 : x ≤ j ∧ j < y
          · rw [if_pos e1, if_pos e1]
          · rw [if_neg e1, if_neg e1]
            by_cases e2 : p < j ∧ j ≤ x
            · rw [if_pos e2, if_pos (by omega)]
            · rw [if_neg e2, if_neg (by omega)])
      rcases g with _ | i
      · refine ex_aload_n 4 dX3_relocate_88 rfl rfl ?_
        refine ex_aload_n 4 dX3_relocate_89 rfl rfl ?_
        refine ex_aload_n 4 dX3_relocate_90 rfl rfl ?_
        refine ex_get (v := .int (-6)) fl_X3_36 S.ob rfl dX3_relocate_91 ?_
        refine ex_iload_n 3 dX3_relocate_94 rfl rfl ?_
        refine ex_iload_n 2 dX3_relocate_95 rfl rfl ?_
        refine ex_call0 (As := [.int (-6), .int (nI x), .int (nI y)]) (v := .int (-6)) (ci := 3) vl_X3_93 rfl (c_pamN (by omega) (by omega)) S.ob rfl (by decide) (Nat.le_of_ble_eq_true rfl) (Nat.le_refl _) (Nat.le_refl _) rfl dX3_relocate_96 ?_
        refine exS_putG (g1 := none) S fl_X3_36 rfl dX3_relocate_99 (fun h S => ?_)
        refine ex_aload_n 4 dX3_relocate_102 rfl rfl ?_
        refine ex_aload_n 4 dX3_relocate_103 rfl rfl ?_
        refine ex_aload_n 4 dX3_relocate_104 rfl rfl ?_
        refine ex_get (v := .int (nI t)) fl_X3_39 S.ob rfl dX3_relocate_105 ?_
        refine ex_iload_n 3 dX3_relocate_108 rfl rfl ?_
        refine ex_iload_n 2 dX3_relocate_109 rfl rfl ?_
        refine ex_call0 (As := [.int (nI t), .int (nI x), .int (nI y)]) (v := .int (nI (mvP t x y))) (ci := 3) vl_X3_93 rfl (c_pam (by omega) (by omega) (by omega)) S.ob rfl (by decide) (Nat.le_of_ble_eq_true rfl) (Nat.le_refl _) (Nat.le_refl _) rfl dX3_relocate_110 ?_
        refine exS_putT (t1 := mvP t x y) S fl_X3_39 rfl dX3_relocate_113 (fun h S => ?_)
        exact ex_vret hQ rfl ⟨rfl, rfl, S⟩ dX3_relocate_116
      · have gi := gw i rfl
        refine ex_aload_n 4 dX3_relocate_88 rfl rfl ?_
        refine ex_aload_n 4 dX3_relocate_89 rfl rfl ?_
        refine ex_aload_n 4 dX3_relocate_90 rfl rfl ?_
        refine ex_get (v := .int (nI i)) fl_X3_36 S.ob rfl dX3_relocate_91 ?_
        refine ex_iload_n 3 dX3_relocate_94 rfl rfl ?_
        refine ex_iload_n 2 dX3_relocate_95 rfl rfl ?_
        refine ex_call0 (As := [.int (nI i), .int (nI x), .int (nI y)]) (v := .int (nI (mvP i x y))) (ci := 3) vl_X3_93 rfl (c_pam (by omega) (by omega) (by omega)) S.ob rfl (by decide) (Nat.le_of_ble_eq_true rfl) (Nat.le_refl _) (Nat.le_refl _) rfl dX3_relocate_96 ?_
        refine exS_putG (g1 := (some (mvP i x y))) S fl_X3_36 rfl dX3_relocate_99 (fun h S => ?_)
        refine ex_aload_n 4 dX3_relocate_102 rfl rfl ?_
        refine ex_aload_n 4 dX3_relocate_103 rfl rfl ?_
        refine ex_aload_n 4 dX3_relocate_104 rfl rfl ?_
        refine ex_get (v := .int (nI t)) fl_X3_39 S.ob rfl dX3_relocate_105 ?_
        refine ex_iload_n 3 dX3_relocate_108 rfl rfl ?_
        refine ex_iload_n 2 dX3_relocate_109 rfl rfl ?_
        refine ex_call0 (As := [.int (nI t), .int (nI x), .int (nI y)]) (v := .int (nI (mvP t x y))) (ci := 3) vl_X3_93 rfl (c_pam (by omega) (by omega) (by omega)) S.ob rfl (by decide) (Nat.le_of_ble_eq_true rfl) (Nat.le_refl _) (Nat.le_refl _) rfl dX3_relocate_110 ?_
        refine exS_putT (t1 := mvP t x y) S fl_X3_39 rfl dX3_relocate_113 (fun h S => ?_)
        exact ex_vret hQ rfl ⟨rfl, rfl, S⟩ dX3_relocate_116
    | succ k ih =>
      intro p h r hk hp S hr
      rcases Nat.lt_or_ge y p with hlt | hge
      · refine ex_iload 0 dX3_relocate_53 rfl ?_
        refine ex_iload_n 2 dX3_relocate_55 rfl rfl ?_
        refine ex_icmp_le (tgt := 81) dX3_relocate_56 (by decide) (fun c_56 => absurd c_56 (fun q9 => absurd ((nI_leI (by omega) (by omega)).mp q9) (by omega))) (fun c_56 => ?_)
        refine ex_aload_n 4 dX3_relocate_59 rfl rfl ?_
        refine ex_get (v := .ref (o + 2)) fl_X3_25 S.ob rfl dX3_relocate_60 ?_
        refine ex_iload 0 dX3_relocate_63 rfl ?_
        refine ex_aload_n 4 dX3_relocate_65 rfl rfl ?_
        refine ex_get (v := .ref (o + 2)) fl_X3_25 S.ob rfl dX3_relocate_66 ?_
        refine ex_iload 0 dX3_relocate_69 rfl ?_
        refine ex_iconst (v := nI 1) dX3_relocate_71 (by decide) ?_
        refine ex_isubN dX3_relocate_72 (by omega) ?_
        refine exA_ld (i := p - 1) (j := (p - 1)) S rfl (by omega) (by rw [hr _ (by omega), if_neg (by omega), if_neg (by omega)]) dX3_relocate_73 ?_
        refine exA_st (i := p) (j := (p - 1)) S rfl (by omega) (by omega) dX3_relocate_74 (fun h S => ?_)
        refine ex_iinc (v := nI (p - 1)) (lv' := [(4, .int (nI (p - 1))), (3, .ref (o + 3 + π x)), (2, .int (nI y)), (1, .int (nI x)), (0, .ref o)]) 0 dX3_relocate_75 rfl (by have e9 := pk_m1 (p - 1); rw [show p - 1 + 1 = p by omega] at e9; exact e9) (by decide) rfl ?_
        refine ex_goto (tgt := 53) dX3_relocate_78 (by decide) ?_
        have e2 := ih (p - 1) h _ (by omega) (by omega) S (fun j hj => by
          show (if j = p then _ else r j) = _
          by_cases e : j = p
          · rw [if_pos e, if_neg (by omega), if_pos (by omega), e]
          · rw [if_neg e, hr j hj]
            by_cases e1 : x ≤ j ∧ j < y
            · rw [if_pos e1, if_pos e1]
            · rw [if_neg e1, if_neg e1]
              by_cases e2 : p < j ∧ j ≤ x
              · rw [if_pos e2, if_pos (by omega)]
              · rw [if_neg e2, if_neg (by omega)])
        refine ex_lv (lv2 := [(4, .int (nI (p - 1))), (3, .ref (o + 3 + π x)), (2, .int (nI y)), (1, .int (nI x)), (0, .ref o)]) [0, 1, 2, 3, 4] rfl ?_
        exact e2
      · refine ex_iload 0 dX3_relocate_53 rfl ?_
        refine ex_iload_n 2 dX3_relocate_55 rfl rfl ?_
        refine ex_icmp_le (tgt := 81) dX3_relocate_56 (by decide) (fun c_56 => ?_) (fun c_56 => absurd ((nI_leI (by omega) (by omega)).mpr (by omega)) c_56)
        refine ex_aload_n 4 dX3_relocate_81 rfl rfl ?_
        refine ex_get (v := .ref (o + 2)) fl_X3_25 S.ob rfl dX3_relocate_82 ?_
        refine ex_iload_n 2 dX3_relocate_85 rfl rfl ?_
        refine ex_aload_n 1 dX3_relocate_86 rfl rfl ?_
        refine exA_st (i := y) (j := x) S rfl (by omega) (by omega) dX3_relocate_87 (fun h S => ?_)
        have S := S.done n8 hx hy (fun j hj => by
          show (if j = y then _ else r j) = _
          unfold mvI
          by_cases e : j = y
          · rw [if_pos e, if_pos e]
          · rw [if_neg e, if_neg e, hr j hj]
            by_cases e1 : x ≤ j ∧ j < y
            · rw [if_pos e1, if_pos e1]
            · rw [if_neg e1, if_neg e1]
              by_cases e2 : p < j ∧ j ≤ x
              · rw [if_pos e2, if_pos (by omega)]
              · rw [if_neg e2, if_neg (by omega)])
        rcases g with _ | i
        · refine ex_aload_n 4 dX3_relocate_88 rfl rfl ?_
          refine ex_aload_n 4 dX3_relocate_89 rfl rfl ?_
          refine ex_aload_n 4 dX3_relocate_90 rfl rfl ?_
          refine ex_get (v := .int (-6)) fl_X3_36 S.ob rfl dX3_relocate_91 ?_
          refine ex_iload_n 3 dX3_relocate_94 rfl rfl ?_
          refine ex_iload_n 2 dX3_relocate_95 rfl rfl ?_
          refine ex_call0 (As := [.int (-6), .int (nI x), .int (nI y)]) (v := .int (-6)) (ci := 3) vl_X3_93 rfl (c_pamN (by omega) (by omega)) S.ob rfl (by decide) (Nat.le_of_ble_eq_true rfl) (Nat.le_refl _) (Nat.le_refl _) rfl dX3_relocate_96 ?_
          refine exS_putG (g1 := none) S fl_X3_36 rfl dX3_relocate_99 (fun h S => ?_)
          refine ex_aload_n 4 dX3_relocate_102 rfl rfl ?_
          refine ex_aload_n 4 dX3_relocate_103 rfl rfl ?_
          refine ex_aload_n 4 dX3_relocate_104 rfl rfl ?_
          refine ex_get (v := .int (nI t)) fl_X3_39 S.ob rfl dX3_relocate_105 ?_
          refine ex_iload_n 3 dX3_relocate_108 rfl rfl ?_
          refine ex_iload_n 2 dX3_relocate_109 rfl rfl ?_
          refine ex_call0 (As := [.int (nI t), .int (nI x), .int (nI y)]) (v := .int (nI (mvP t x y))) (ci := 3) vl_X3_93 rfl (c_pam (by omega) (by omega) (by omega)) S.ob rfl (by decide) (Nat.le_of_ble_eq_true rfl) (Nat.le_refl _) (Nat.le_refl _) rfl dX3_relocate_110 ?_
          refine exS_putT (t1 := mvP t x y) S fl_X3_39 rfl dX3_relocate_113 (fun h S => ?_)
          exact ex_vret hQ rfl ⟨rfl, rfl, S⟩ dX3_relocate_116
        · have gi := gw i rfl
          refine ex_aload_n 4 dX3_relocate_88 rfl rfl ?_
          refine ex_aload_n 4 dX3_relocate_89 rfl rfl ?_
          refine ex_aload_n 4 dX3_relocate_90 rfl rfl ?_
          refine ex_get (v := .int (nI i)) fl_X3_36 S.ob rfl dX3_relocate_91 ?_
          refine ex_iload_n 3 dX3_relocate_94 rfl rfl ?_
          refine ex_iload_n 2 dX3_relocate_95 rfl rfl ?_
          refine ex_call0 (As := [.int (nI i), .int (nI x), .int (nI y)]) (v := .int (nI (mvP i x y))) (ci := 3) vl_X3_93 rfl (c_pam (by omega) (by omega) (by omega)) S.ob rfl (by decide) (Nat.le_of_ble_eq_true rfl) (Nat.le_refl _) (Nat.le_refl _) rfl dX3_relocate_96 ?_
          refine exS_putG (g1 := (some (mvP i x y))) S fl_X3_36 rfl dX3_relocate_99 (fun h S => ?_)
          refine ex_aload_n 4 dX3_relocate_102 rfl rfl ?_
          refine ex_aload_n 4 dX3_relocate_103 rfl rfl ?_
          refine ex_aload_n 4 dX3_relocate_104 rfl rfl ?_
          refine ex_get (v := .int (nI t)) fl_X3_39 S.ob rfl dX3_relocate_105 ?_
          refine ex_iload_n 3 dX3_relocate_108 rfl rfl ?_
          refine ex_iload_n 2 dX3_relocate_109 rfl rfl ?_
          refine ex_call0 (As := [.int (nI t), .int (nI x), .int (nI y)]) (v := .int (nI (mvP t x y))) (ci := 3) vl_X3_93 rfl (c_pam (by omega) (by omega) (by omega)) S.ob rfl (by decide) (Nat.le_of_ble_eq_true rfl) (Nat.le_refl _) (Nat.le_refl _) rfl dX3_relocate_110 ?_
          refine exS_putT (t1 := mvP t x y) S fl_X3_39 rfl dX3_relocate_113 (fun h S => ?_)
          exact ex_vret hQ rfl ⟨rfl, rfl, S⟩ dX3_relocate_116
  have L1 : ∀ (k p : Nat) (h : HP) (r : Nat → Option Nat), p + k = y ∨ (p = x ∧ y ≤ x) → x ≤ p → SAF G h0 h o π (n, g, t, u, q) r → (∀ j, j < 8 → r j = some (o + 3 + π (if x ≤ j ∧ j < p then j + 1 else j))) → ex G l X Q 1 0 0 0 0 cX3_relocate yX3_relocate.cls 5 none h z 22 [(4, .int (nI p)), (3, .ref (o + 3 + π x)), (2, .int (nI y)), (1, .int (nI x)), (0, .ref o)] [] := by
    intro k
    induction k with
    | zero =>
      intro p h r hk hp S hr
      refine ex_iload 0 dX3_relocate_22 rfl ?_
      refine ex_iload_n 2 dX3_relocate_24 rfl rfl ?_
      refine ex_icmp_ge (tgt := 50) dX3_relocate_25 (by decide) (fun c_25 => ?_) (fun c_25 => absurd ((nI_leI (by omega) (by omega)).mpr (by omega)) c_25)
      refine ex_iload_n 3 dX3_relocate_50 rfl rfl ?_
      refine ex_istore (lv' := [(4, .int (nI x)), (3, .ref (o + 3 + π x)), (2, .int (nI y)), (1, .int (nI x)), (0, .ref o)]) dX3_relocate_51 (by decide) rfl ?_
      have e2 := L2 (x - y) x h r (by omega) (Nat.le_refl _) S (fun j hj => by
        rw [hr j hj]
        by_cases e1 : x ≤ j ∧ j < y
        · rw [if_pos e1, if_pos (by omega)]
        · rw [if_neg e1, if_neg (by omega), if_neg (by omega)])
      refine ex_lv (lv2 := [(4, .int (nI x)), (3, .ref (o + 3 + π x)), (2, .int (nI y)), (1, .int (nI x)), (0, .ref o)]) [0, 1, 2, 3, 4] rfl ?_
      exact e2
    | succ k ih =>
      intro p h r hk hp S hr
      rcases Nat.lt_or_ge p y with hlt | hge
      · refine ex_iload 0 dX3_relocate_22 rfl ?_
        refine ex_iload_n 2 dX3_relocate_24 rfl rfl ?_
        refine ex_icmp_ge (tgt := 50) dX3_relocate_25 (by decide) (fun c_25 => absurd c_25 (fun q9 => absurd ((nI_leI (by omega) (by omega)).mp q9) (by omega))) (fun c_25 => ?_)
        refine ex_aload_n 4 dX3_relocate_28 rfl rfl ?_
        refine ex_get (v := .ref (o + 2)) fl_X3_25 S.ob rfl dX3_relocate_29 ?_
        refine ex_iload 0 dX3_relocate_32 rfl ?_
        refine ex_aload_n 4 dX3_relocate_34 rfl rfl ?_
        refine ex_get (v := .ref (o + 2)) fl_X3_25 S.ob rfl dX3_relocate_35 ?_
        refine ex_iload 0 dX3_relocate_38 rfl ?_
        refine ex_iconst (v := nI 1) dX3_relocate_40 (by decide) ?_
        refine ex_iaddN dX3_relocate_41 ?_
        refine exA_ld (i := p + 1) (j := (p + 1)) S rfl (by omega) (by rw [hr _ (by omega), if_neg (by omega)]) dX3_relocate_42 ?_
        refine exA_st (i := p) (j := (p + 1)) S rfl (by omega) (by omega) dX3_relocate_43 (fun h S => ?_)
        refine ex_iinc (v := nI (p + 1)) (lv' := [(4, .int (nI (p + 1))), (3, .ref (o + 3 + π x)), (2, .int (nI y)), (1, .int (nI x)), (0, .ref o)]) 0 dX3_relocate_44 rfl (nI_1 p) (by decide) rfl ?_
        refine ex_goto (tgt := 22) dX3_relocate_47 (by decide) ?_
        have e2 := ih (p + 1) h _ (by omega) (by omega) S (fun j hj => by
          show (if j = p then _ else r j) = _
          by_cases e : j = p
          · rw [if_pos e, if_pos (by omega), e]
          · rw [if_neg e, hr j hj]
            by_cases e1 : x ≤ j ∧ j < p
            · rw [if_pos e1, if_pos (by omega)]
            · rw [if_neg e1, if_neg (by omega)])
        refine ex_lv (lv2 := [(4, .int (nI (p + 1))), (3, .ref (o + 3 + π x)), (2, .int (nI y)), (1, .int (nI x)), (0, .ref o)]) [0, 1, 2, 3, 4] rfl ?_
        exact e2
      · refine ex_iload 0 dX3_relocate_22 rfl ?_
        refine ex_iload_n 2 dX3_relocate_24 rfl rfl ?_
        refine ex_icmp_ge (tgt := 50) dX3_relocate_25 (by decide) (fun c_25 => ?_) (fun c_25 => absurd ((nI_leI (by omega) (by omega)).mpr (by omega)) c_25)
        refine ex_iload_n 3 dX3_relocate_50 rfl rfl ?_
        refine ex_istore (lv' := [(4, .int (nI x)), (3, .ref (o + 3 + π x)), (2, .int (nI y)), (1, .int (nI x)), (0, .ref o)]) dX3_relocate_51 (by decide) rfl ?_
        have e2 := L2 (x - y) x h r (by omega) (Nat.le_refl _) S (fun j hj => by
          rw [hr j hj]
          by_cases e1 : x ≤ j ∧ j < y
          · rw [if_pos e1, if_pos (by omega)]
          · rw [if_neg e1, if_neg (by omega), if_neg (by omega)])
        refine ex_lv (lv2 := [(4, .int (nI x)), (3, .ref (o + 3 + π x)), (2, .int (nI y)), (1, .int (nI x)), (0, .ref o)]) [0, 1, 2, 3, 4] rfl ?_
        exact e2
  have e2 := L1 (y - x) x h0 r0 (by omega) (Nat.le_refl _) SA0 (fun j hj => by rw [hr0 j hj, if_neg (by omega)])
  refine ex_lv (lv2 := [(4, .int (nI x)), (3, .ref (o + 3 + π x)), (2, .int (nI y)), (1, .int (nI x)), (0, .ref o)]) [0, 1, 4, 3, 2] rfl ?_
  exact e2

set_option maxRecDepth 20000 in
set_option maxHeartbeats 2000000 in
theorem c_pcopy {G : GG} {l : Launch} {h0 : HP} {z o o2 : Nat} {π π2 : Nat → Nat} {n : Nat} {g : Option Nat} {t : Nat} {u : Nat → Int32} {q : Nat → Nat → Int32} {n2 : Nat} {g2 : Option Nat} {t2 : Nat} {u2 : Nat → Int32} {q2 : Nat → Nat → Int32} (S0 : SP G h0 o π (n, g, t, u, q)) (S02 : SP G h0 o2 π2 (n2, g2, t2, u2, q2)) (hap : o + 11 ≤ o2 ∨ o2 + 11 ≤ o) {j j2 : Nat} (h8 : j < 8) (hn : j < n) (h82 : j2 < 8) (hn2 : j2 < n2) : Ct G l 0 0 0 yX2_copyFrom cX2_copyFrom 2 none [.ref (o + 3 + π j), .ref (o2 + 3 + π2 j2)] h0 z (pS G none h0 z o π (n, g, t, u, (uq (uq (uq (uq (uq (uq q j 0 (q2 j2 0)) j 1 (q2 j2 1)) j 2 (q2 j2 2)) j 3 (q2 j2 3)) j 4 (q2 j2 4)) j 5 (q2 j2 5)))) := by
  refine Ct.intro (lv := [(0, .ref (o + 3 + π j)), (1, .ref (o2 + 3 + π2 j2))]) (by decide +kernel) (Nat.le_of_ble_eq_true rfl) rfl (fun X Q hQ hnm => ?_)
  have S := S0.sf
  refine ex_aload_n 0 dX2_copyFrom_0 rfl rfl ?_
  refine ex_aload_n 1 dX2_copyFrom_1 rfl rfl ?_
  refine ex_get (v := .int (q2 j2 0)) fl_X2_7 ((S02.kept (fun a h1 h2 => S.2 a (by omega))).pe h82 hn2) rfl dX2_copyFrom_2 ?_
  refine exP_put S h8 hn fl_X2_7 (by decide) rfl dX2_copyFrom_5 (fun h S => ?_)
  refine ex_aload_n 0 dX2_copyFrom_8 rfl rfl ?_
  refine ex_aload_n 1 dX2_copyFrom_9 rfl rfl ?_
  refine ex_get (v := .int (q2 j2 1)) fl_X2_13 ((S02.kept (fun a h1 h2 => S.2 a (by omega))).pe h82 hn2) rfl dX2_copyFrom_10 ?_
  refine exP_put S h8 hn fl_X2_13 (by decide) rfl dX2_copyFrom_13 (fun h S => ?_)
  refine ex_aload_n 0 dX2_copyFrom_16 rfl rfl ?_
  refine ex_aload_n 1 dX2_copyFrom_17 rfl rfl ?_
  refine ex_get (v := .int (q2 j2 2)) fl_X2_16 ((S02.kept (fun a h1 h2 => S.2 a (by omega))).pe h82 hn2) rfl dX2_copyFrom_18 ?_
  refine exP_put S h8 hn fl_X2_16 (by decide) rfl dX2_copyFrom_21 (fun h S => ?_)
  refine ex_aload_n 0 dX2_copyFrom_24 rfl rfl ?_
  refine ex_aload_n 1 dX2_copyFrom_25 rfl rfl ?_
  refine ex_get (v := .int (q2 j2 3)) fl_X2_19 ((S02.kept (fun a h1 h2 => S.2 a (by omega))).pe h82 hn2) rfl dX2_copyFrom_26 ?_
  refine exP_put S h8 hn fl_X2_19 (by decide) rfl dX2_copyFrom_29 (fun h S => ?_)
  refine ex_aload_n 0 dX2_copyFrom_32 rfl rfl ?_
  refine ex_aload_n 1 dX2_copyFrom_33 rfl rfl ?_
  refine ex_get (v := .int (q2 j2 4)) fl_X2_22 ((S02.kept (fun a h1 h2 => S.2 a (by omega))).pe h82 hn2) rfl dX2_copyFrom_34 ?_
  refine exP_put S h8 hn fl_X2_22 (by decide) rfl dX2_copyFrom_37 (fun h S => ?_)
  refine ex_aload_n 0 dX2_copyFrom_40 rfl rfl ?_
  refine ex_aload_n 1 dX2_copyFrom_41 rfl rfl ?_
  refine ex_get (v := .int (q2 j2 5)) fl_X2_25 ((S02.kept (fun a h1 h2 => S.2 a (by omega))).pe h82 hn2) rfl dX2_copyFrom_42 ?_
  refine exP_put S h8 hn fl_X2_25 (by decide) rfl dX2_copyFrom_45 (fun h S => ?_)
  exact ex_vret hQ rfl ⟨rfl, rfl, S⟩ dX2_copyFrom_48
end
section
set_option maxRecDepth 20000 in
set_option maxHeartbeats 2000000 in
theorem c_copyT {G : GG} {l : Launch} {h0 : HP} {z o o2 : Nat} {π π2 : Nat → Nat} {n : Nat} {g : Option Nat} {t : Nat} {u : Nat → Int32} {q : Nat → Nat → Int32} {n2 : Nat} {g2 : Option Nat} {t2 : Nat} {u2 : Nat → Int32} {q2 : Nat → Nat → Int32} (S0 : SP G h0 o π (n, g, t, u, q)) (S02 : SP G h0 o2 π2 (n2, g2, t2, u2, q2)) (hap : o + 11 ≤ o2 ∨ o2 + 11 ≤ o) (n8 : n2 ≤ 8) : Ct G l 1 0 0 yX3_copyFrom cX3_copyFrom 5 none [.ref o, .ref o2] h0 z (pS G none h0 z o π (n2, g2, t2, u2, q2)) := by
  refine Ct.intro (lv := [(0, .ref o), (1, .ref o2)]) (by decide +kernel) (Nat.le_of_ble_eq_true rfl) rfl (fun X Q hQ hnm => ?_)
  have S := S0.sf
  refine ex_aload_n 1 dX3_copyFrom_0 rfl rfl ?_
  refine ex_get (v := .ref (o2 + 1)) fl_X3_18 (S02.kept (fun a h1 h2 => S.2 a (by omega))).ob rfl dX3_copyFrom_1 ?_
  refine ex_iconst (v := nI 0) dX3_copyFrom_4 (by decide) ?_
  refine ex_aload_n 0 dX3_copyFrom_5 rfl rfl ?_
  refine ex_get (v := .ref (o + 1)) fl_X3_18 S.ob rfl dX3_copyFrom_6 ?_
  refine ex_iconst (v := nI 0) dX3_copyFrom_9 (by decide) ?_
  refine ex_getsN rfl dX3_copyFrom_10 ?_
  refine ex_tlen (k := 0) (by decide) dX3_copyFrom_13 ?_
  refine exS_cpy ac_1 ac_2 ac_3 ac_4 S (S02.kept (fun a h1 h2 => S.2 a (by omega))) (by decide) (Nat.le_of_ble_eq_true rfl) dX3_copyFrom_14 (fun h S => ?_)
  refine ex_aload_n 0 dX3_copyFrom_17 rfl rfl ?_
  refine ex_aload_n 1 dX3_copyFrom_18 rfl rfl ?_
  refine ex_get (v := .int (nI n2)) fl_X3_29 (S02.kept (fun a h1 h2 => S.2 a (by omega))).ob rfl dX3_copyFrom_19 ?_
  refine exS_putN (n1 := n2) S fl_X3_29 rfl dX3_copyFrom_22 (fun h w hw S => ?_)
  refine ex_iconst (v := nI 0) dX3_copyFrom_25 (by decide) ?_
  refine ex_istore_n (lv' := [(2, .int (nI 0)), (0, .ref o), (1, .ref o2)]) dX3_copyFrom_26 rfl (by decide) rfl ?_
  suffices H : ∀ (k m : Nat) (h : HP) (v : Nat → Nat → Int32), m + k = 8 → SF G h0 h o π (n2, g, t, (fun i => if i < 6 then u2 i else u i), v) → (∀ j b, j < m → j < n2 → b < 6 → v j b = q2 j b) → ex G l X Q 1 0 0 0 0 cX3_copyFrom yX3_copyFrom.cls 5 none h z 27 [(2, .int (nI m)), (0, .ref o), (1, .ref o2)] [] from by
    have e2 := H 8 0 h w (by omega) S (fun j b hj => absurd hj (by omega))
    refine ex_lv (lv2 := [(2, .int (nI 0)), (0, .ref o), (1, .ref o2)]) [0, 1, 2] rfl ?_
    exact e2
  intro k
  induction k with
  | zero =>
    intro m h v hm S hv
    refine ex_iload_n 0 dX3_copyFrom_27 rfl rfl ?_
    refine ex_bipush (v := nI 8) dX3_copyFrom_28 (by decide) ?_
    refine ex_icmp_ge (tgt := 67) dX3_copyFrom_30 (by decide) (fun c_30 => ?_) (fun c_30 => absurd ((nI_leI (by omega) (by omega)).mpr (by omega)) c_30)
    refine ex_aload_n 1 dX3_copyFrom_67 rfl rfl ?_
    refine ex_aload_n 2 dX3_copyFrom_68 rfl rfl ?_
    refine ex_get (v := .int (u2 8)) fl_X3_33 (S02.kept (fun a h1 h2 => S.2 a (by omega))).ob rfl dX3_copyFrom_69 ?_
    refine exS_putU (i := 8) S fl_X3_33 (by decide) (by decide) rfl dX3_copyFrom_72 (fun h S => ?_)
    refine ex_aload_n 1 dX3_copyFrom_75 rfl rfl ?_
    refine ex_aload_n 2 dX3_copyFrom_76 rfl rfl ?_
    refine ex_get (v := .int (gv g2)) fl_X3_36 (S02.kept (fun a h1 h2 => S.2 a (by omega))).ob rfl dX3_copyFrom_77 ?_
    refine exS_putG (g1 := g2) S fl_X3_36 rfl dX3_copyFrom_80 (fun h S => ?_)
    refine ex_aload_n 1 dX3_copyFrom_83 rfl rfl ?_
    refine ex_aload_n 2 dX3_copyFrom_84 rfl rfl ?_
    refine ex_get (v := .int (nI t2)) fl_X3_39 (S02.kept (fun a h1 h2 => S.2 a (by omega))).ob rfl dX3_copyFrom_85 ?_
    refine exS_putT (t1 := t2) S fl_X3_39 rfl dX3_copyFrom_88 (fun h S => ?_)
    refine ex_aload_n 1 dX3_copyFrom_91 rfl rfl ?_
    refine ex_aload_n 2 dX3_copyFrom_92 rfl rfl ?_
    refine ex_get (v := .int (u2 11)) fl_X3_42 (S02.kept (fun a h1 h2 => S.2 a (by omega))).ob rfl dX3_copyFrom_93 ?_
    refine exS_putU (i := 11) S fl_X3_42 (by decide) (by decide) rfl dX3_copyFrom_96 (fun h S => ?_)
    refine ex_aload_n 1 dX3_copyFrom_99 rfl rfl ?_
    refine ex_aload_n 2 dX3_copyFrom_100 rfl rfl ?_
    refine ex_get (v := .int (u2 6)) fl_X3_45 (S02.kept (fun a h1 h2 => S.2 a (by omega))).ob rfl dX3_copyFrom_101 ?_
    refine exS_putU (i := 6) S fl_X3_45 (by decide) (by decide) rfl dX3_copyFrom_104 (fun h S => ?_)
    refine ex_aload_n 1 dX3_copyFrom_107 rfl rfl ?_
    refine ex_aload_n 2 dX3_copyFrom_108 rfl rfl ?_
    refine ex_get (v := .int (u2 12)) fl_X3_48 (S02.kept (fun a h1 h2 => S.2 a (by omega))).ob rfl dX3_copyFrom_109 ?_
    refine exS_putU (i := 12) S fl_X3_48 (by decide) (by decide) rfl dX3_copyFrom_112 (fun h S => ?_)
    refine ex_aload_n 1 dX3_copyFrom_115 rfl rfl ?_
    refine ex_aload_n 2 dX3_copyFrom_116 rfl rfl ?_
    refine ex_get (v := .int (u2 13)) fl_X3_51 (S02.kept (fun a h1 h2 => S.2 a (by omega))).ob rfl dX3_copyFrom_117 ?_
    refine exS_putU (i := 13) S fl_X3_51 (by decide) (by decide) rfl dX3_copyFrom_120 (fun h S => ?_)
    refine ex_aload_n 1 dX3_copyFrom_123 rfl rfl ?_
    refine ex_aload_n 2 dX3_copyFrom_124 rfl rfl ?_
    refine ex_get (v := .int (u2 14)) fl_X3_54 (S02.kept (fun a h1 h2 => S.2 a (by omega))).ob rfl dX3_copyFrom_125 ?_
    refine exS_putU (i := 14) S fl_X3_54 (by decide) (by decide) rfl dX3_copyFrom_128 (fun h S => ?_)
    refine ex_aload_n 1 dX3_copyFrom_131 rfl rfl ?_
    refine ex_aload_n 2 dX3_copyFrom_132 rfl rfl ?_
    refine ex_get (v := .int (u2 15)) fl_X3_57 (S02.kept (fun a h1 h2 => S.2 a (by omega))).ob rfl dX3_copyFrom_133 ?_
    refine exS_putU (i := 15) S fl_X3_57 (by decide) (by decide) rfl dX3_copyFrom_136 (fun h S => ?_)
    refine ex_aload_n 1 dX3_copyFrom_139 rfl rfl ?_
    refine ex_aload_n 2 dX3_copyFrom_140 rfl rfl ?_
    refine ex_get (v := .int (u2 16)) fl_X3_60 (S02.kept (fun a h1 h2 => S.2 a (by omega))).ob rfl dX3_copyFrom_141 ?_
    refine exS_putU (i := 16) S fl_X3_60 (by decide) (by decide) rfl dX3_copyFrom_144 (fun h S => ?_)
    exact ex_vret hQ rfl ⟨rfl, rfl, S.to rfl rfl rfl (fun i hi a1 a2 a3 => by
          rcases (show i = 0 ∨ i = 1 ∨ i = 2 ∨ i = 3 ∨ i = 4 ∨ i = 5 ∨ i = 6 ∨ i = 8 ∨ i = 11 ∨ i = 12 ∨ i = 13 ∨ i = 14 ∨ i = 15 ∨ i = 16 by omega) with rfl | rfl | rfl | rfl | rfl | rfl | rfl | rfl | rfl | rfl | rfl | rfl | rfl | rfl <;> rfl) (fun j b hj hb => (hv j b (by have : j < n2 := hj; omega) hj hb).symm)⟩ dX3_copyFrom_147
  | succ k ih =>
    intro m h v hm S hv
    rcases Nat.lt_or_ge m n2 with hlt | hge
    · refine ex_iload_n 0 dX3_copyFrom_27 rfl rfl ?_
      refine ex_bipush (v := nI 8) dX3_copyFrom_28 (by decide) ?_
      refine ex_icmp_ge (tgt := 67) dX3_copyFrom_30 (by decide) (fun c_30 => absurd c_30 (fun q9 => absurd ((nI_leI (by omega) (by omega)).mp q9) (by omega))) (fun c_30 => ?_)
      refine ex_aload_n 1 dX3_copyFrom_33 rfl rfl ?_
      refine ex_iload_n 0 dX3_copyFrom_34 rfl rfl ?_
      refine ex_call0 (As := [.int (nI m)]) (v := .ref (o + 3 + π m)) (ci := 3) vl_X3_70 rfl (c_at S.1 (by omega) hlt n8) S.ob rfl (by decide) (Nat.le_of_ble_eq_true rfl) (Nat.le_refl _) (Nat.le_refl _) rfl dX3_copyFrom_35 ?_
      refine ex_astore_n (lv' := [(3, .ref (o + 3 + π m)), (2, .int (nI m)), (0, .ref o), (1, .ref o2)]) dX3_copyFrom_38 rfl (by decide) rfl ?_
      refine ex_aload_n 3 dX3_copyFrom_39 rfl rfl ?_
      refine ex_iload_n 1 dX3_copyFrom_40 rfl rfl ?_
      refine ex_call0 (As := [.int (nI m)]) (v := .ref (o2 + 3 + π2 m)) (ci := 3) vl_X3_70 rfl (c_at (S02.kept (fun a h1 h2 => S.2 a (by omega))) (by omega) hlt n8) (S02.kept (fun a h1 h2 => S.2 a (by omega))).ob rfl (by decide) (Nat.le_of_ble_eq_true rfl) (Nat.le_refl _) (Nat.le_refl _) rfl dX3_copyFrom_41 ?_
      refine ex_astore (lv' := [(4, .ref (o2 + 3 + π2 m)), (3, .ref (o + 3 + π m)), (2, .int (nI m)), (0, .ref o), (1, .ref o2)]) dX3_copyFrom_44 (by decide) rfl ?_
      refine ex_aload_n 1 dX3_copyFrom_46 rfl rfl ?_
      refine ex_ifnull dX3_copyFrom_47 ?_
      refine ex_aload 0 dX3_copyFrom_50 rfl ?_
      refine ex_ifnull dX3_copyFrom_52 ?_
      refine ex_aload_n 1 dX3_copyFrom_55 rfl rfl ?_
      refine ex_aload 0 dX3_copyFrom_56 rfl ?_
      refine exP_call (As := [.ref (o2 + 3 + π2 m)]) (r0 := none) (B := (n2, g, t, (fun i => if i < 6 then u2 i else u i), (uq (uq (uq (uq (uq (uq v m 0 (q2 m 0)) m 1 (q2 m 1)) m 2 (q2 m 2)) m 3 (q2 m 3)) m 4 (q2 m 4)) m 5 (q2 m 5)))) vl_X3_74 rfl S (by omega) hlt (fun S1 => c_pcopy S1 (S02.kept (fun a h1 h2 => S.2 a (by omega))) hap (by omega) hlt (by omega) hlt) rfl (by decide) (Nat.le_of_ble_eq_true rfl) (Nat.le_refl _) (Nat.le_refl _) rfl dX3_copyFrom_58 (fun h S => ?_)
      refine ex_iinc (v := nI (m + 1)) (lv' := [(2, .int (nI (m + 1))), (4, .ref (o2 + 3 + π2 m)), (3, .ref (o + 3 + π m)), (0, .ref o), (1, .ref o2)]) 2 dX3_copyFrom_61 rfl (nI_1 m) (by decide) rfl ?_
      refine ex_goto (tgt := 27) dX3_copyFrom_64 (by decide) ?_
      have e2 := ih (m + 1) h _ (by omega) S (fun j b hj hn hb => by
        by_cases e : j = m
        · subst e
          rcases (show b = 0 ∨ b = 1 ∨ b = 2 ∨ b = 3 ∨ b = 4 ∨ b = 5 by omega) with rfl | rfl | rfl | rfl | rfl | rfl <;> simp [uq]
        · simp only [uq, e, if_false]
          rw [← hv j b (by omega) hn hb]
          split <;> (try split) <;> (try split) <;> (try split) <;> (try split) <;> (try split) <;> rfl)
      refine ex_lv (lv2 := [(2, .int (nI (m + 1))), (0, .ref o), (1, .ref o2)]) [0, 3, 4] rfl ?_
      exact e2
    · refine ex_iload_n 0 dX3_copyFrom_27 rfl rfl ?_
      refine ex_bipush (v := nI 8) dX3_copyFrom_28 (by decide) ?_
      refine ex_icmp_ge (tgt := 67) dX3_copyFrom_30 (by decide) (fun c_30 => absurd c_30 (fun q9 => absurd ((nI_leI (by omega) (by omega)).mp q9) (by omega))) (fun c_30 => ?_)
      refine ex_aload_n 1 dX3_copyFrom_33 rfl rfl ?_
      refine ex_iload_n 0 dX3_copyFrom_34 rfl rfl ?_
      refine ex_call0 (As := [.int (nI m)]) (v := .null) (ci := 3) vl_X3_70 rfl (c_atN S.1 (Or.inr ((nI_leI (by omega) (by omega)).mpr hge)) n8) S.ob rfl (by decide) (Nat.le_of_ble_eq_true rfl) (Nat.le_refl _) (Nat.le_refl _) rfl dX3_copyFrom_35 ?_
      refine ex_astore_nN (lv' := [(3, .null), (2, .int (nI m)), (0, .ref o), (1, .ref o2)]) dX3_copyFrom_38 rfl (by decide) rfl ?_
      refine ex_aload_n 3 dX3_copyFrom_39 rfl rfl ?_
      refine ex_iload_n 1 dX3_copyFrom_40 rfl rfl ?_
      refine ex_call0 (As := [.int (nI m)]) (v := .null) (ci := 3) vl_X3_70 rfl (c_atN (S02.kept (fun a h1 h2 => S.2 a (by omega))) (Or.inr ((nI_leI (by omega) (by omega)).mpr hge)) n8) (S02.kept (fun a h1 h2 => S.2 a (by omega))).ob rfl (by decide) (Nat.le_of_ble_eq_true rfl) (Nat.le_refl _) (Nat.le_refl _) rfl dX3_copyFrom_41 ?_
      refine ex_astoreN (lv' := [(4, .null), (3, .null), (2, .int (nI m)), (0, .ref o), (1, .ref o2)]) dX3_copyFrom_44 (by decide) rfl ?_
      refine ex_aload_nN 1 dX3_copyFrom_46 rfl rfl ?_
      refine ex_ifnullN (tgt := 61) dX3_copyFrom_47 (by decide) ?_
      refine ex_iinc (v := nI (m + 1)) (lv' := [(2, .int (nI (m + 1))), (4, .null), (3, .null), (0, .ref o), (1, .ref o2)]) 2 dX3_copyFrom_61 rfl (nI_1 m) (by decide) rfl ?_
      refine ex_goto (tgt := 27) dX3_copyFrom_64 (by decide) ?_
      have e2 := ih (m + 1) h v (by omega) S (fun j b hj hn hb => hv j b (by omega) hn hb)
      refine ex_lv (lv2 := [(2, .int (nI (m + 1))), (0, .ref o), (1, .ref o2)]) [0, 3, 4] rfl ?_
      exact e2

theorem c_copy {G : GG} {l : Launch} {h0 : HP} {z o o2 : Nat} {π π2 : Nat → Nat} {A B : AS} (S0 : SP G h0 o π A) (S02 : SP G h0 o2 π2 B) (hap : o + 11 ≤ o2 ∨ o2 + 11 ≤ o) (n8 : B.1 ≤ 8) : Ct G l 1 0 0 yX3_copyFrom cX3_copyFrom 5 none [.ref o, .ref o2] h0 z (pS G none h0 z o π B) := by
  obtain ⟨n, g, t, u, q⟩ := A
  obtain ⟨n2, g2, t2, u2, q2⟩ := B
  exact c_copyT S0 S02 hap n8

def pV (h : HP) (z : Nat) : Option Value → HP → Nat → Prop := fun r h1 z1 => r = none ∧ h1 = h ∧ z1 = z
theorem ex_heq {G : GG} {l : Launch} {X : CT} {Q : State → Prop} {d mc ms cs sl : Nat} {cc : ByteArray} {own : String} {nL : Nat} {ret : Option FieldType} {h h2 : HP} {z pc : Nat} {lv : List (Nat × Value)} {st : List Value} (e : h = h2) (k1 : ex G l X Q d mc ms cs sl cc own nL ret h2 z pc lv st) : ex G l X Q d mc ms cs sl cc own nL ret h z pc lv st := by
  subst e
  exact k1
theorem ex_zeq {G : GG} {l : Launch} {X : CT} {Q : State → Prop} {d mc ms cs sl : Nat} {cc : ByteArray} {own : String} {nL : Nat} {ret : Option FieldType} {h : HP} {z z2 pc : Nat} {lv : List (Nat × Value)} {st : List Value} (e : z = z2) (k1 : ex G l X Q d mc ms cs sl cc own nL ret h z2 pc lv st) : ex G l X Q d mc ms cs sl cc own nL ret h z pc lv st := by
  subst e
  exact k1
theorem hu_hu {h : HP} {a : Nat} {e e2 : va_E} : hu (hu h a e) a e2 = hu h a e2 := by
  funext b
  unfold hu
  split <;> rfl
theorem hu_c {h : HP} {a b : Nat} {e e2 : va_E} (n : a ≠ b) : hu (hu h a e) b e2 = hu (hu h b e2) a e := by
  funext x
  unfold hu
  by_cases h1 : x = b
  · by_cases h2 : x = a
    · exact absurd (h2.symm.trans h1) n
    · simp [h1, h2]
      intro q
      exact absurd (q.symm) n
  · simp [h1]

set_option maxRecDepth 20000 in
set_option maxHeartbeats 2000000 in
theorem c_Pinit {G : GG} {l : Launch} {h0 : HP} {z : Nat} {a : Nat} : Ct G l 1 0 0 yX2_init cX2_init 1 none [.ref a] h0 z (pV h0 z) := by
  refine Ct.intro (lv := [(0, .ref a)]) (by decide +kernel) (Nat.le_of_ble_eq_true rfl) rfl (fun X Q hQ hnm => ?_)
  refine ex_aload_n 0 dX2_init_0 rfl rfl ?_
  refine ex_objInit oi_X2_1 oi_2 oi_3 (by decide) (Nat.le_of_ble_eq_true rfl) dX2_init_1 ?_
  exact ex_vret hQ rfl ⟨rfl, rfl, rfl⟩ dX2_init_4
end
section
theorem hu_id {h : HP} {a : Nat} {e : va_E} (q : h a = some e) : h = hu h a e := by
  funext b
  unfold hu
  split
  · rename_i e1
    rw [e1, q]
  · rfl
section ER
variable {G : GG} {l : Launch} {X : CT} {Q : State → Prop} {d mc ms cs sl : Nat} {cc : ByteArray} {own : String} {nL : Nat} {ret : Option FieldType} {B : HP} {z pc : Nat} {lv : List (Nat × Value)} {st : List Value}
theorem ex_putR {idx ci k a : Nat} {ty : FieldType} {fs fs1 : List Value} {v : Value} (L0 : FL own idx ci k ty false) (hn : narrow ty v = v) (hfit : fits ty v = true) (hl : k < fs.length) (hf : fs.set k v = fs1) (dg : decode cc pc = .ok (.putfield idx, 3)) (k1 : ex G l X Q d mc ms cs sl cc own nL ret (hu B a (.inr (ci, fs1))) z (pc + 3) lv st) : ex G l X Q d mc ms cs sl cc own nL ret (hu B a (.inr (ci, fs))) z pc lv (v :: .ref a :: st) := by
  subst hf
  refine ex_put L0 hu_s hn hfit hl dg ?_
  rw [hu_hu]
  exact k1
theorem ex_putFR {idx ci k a : Nat} {ty : FieldType} {fs fs1 : List Value} {v : Value} (hin : X.2.2.2.2.2.2.1.name = "<init>") (hoc : vwCl[ci]?.map (fun q => q.1) = some own) (L0 : FL own idx ci k ty true) (hn : narrow ty v = v) (hfit : fits ty v = true) (hl : k < fs.length) (hf : fs.set k v = fs1) (dg : decode cc pc = .ok (.putfield idx, 3)) (k1 : ex G l X Q d mc ms cs sl cc own nL ret (hu B a (.inr (ci, fs1))) z (pc + 3) lv st) : ex G l X Q d mc ms cs sl cc own nL ret (hu B a (.inr (ci, fs))) z pc lv (v :: .ref a :: st) := by
  subst hf
  refine ex_putF hin hoc L0 hu_s hn hfit hl dg ?_
  rw [hu_hu]
  exact k1
theorem ex_cZ {a b : Nat} {e c : va_E} (n : a ≠ b) (k1 : ex G l X Q d mc ms cs sl cc own nL ret (hu (hu B b c) a e) z pc lv st) : ex G l X Q d mc ms cs sl cc own nL ret (hu (hu B a e) b c) z pc lv st := by
  rw [hu_c n]
  exact k1
end ER
/-- the first value of a state -/
def u0 : Nat → Int32 := fun i => match i with
  | 0 => 70
  | 1 => 30
  | 2 => 10
  | 3 => 28
  | 4 => 3
  | 5 => 20
  | 8 => 50
  | 11 => 1000
  | _ => 0
def A0 : AS := (0, none, 0, u0, fun _ _ => 0)
/-- a State in the making: m persons stand -/
def IN (G : GG) (h0 h : HP) (o m : Nat) : Prop := h o = some (.inr (3, stF o A0)) ∧ (∃ f : Nat → Int32, h (o + 1) = some (aA G 0 6 f) ∧ ∀ i, i < 6 → f i = u0 i) ∧ (∃ r : Nat → Option Nat, h (o + 2) = some (aQ G 3 8 r) ∧ ∀ j, j < m → r j = some (o + 3 + j)) ∧ (∀ j, j < m → h (o + 3 + j) = some (.inr (2, pF (fun _ => 0)))) ∧ ∀ a, (a < o ∨ o + 3 + m ≤ a) → h a = h0 a
theorem IN.done {G : GG} {h0 h : HP} {o : Nat} (H : IN G h0 h o 8) : SF G h0 h o (fun j => j) A0 := by
  obtain ⟨h1, h2, h3, h4, h5⟩ := H
  exact ⟨⟨h1, h2, h3, fun j hj => hj, fun i j _ _ e => e, fun j hj => ⟨_, h4 j hj, fun hn => absurd hn (Nat.not_lt_zero _)⟩⟩, h5⟩
theorem IN.next {G : GG} {h0 h : HP} {o m : Nat} {r : Nat → Option Nat} (H : IN G h0 h o m) (hr : h (o + 2) = some (aQ G 3 8 r)) (hm : m < 8) : IN G h0 (hu (hu h (o + 3 + m) (.inr (2, pF (fun _ => 0)))) (o + 2) (aQ G 3 8 (va_up r m (some (o + 3 + m))))) o (m + 1) := by
  obtain ⟨h1, ⟨f, h2, h2'⟩, ⟨r', h3, h3'⟩, h4, h5⟩ := H
  have e : r = r' := by rw [hr] at h3; simpa using h3
  subst e
  refine ⟨by rw [hu_n (by omega), hu_n (by omega)]; exact h1, ⟨f, by rw [hu_n (by omega), hu_n (by omega)]; exact h2, h2'⟩, ⟨_, hu_s, fun j hj => ?_⟩, fun j hj => ?_, fun a ha => by rw [hu_n (by omega), hu_n (by omega)]; exact h5 a (by omega)⟩
  · show (if j = m then _ else r j) = _
    by_cases e : j = m
    · rw [if_pos e, e]
    · rw [if_neg e]
      exact h3' j (by omega)
  · rw [hu_n (by omega)]
    by_cases e : j = m
    · rw [e, hu_s]
    · rw [hu_n (by omega)]
      exact h4 j (by omega)

set_option maxRecDepth 20000 in
set_option maxHeartbeats 2000000 in
theorem c_Sinit {G : GG} {l : Launch} {h0 : HP} {o : Nat} (H0 : h0 o = some (.inr (3, [.null, .null, .int 0, .int 0, .int 0, .int 0, .int 0, .int 0, .int 0, .int 0, .int 0, .int 0, .int 0]))) : Ct G l 2 10 62 yX3_init cX3_init 2 none [.ref o] h0 (o + 1) (fun r h1 z1 => r = none ∧ z1 = o + 11 ∧ SF G h0 h1 o (fun j => j) A0) := by
  refine Ct.intro (lv := [(0, .ref o)]) (by decide +kernel) (Nat.le_of_ble_eq_true rfl) rfl (fun X Q hQ hnm => ?_)
  refine ex_heq (hu_id H0) ?_
  refine ex_aload_n 0 dX3_init_0 rfl rfl ?_
  refine ex_objInit oi_X3_3 oi_2 oi_3 (by decide) (Nat.le_of_ble_eq_true rfl) dX3_init_1 ?_
  refine ex_aload_n 0 dX3_init_4 rfl rfl ?_
  refine ex_getsN rfl dX3_init_5 ?_
  refine ex_clone (by decide) (tw_t 26 (by decide +kernel) (by decide +kernel)) (tw_t 27 (by decide +kernel) (by decide +kernel)) (tw_t 28 (by decide +kernel) (by decide +kernel)) (tw_t 29 (by decide +kernel) (by decide +kernel)) (tw_t 30 (by decide +kernel) (by decide +kernel)) (by decide) (Nat.le_of_ble_eq_true rfl) (by decide) (by decide) dX3_init_8 ?_
  refine ex_cast0 (t := 0) cl_X3_14 hu_s dX3_init_11 ?_
  refine ex_cZ (by omega) ?_
  refine ex_putFR (fs1 := [.ref (o + 1), .null, .int 0, .int 0, .int 0, .int 0, .int 0, .int 0, .int 0, .int 0, .int 0, .int 0, .int 0]) hnm rfl fl_X3_18 rfl rfl (Nat.le_of_ble_eq_true rfl) rfl dX3_init_14 ?_
  refine ex_aload_n 0 dX3_init_17 rfl rfl ?_
  refine ex_bipush (v := nI 8) dX3_init_18 (by decide) ?_
  refine ex_anew (t := 3) rfl cl_X3_23 (Or.inl rfl) (by decide) (by decide) (by decide) dX3_init_20 ?_
  refine ex_cZ (by omega) ?_
  refine ex_putFR (fs1 := [.ref (o + 1), .ref (o + 1 + 1), .int 0, .int 0, .int 0, .int 0, .int 0, .int 0, .int 0, .int 0, .int 0, .int 0, .int 0]) hnm rfl fl_X3_25 rfl rfl (Nat.le_of_ble_eq_true rfl) rfl dX3_init_23 ?_
  refine ex_aload_n 0 dX3_init_26 rfl rfl ?_
  refine ex_iconst (v := nI 0) dX3_init_27 (by decide) ?_
  refine ex_putR (fs1 := [.ref (o + 1), .ref (o + 1 + 1), .int (nI 0), .int 0, .int 0, .int 0, .int 0, .int 0, .int 0, .int 0, .int 0, .int 0, .int 0]) fl_X3_29 rfl rfl (Nat.le_of_ble_eq_true rfl) rfl dX3_init_28 ?_
  refine ex_aload_n 0 dX3_init_31 rfl rfl ?_
  refine ex_bipush (v := nI 50) dX3_init_32 (by decide) ?_
  refine ex_putR (fs1 := [.ref (o + 1), .ref (o + 1 + 1), .int (nI 0), .int (nI 50), .int 0, .int 0, .int 0, .int 0, .int 0, .int 0, .int 0, .int 0, .int 0]) fl_X3_33 rfl rfl (Nat.le_of_ble_eq_true rfl) rfl dX3_init_34 ?_
  refine ex_aload_n 0 dX3_init_37 rfl rfl ?_
  refine ex_bipush (v := (-6)) dX3_init_38 (by decide) ?_
  refine ex_putR (fs1 := [.ref (o + 1), .ref (o + 1 + 1), .int (nI 0), .int (nI 50), .int (-6), .int 0, .int 0, .int 0, .int 0, .int 0, .int 0, .int 0, .int 0]) fl_X3_36 rfl rfl (Nat.le_of_ble_eq_true rfl) rfl dX3_init_40 ?_
  refine ex_aload_n 0 dX3_init_43 rfl rfl ?_
  refine ex_iconst (v := nI 0) dX3_init_44 (by decide) ?_
  refine ex_putR (fs1 := [.ref (o + 1), .ref (o + 1 + 1), .int (nI 0), .int (nI 50), .int (-6), .int (nI 0), .int 0, .int 0, .int 0, .int 0, .int 0, .int 0, .int 0]) fl_X3_39 rfl rfl (Nat.le_of_ble_eq_true rfl) rfl dX3_init_45 ?_
  refine ex_aload_n 0 dX3_init_48 rfl rfl ?_
  refine ex_sipush (v := nI 1000) dX3_init_49 (by decide) ?_
  refine ex_putR (fs1 := [.ref (o + 1), .ref (o + 1 + 1), .int (nI 0), .int (nI 50), .int (-6), .int (nI 0), .int (nI 1000), .int 0, .int 0, .int 0, .int 0, .int 0, .int 0]) fl_X3_42 rfl rfl (Nat.le_of_ble_eq_true rfl) rfl dX3_init_52 ?_
  refine ex_aload_n 0 dX3_init_55 rfl rfl ?_
  refine ex_iconst (v := nI 0) dX3_init_56 (by decide) ?_
  refine ex_putR (fs1 := [.ref (o + 1), .ref (o + 1 + 1), .int (nI 0), .int (nI 50), .int (-6), .int (nI 0), .int (nI 1000), .int (nI 0), .int 0, .int 0, .int 0, .int 0, .int 0]) fl_X3_45 rfl rfl (Nat.le_of_ble_eq_true rfl) rfl dX3_init_57 ?_
  refine ex_aload_n 0 dX3_init_60 rfl rfl ?_
  refine ex_iconst (v := nI 0) dX3_init_61 (by decide) ?_
  refine ex_putR (fs1 := [.ref (o + 1), .ref (o + 1 + 1), .int (nI 0), .int (nI 50), .int (-6), .int (nI 0), .int (nI 1000), .int (nI 0), .int (nI 0), .int 0, .int 0, .int 0, .int 0]) fl_X3_48 rfl rfl (Nat.le_of_ble_eq_true rfl) rfl dX3_init_62 ?_
  refine ex_aload_n 0 dX3_init_65 rfl rfl ?_
  refine ex_iconst (v := nI 0) dX3_init_66 (by decide) ?_
  refine ex_putR (fs1 := [.ref (o + 1), .ref (o + 1 + 1), .int (nI 0), .int (nI 50), .int (-6), .int (nI 0), .int (nI 1000), .int (nI 0), .int (nI 0), .int (nI 0), .int 0, .int 0, .int 0]) fl_X3_51 rfl rfl (Nat.le_of_ble_eq_true rfl) rfl dX3_init_67 ?_
  refine ex_aload_n 0 dX3_init_70 rfl rfl ?_
  refine ex_iconst (v := nI 0) dX3_init_71 (by decide) ?_
  refine ex_putR (fs1 := [.ref (o + 1), .ref (o + 1 + 1), .int (nI 0), .int (nI 50), .int (-6), .int (nI 0), .int (nI 1000), .int (nI 0), .int (nI 0), .int (nI 0), .int (nI 0), .int 0, .int 0]) fl_X3_54 rfl rfl (Nat.le_of_ble_eq_true rfl) rfl dX3_init_72 ?_
  refine ex_aload_n 0 dX3_init_75 rfl rfl ?_
  refine ex_iconst (v := nI 0) dX3_init_76 (by decide) ?_
  refine ex_putR (fs1 := [.ref (o + 1), .ref (o + 1 + 1), .int (nI 0), .int (nI 50), .int (-6), .int (nI 0), .int (nI 1000), .int (nI 0), .int (nI 0), .int (nI 0), .int (nI 0), .int (nI 0), .int 0]) fl_X3_57 rfl rfl (Nat.le_of_ble_eq_true rfl) rfl dX3_init_77 ?_
  refine ex_aload_n 0 dX3_init_80 rfl rfl ?_
  refine ex_iconst (v := nI 0) dX3_init_81 (by decide) ?_
  refine ex_putR (fs1 := [.ref (o + 1), .ref (o + 1 + 1), .int (nI 0), .int (nI 50), .int (-6), .int (nI 0), .int (nI 1000), .int (nI 0), .int (nI 0), .int (nI 0), .int (nI 0), .int (nI 0), .int (nI 0)]) fl_X3_60 rfl rfl (Nat.le_of_ble_eq_true rfl) rfl dX3_init_82 ?_
  refine ex_iconst (v := nI 0) dX3_init_85 (by decide) ?_
  refine ex_istore_n (lv' := [(1, .int (nI 0)), (0, .ref o)]) dX3_init_86 rfl (by decide) rfl ?_
  suffices H : ∀ (k m : Nat) (h : HP), m + k = 8 → IN G h0 h o m → ex G l X Q 2 10 62 (2 + m) (14 + 6 * m) cX3_init yX3_init.cls 2 none h (o + 3 + m) 87 [(1, .int (nI m)), (0, .ref o)] [] from by
    refine ex_widen (c2 := 2 + 0) (s2 := 14 + 6 * 0) (by decide) (by decide) ?_
    refine H 8 0 _ (by omega) ⟨hu_s, ⟨fV, by rw [hu_n (by omega), hu_n (by omega)]; exact hu_s, fun i hi => ?_⟩, ⟨_, by rw [hu_n (by omega)]; exact hu_s, fun j hj => absurd hj (Nat.not_lt_zero _)⟩, fun j hj => absurd hj (Nat.not_lt_zero _), fun a ha => by rw [hu_n (by omega), hu_n (by omega), hu_n (by omega)]⟩
    rcases (show i = 0 ∨ i = 1 ∨ i = 2 ∨ i = 3 ∨ i = 4 ∨ i = 5 by omega) with rfl | rfl | rfl | rfl | rfl | rfl <;> rfl
  intro k
  induction k with
  | zero =>
    intro m h hm I
    obtain rfl : m = 8 := by omega
    refine ex_iload_n 0 dX3_init_87 rfl rfl ?_
    refine ex_bipush (v := nI 8) dX3_init_88 (by decide) ?_
    refine ex_icmp_ge (tgt := 112) dX3_init_90 (by decide) (fun c_90 => ?_) (fun c_90 => absurd ((nI_leI (by omega) (by omega)).mpr (by omega)) c_90)
    exact ex_vret hQ rfl ⟨rfl, rfl, I.done⟩ dX3_init_112
  | succ k ih =>
    intro m h hm I
    obtain ⟨r, hr, -⟩ := I.2.2.1
    refine ex_iload_n 0 dX3_init_87 rfl rfl ?_
    refine ex_bipush (v := nI 8) dX3_init_88 (by decide) ?_
    refine ex_icmp_ge (tgt := 112) dX3_init_90 (by decide) (fun c_90 => absurd c_90 (fun q9 => absurd ((nI_leI (by omega) (by omega)).mp q9) (by omega))) (fun c_90 => ?_)
    refine ex_aload_n 1 dX3_init_93 rfl rfl ?_
    refine ex_get (v := .ref (o + 2)) fl_X3_25 I.1 rfl dX3_init_94 ?_
    refine ex_iload_n 0 dX3_init_97 rfl rfl ?_
    refine ex_new nl_X3_23 (by omega) (by omega) dX3_init_98 ?_
    refine ex_dup dX3_init_101 rfl ?_
    refine ex_callIN (As := []) (fun K => K.2.2.2.2.2.2.1) vn_X3_63 (c_Pinit (a := o + 3 + m)) rfl (by decide) (Nat.le_of_ble_eq_true rfl) (by omega) (by omega) rfl dX3_init_102 (fun r1 h1 z1 hp => ?_)
    obtain ⟨rfl, rfl, rfl⟩ := hp
    refine ex_aast (t := 3) (ci := 2) (r := (RX2, TX2, 6)) (n := 8) (f := r) (j := m) rfl rfl (by rw [hu_n (by omega)]; exact hr) hu_s rfl (by omega) (by decide) dX3_init_105 ?_
    refine ex_iinc (v := nI (m + 1)) (lv' := [(1, .int (nI (m + 1))), (0, .ref o)]) 0 dX3_init_106 rfl (nI_1 m) (by decide) rfl ?_
    refine ex_goto (tgt := 87) dX3_init_109 (by decide) ?_
    refine ex_widen (c2 := 2 + (m + 1)) (s2 := 14 + 6 * (m + 1)) (by omega) (by omega) ?_
    exact ih (m + 1) _ (by omega) (I.next hr (by omega))
end
section
/-! the history: six States behind it, told by their places (P), and the array's order -/
def HA (G : GG) (h0 h : HP) (b k : Nat) (r : Nat → Option Nat) (P : Nat → AS) : Prop := h b = some (.inr (0, [.ref (b + 1), .int (nI k)])) ∧ h (b + 1) = some (aQ G 4 6 r) ∧ (∀ i, i < 6 → ∃ π : Nat → Nat, SP G h (b + 2 + 11 * i) π (P i)) ∧ ∀ a, (a < b ∨ b + 68 ≤ a) → h a = h0 a
def HS (G : GG) (h0 h : HP) (b : Nat) (σ : Nat → Nat) (k : Nat) (P : Nat → AS) : Prop := ∃ r : Nat → Option Nat, HA G h0 h b k r P ∧ (∀ j, j < 6 → r j = some (b + 2 + 11 * σ j)) ∧ (∀ j, j < 6 → σ j < 6) ∧ (∀ i j, i < 6 → j < 6 → σ i = σ j → i = j) ∧ k ≤ 6
theorem HA.putA {G : GG} {h0 h : HP} {b k : Nat} {r r2 : Nat → Option Nat} {P : Nat → AS} (S : HA G h0 h b k r P) : HA G h0 (hu h (b + 1) (aQ G 4 6 r2)) b k r2 P := by
  obtain ⟨s1, s2, s3, s4⟩ := S
  refine ⟨by rw [hu_n (by omega)]; exact s1, hu_s, fun i hi => ?_, fun a ha => by rw [hu_n (by omega)]; exact s4 a ha⟩
  obtain ⟨π, hπ⟩ := s3 i hi
  exact ⟨π, hπ.kept (fun a h1 h2 => by rw [hu_n (by omega)])⟩
theorem HA.putL {G : GG} {h0 h : HP} {b k k2 : Nat} {r : Nat → Option Nat} {P : Nat → AS} {fs : List Value} (S : HA G h0 h b k r P) (hf : fs = [.ref (b + 1), .int (nI k2)]) : HA G h0 (hu h b (.inr (0, fs))) b k2 r P := by
  obtain ⟨s1, s2, s3, s4⟩ := S
  refine ⟨by rw [hu_s, hf], by rw [hu_n (by omega)]; exact s2, fun i hi => ?_, fun a ha => by rw [hu_n (by omega)]; exact s4 a ha⟩
  obtain ⟨π, hπ⟩ := s3 i hi
  exact ⟨π, hπ.kept (fun a h1 h2 => by rw [hu_n (by omega)])⟩
/-- one of the States has another value -/
theorem HA.setP {G : GG} {h0 h h1 : HP} {b k s : Nat} {r : Nat → Option Nat} {P : Nat → AS} {π : Nat → Nat} {A : AS} (S : HA G h0 h b k r P) (hs : s < 6) (S1 : SF G h h1 (b + 2 + 11 * s) π A) : HA G h0 h1 b k r (fun i => if i = s then A else P i) := by
  obtain ⟨s1, s2, s3, s4⟩ := S
  refine ⟨by rw [S1.2 _ (by omega)]; exact s1, by rw [S1.2 _ (by omega)]; exact s2, fun i hi => ?_, fun a ha => by rw [S1.2 _ (by omega)]; exact s4 a ha⟩
  by_cases e : i = s
  · subst e
    exact ⟨π, by simp only [if_true]; exact S1.1⟩
  · obtain ⟨π2, hπ⟩ := s3 i hi
    refine ⟨π2, ?_⟩
    simp only [e, if_false]
    exact hπ.kept (fun a h1 h2 => S1.2 a (by omega))
theorem HA.kept {G : GG} {h0 h h1 : HP} {b k : Nat} {r : Nat → Option Nat} {P : Nat → AS} (S : HA G h0 h b k r P) (q : ∀ a, b ≤ a → a < b + 68 → h1 a = h a) : HA G h1 h1 b k r P := by
  obtain ⟨s1, s2, s3, s4⟩ := S
  refine ⟨by rw [q _ (by omega) (by omega)]; exact s1, by rw [q _ (by omega) (by omega)]; exact s2, fun i hi => ?_, fun a ha => rfl⟩
  obtain ⟨π, hπ⟩ := s3 i hi
  exact ⟨π, hπ.kept (fun a h1 h2 => q a (by omega) (by omega))⟩
theorem HA.trans {G : GG} {h0 h h1 : HP} {b k k1 : Nat} {r r1 : Nat → Option Nat} {P P1 : Nat → AS} (S : HA G h0 h b k r P) (S1 : HA G h h1 b k1 r1 P1) : HA G h0 h1 b k1 r1 P1 := ⟨S1.1, S1.2.1, S1.2.2.1, fun a ha => (S1.2.2.2 a ha).trans (S.2.2.2 a ha)⟩
section EHi
variable {G : GG} {l : Launch} {X : CT} {Q : State → Prop} {d mc ms cs sl : Nat} {cc : ByteArray} {own : String} {nL : Nat} {ret : Option FieldType} {h h0 : HP} {z pc : Nat} {lv : List (Nat × Value)} {st : List Value} {b k : Nat} {r : Nat → Option Nat} {P : Nat → AS}
theorem exH_ld {i v : Nat} {x : Int32} (S : HA G h0 h b k r P) (hx : x = nI i) (hi : i < 6) (hr : r i = some v) (dg : decode cc pc = .ok (.aaload, 1)) (k1 : ex G l X Q d mc ms cs sl cc own nL ret h z (pc + 1) lv (.ref v :: st)) : ex G l X Q d mc ms cs sl cc own nL ret h z pc lv (.int x :: .ref (b + 1) :: st) := by
  refine ex_aald4 S.2.1 hx hi (by decide) dg ?_
  rw [hr]
  exact k1
theorem exH_st {i s : Nat} {x : Int32} (S : HA G h0 h b k r P) (hx : x = nI i) (hi : i < 6) (hs : s < 6) (dg : decode cc pc = .ok (.aastore, 1)) (k1 : ∀ h : HP, HA G h0 h b k (va_up r i (some (b + 2 + 11 * s))) P → ex G l X Q d mc ms cs sl cc own nL ret h z (pc + 1) lv st) : ex G l X Q d mc ms cs sl cc own nL ret h z pc lv (.ref (b + 2 + 11 * s) :: .int x :: .ref (b + 1) :: st) := by
  obtain ⟨π, hπ⟩ := S.2.2.1 s hs
  exact ex_aast (t := 4) (ci := 3) (r := (RX3, TX3, 13)) rfl rfl S.2.1 hπ.ob hx hi (by decide) dg (k1 _ S.putA)
theorem exH_len {idx k2 : Nat} {v : Int32} (S : HA G h0 h b k r P) (fl : FL own idx 0 1 .int false) (hv : v = nI k2) (dg : decode cc pc = .ok (.putfield idx, 3)) (k1 : ∀ h : HP, HA G h0 h b k2 r P → ex G l X Q d mc ms cs sl cc own nL ret h z (pc + 3) lv st) : ex G l X Q d mc ms cs sl cc own nL ret h z pc lv (.int v :: .ref b :: st) := by
  subst hv
  exact ex_put fl S.1 rfl rfl (Nat.le_of_ble_eq_true rfl) dg (k1 _ (S.putL rfl))
end EHi
end
section
set_option maxRecDepth 20000 in
set_option maxHeartbeats 2000000 in
theorem c_dropOldest {G : GG} {l : Launch} {h0 : HP} {z b k : Nat} {r : Nat → Option Nat} {P : Nat → AS} {σ : Nat → Nat} (S : HA G h0 h0 b k r P) (hr : ∀ j, j < 6 → r j = some (b + 2 + 11 * σ j)) (hσ : ∀ j, j < 6 → σ j < 6) : Ct G l 0 0 0 yX0_dropOldest cX0_dropOldest 3 none [.ref b] h0 z (fun rr h1 z1 => rr = none ∧ z1 = z ∧ ∃ r1 : Nat → Option Nat, HA G h0 h1 b 5 r1 P ∧ ∀ j, j < 6 → r1 j = some (b + 2 + 11 * (if j < 5 then σ (j + 1) else σ 0))) := by
  refine Ct.intro (lv := [(0, .ref b)]) (by decide +kernel) (Nat.le_of_ble_eq_true rfl) rfl (fun X Q hQ hnm => ?_)
  refine ex_aload_n 0 dX0_dropOldest_0 rfl rfl ?_
  refine ex_get (v := .ref (b + 1)) fl_X0_11 S.1 rfl dX0_dropOldest_1 ?_
  refine ex_iconst (v := nI 0) dX0_dropOldest_4 (by decide) ?_
  refine exH_ld (i := 0) (v := b + 2 + 11 * (σ 0)) S rfl (by omega) (hr 0 (by decide)) dX0_dropOldest_5 ?_
  refine ex_astore_n (lv' := [(1, .ref (b + 2 + 11 * (σ 0))), (0, .ref b)]) dX0_dropOldest_6 rfl (by decide) rfl ?_
  refine ex_iconst (v := nI 1) dX0_dropOldest_7 (by decide) ?_
  refine ex_istore_n (lv' := [(2, .int (nI 1)), (1, .ref (b + 2 + 11 * (σ 0))), (0, .ref b)]) dX0_dropOldest_8 rfl (by decide) rfl ?_
  suffices H : ∀ (k2 m : Nat) (h : HP) (r2 : Nat → Option Nat), m + k2 = 6 → 1 ≤ m → HA G h0 h b k r2 P → (∀ j, j < 6 → r2 j = some (b + 2 + 11 * σ (if j + 1 < m then j + 1 else j))) → ex G l X Q 0 0 0 0 0 cX0_dropOldest yX0_dropOldest.cls 3 none h z 9 [(2, .int (nI m)), (1, .ref (b + 2 + 11 * (σ 0))), (0, .ref b)] [] from by
    have e2 := H 5 1 h0 r (by omega) (by omega) S (fun j hj => by rw [hr j hj, if_neg (by omega)])
    refine ex_lv (lv2 := [(2, .int (nI 1)), (1, .ref (b + 2 + 11 * (σ 0))), (0, .ref b)]) [0, 1, 2] rfl ?_
    exact e2
  intro k2
  induction k2 with
  | zero =>
    intro m h r2 hm h1 S hr2
    refine ex_iload_n 0 dX0_dropOldest_9 rfl rfl ?_
    refine ex_bipush (v := nI 6) dX0_dropOldest_10 (by decide) ?_
    refine ex_icmp_ge (tgt := 35) dX0_dropOldest_12 (by decide) (fun c_12 => ?_) (fun c_12 => absurd ((nI_leI (by omega) (by omega)).mpr (by omega)) c_12)
    refine ex_aload_n 2 dX0_dropOldest_35 rfl rfl ?_
    refine ex_get (v := .ref (b + 1)) fl_X0_11 S.1 rfl dX0_dropOldest_36 ?_
    refine ex_iconst (v := nI 5) dX0_dropOldest_39 (by decide) ?_
    refine ex_aload_n 1 dX0_dropOldest_40 rfl rfl ?_
    refine exH_st (i := 5) (s := (σ 0)) S rfl (by omega) (hσ _ (by omega)) dX0_dropOldest_41 (fun h S => ?_)
    refine ex_aload_n 2 dX0_dropOldest_42 rfl rfl ?_
    refine ex_iconst (v := nI 5) dX0_dropOldest_43 (by decide) ?_
    refine exH_len (k2 := 5) S fl_X0_17 rfl dX0_dropOldest_44 (fun h S => ?_)
    exact ex_vret hQ rfl ⟨rfl, rfl, _, S, fun j hj => by
          show (if j = 5 then _ else r2 j) = _
          by_cases e : j = 5
          · rw [if_pos e, if_neg (by omega)]
          · rw [if_neg e, hr2 j hj, if_pos (by omega), if_pos (by omega)]⟩ dX0_dropOldest_47
  | succ k2 ih =>
    intro m h r2 hm h1 S hr2
    refine ex_iload_n 0 dX0_dropOldest_9 rfl rfl ?_
    refine ex_bipush (v := nI 6) dX0_dropOldest_10 (by decide) ?_
    refine ex_icmp_ge (tgt := 35) dX0_dropOldest_12 (by decide) (fun c_12 => absurd c_12 (fun q9 => absurd ((nI_leI (by omega) (by omega)).mp q9) (by omega))) (fun c_12 => ?_)
    refine ex_aload_n 2 dX0_dropOldest_15 rfl rfl ?_
    refine ex_get (v := .ref (b + 1)) fl_X0_11 S.1 rfl dX0_dropOldest_16 ?_
    refine ex_iload_n 0 dX0_dropOldest_19 rfl rfl ?_
    refine ex_iconst (v := nI 1) dX0_dropOldest_20 (by decide) ?_
    refine ex_isubN dX0_dropOldest_21 (by omega) ?_
    refine ex_aload_n 2 dX0_dropOldest_22 rfl rfl ?_
    refine ex_get (v := .ref (b + 1)) fl_X0_11 S.1 rfl dX0_dropOldest_23 ?_
    refine ex_iload_n 0 dX0_dropOldest_26 rfl rfl ?_
    refine exH_ld (i := m) (v := b + 2 + 11 * (σ m)) S rfl (by omega) (by rw [hr2 _ (by omega), if_neg (by omega)]) dX0_dropOldest_27 ?_
    refine exH_st (i := m - 1) (s := (σ m)) S rfl (by omega) (hσ _ (by omega)) dX0_dropOldest_28 (fun h S => ?_)
    refine ex_iinc (v := nI (m + 1)) (lv' := [(2, .int (nI (m + 1))), (1, .ref (b + 2 + 11 * (σ 0))), (0, .ref b)]) 0 dX0_dropOldest_29 rfl (nI_1 m) (by decide) rfl ?_
    refine ex_goto (tgt := 9) dX0_dropOldest_32 (by decide) ?_
    have e2 := ih (m + 1) h _ (by omega) (by omega) S (fun j hj => by
      show (if j = m - 1 then _ else r2 j) = _
      by_cases e : j = m - 1
      · rw [if_pos e, if_pos (by omega), show j + 1 = m by omega]
      · rw [if_neg e, hr2 j hj]
        by_cases e1 : j + 1 < m
        · rw [if_pos e1, if_pos (by omega)]
        · rw [if_neg e1, if_neg (by omega)])
    refine ex_lv (lv2 := [(2, .int (nI (m + 1))), (1, .ref (b + 2 + 11 * (σ 0))), (0, .ref b)]) [0, 1, 2] rfl ?_
    exact e2

def recR (k : Nat) (Rs : Nat → AS) (A : AS) : Nat → AS := fun j => if k < 6 then (if j = k then A else Rs j) else (if j = 5 then A else Rs (j + 1))
def rot (σ : Nat → Nat) : Nat → Nat := fun j => if j < 5 then σ (j + 1) else σ 0
theorem rot_lt {σ : Nat → Nat} (h : ∀ j, j < 6 → σ j < 6) : ∀ j, j < 6 → rot σ j < 6 := fun j hj => by
  unfold rot
  split
  · exact h _ (by omega)
  · exact h _ (by omega)
theorem rot_inj {σ : Nat → Nat} (h : ∀ i j, i < 6 → j < 6 → σ i = σ j → i = j) : ∀ i j, i < 6 → j < 6 → rot σ i = rot σ j → i = j := fun i j hi hj e => by
  unfold rot at e
  split at e <;> split at e
  · have := h _ _ (by omega) (by omega) e
    omega
  · have := h _ _ (by omega) (by omega) e
    omega
  · have := h _ _ (by omega) (by omega) e
    omega
  · omega

set_option maxRecDepth 20000 in
set_option maxHeartbeats 2000000 in
theorem c_record {G : GG} {l : Launch} {h0 : HP} {z b k o : Nat} {r : Nat → Option Nat} {P : Nat → AS} {σ π : Nat → Nat} {A : AS} (S : HA G h0 h0 b k r P) (hr : ∀ j, j < 6 → r j = some (b + 2 + 11 * σ j)) (hσ : ∀ j, j < 6 → σ j < 6) (hi : ∀ i j, i < 6 → j < 6 → σ i = σ j → i = j) (k6 : k ≤ 6) (T : SP G h0 o π A) (hap : o + 11 ≤ b ∨ b + 68 ≤ o) (n8 : A.1 ≤ 8) : Ct G l 2 0 0 yX0_record cX0_record 2 none [.ref b, .ref o] h0 z (fun rr h1 z1 => rr = none ∧ z1 = z ∧ ∃ (σ1 : Nat → Nat) (P1 : Nat → AS), HS G h0 h1 b σ1 (if k < 6 then k + 1 else 6) P1 ∧ ∀ j, j < (if k < 6 then k + 1 else 6) → P1 (σ1 j) = recR k (fun j => P (σ j)) A j) := by
  refine Ct.intro (lv := [(0, .ref b), (1, .ref o)]) (by decide +kernel) (Nat.le_of_ble_eq_true rfl) rfl (fun X Q hQ hnm => ?_)
  have TL : ∀ (h : HP) (k1 : Nat) (r1 : Nat → Option Nat) (s1 : Nat → Nat), k1 < 6 → HA G h0 h b k1 r1 P → (∀ j, j < 6 → r1 j = some (b + 2 + 11 * s1 j)) → (∀ j, j < 6 → s1 j < 6) → (∀ i j, i < 6 → j < 6 → s1 i = s1 j → i = j) → (k < 6 → k1 = k ∧ s1 = σ) → (¬ k < 6 → k1 = 5 ∧ s1 = rot σ) → (if k < 6 then k + 1 else 6) = k1 + 1 → ex G l X Q 2 0 0 0 0 cX0_record yX0_record.cls 2 none h z 13 [(0, .ref b), (1, .ref o)] [] := by
    intro h k1 r1 s1 hk1 S hr1 hs1 hi1 c1 c2 kk
    refine ex_aload_n 0 dX0_record_13 rfl rfl ?_
    refine ex_get (v := .int (nI k1)) fl_X0_17 S.1 rfl dX0_record_14 ?_
    refine ex_if_lt (tgt := 64) dX0_record_17 (by decide) (fun c_17 => absurd c_17 (nI_pos (by omega))) (fun c_17 => ?_)
    refine ex_aload_n 0 dX0_record_20 rfl rfl ?_
    refine ex_get (v := .int (nI k1)) fl_X0_17 S.1 rfl dX0_record_21 ?_
    refine ex_bipush (v := nI 6) dX0_record_24 (by decide) ?_
    refine ex_icmp_ge (tgt := 64) dX0_record_26 (by decide) (fun c_26 => absurd c_26 (fun q9 => absurd ((nI_leI (by omega) (by omega)).mp q9) (by omega))) (fun c_26 => ?_)
    refine ex_aload_n 0 dX0_record_29 rfl rfl ?_
    refine ex_get (v := .ref (b + 1)) fl_X0_11 S.1 rfl dX0_record_30 ?_
    refine ex_aload_n 0 dX0_record_33 rfl rfl ?_
    refine ex_get (v := .int (nI k1)) fl_X0_17 S.1 rfl dX0_record_34 ?_
    refine exH_ld (i := k1) (v := b + 2 + 11 * (s1 k1)) S rfl (by omega) (hr1 _ (by omega)) dX0_record_37 ?_
    refine ex_ifnull dX0_record_38 ?_
    refine ex_aload_n 0 dX0_record_41 rfl rfl ?_
    refine ex_get (v := .ref (b + 1)) fl_X0_11 S.1 rfl dX0_record_42 ?_
    refine ex_aload_n 0 dX0_record_45 rfl rfl ?_
    refine ex_get (v := .int (nI k1)) fl_X0_17 S.1 rfl dX0_record_46 ?_
    refine exH_ld (i := k1) (v := b + 2 + 11 * (s1 k1)) S rfl (by omega) (hr1 _ (by omega)) dX0_record_49 ?_
    refine ex_aload_n 1 dX0_record_50 rfl rfl ?_
    obtain ⟨π1, hπ⟩ := S.2.2.1 (s1 k1) (hs1 k1 (by omega))
    refine ex_callV (As := [.ref o]) (ci := 3) vl_X0_25 rfl (c_copy hπ (T.kept (fun a g1 g2 => S.2.2.2 a (by omega))) (by have := hs1 k1 (by omega); omega) n8) hπ.ob rfl (by decide) (Nat.le_of_ble_eq_true rfl) (Nat.le_refl _) (Nat.le_refl _) rfl dX0_record_51 (fun r9 h9 z9 hp => ?_)
    obtain ⟨rfl, rfl, S9⟩ := hp
    have S := S.setP (hs1 k1 (by omega)) S9
    refine ex_aload_n 0 dX0_record_54 rfl rfl ?_
    refine ex_dup dX0_record_55 rfl ?_
    refine ex_get (v := .int (nI k1)) fl_X0_17 S.1 rfl dX0_record_56 ?_
    refine ex_iconst (v := nI 1) dX0_record_59 (by decide) ?_
    refine ex_iaddN dX0_record_60 ?_
    refine exH_len (k2 := k1 + 1) S fl_X0_17 rfl dX0_record_61 (fun h S => ?_)
    exact ex_vret hQ rfl (by
            refine ⟨rfl, rfl, s1, (fun i => if i = s1 k1 then A else P i), ?_⟩
            rw [kk]
            refine ⟨⟨r1, S, hr1, hs1, hi1, by omega⟩, fun j hj => ?_⟩
            show (if s1 j = s1 k1 then A else P (s1 j)) = _
            unfold recR
            by_cases c : k < 6
            · obtain ⟨rfl, rfl⟩ := c1 c
              rw [if_pos c]
              by_cases e : j = k1
              · rw [if_pos (by rw [e]), if_pos e]
              · rw [if_neg (fun q => e (hi1 _ _ (by omega) (by omega) q)), if_neg e]
            · obtain ⟨rfl, rfl⟩ := c2 c
              rw [if_neg c]
              by_cases e : j = 5
              · rw [if_pos (by rw [e]), if_pos e]
              · rw [if_neg (fun q => e (hi1 _ _ (by omega) (by omega) q)), if_neg e]
                show P (rot σ j) = P (σ (j + 1))
                unfold rot
                rw [if_pos (by omega)]) dX0_record_64
  rcases Nat.lt_or_ge k 6 with hlt | hge
  · refine ex_aload_n 0 dX0_record_0 rfl rfl ?_
    refine ex_get (v := .int (nI k)) fl_X0_17 S.1 rfl dX0_record_1 ?_
    refine ex_bipush (v := nI 6) dX0_record_4 (by decide) ?_
    refine ex_icmp_lt (tgt := 13) dX0_record_6 (by decide) (fun c_6 => ?_) (fun c_6 => absurd ((nI_ltI (by omega) (by omega)).mpr (by omega)) c_6)
    exact TL _ _ _ _ hlt S hr hσ hi (fun _ => ⟨rfl, rfl⟩) (fun q => absurd hlt q) (by rw [if_pos hlt])
  · refine ex_aload_n 0 dX0_record_0 rfl rfl ?_
    refine ex_get (v := .int (nI k)) fl_X0_17 S.1 rfl dX0_record_1 ?_
    refine ex_bipush (v := nI 6) dX0_record_4 (by decide) ?_
    refine ex_icmp_lt (tgt := 13) dX0_record_6 (by decide) (fun c_6 => absurd c_6 (fun q9 => absurd ((nI_ltI (by omega) (by omega)).mp q9) (by omega))) (fun c_6 => ?_)
    refine ex_aload_n 0 dX0_record_9 rfl rfl ?_
    obtain rfl : k = 6 := by omega
    refine ex_callV (As := []) (ci := 0) vl_X0_22 rfl (c_dropOldest S hr hσ) S.1 rfl (by decide) (Nat.le_of_ble_eq_true rfl) (Nat.le_refl _) (Nat.le_refl _) rfl dX0_record_10 (fun r9 h9 z9 hp => ?_)
    obtain ⟨rfl, rfl, r1, S, hr1⟩ := hp
    exact TL _ 5 _ (rot σ) (by omega) S hr1 (rot_lt hσ) (rot_inj hi) (fun q => absurd q (by omega)) (fun _ => ⟨rfl, rfl⟩) (by rw [if_neg (by omega)])

set_option maxRecDepth 20000 in
set_option maxHeartbeats 2000000 in
theorem c_takeBack {G : GG} {l : Launch} {h0 : HP} {z b k o : Nat} {r : Nat → Option Nat} {P : Nat → AS} {σ π : Nat → Nat} {A : AS} (S : HA G h0 h0 b k r P) (hr : ∀ j, j < 6 → r j = some (b + 2 + 11 * σ j)) (hσ : ∀ j, j < 6 → σ j < 6) (hi : ∀ i j, i < 6 → j < 6 → σ i = σ j → i = j) (k6 : k ≤ 6) (k1 : 1 ≤ k) (T : SP G h0 o π A) (hap : o + 11 ≤ b ∨ b + 68 ≤ o) (n8 : (P (σ (k - 1))).1 ≤ 8) : Ct G l 2 0 0 yX0_takeBack cX0_takeBack 2 none [.ref b, .ref o] h0 z (fun rr h1 z1 => rr = none ∧ z1 = z ∧ SP G h1 o π (P (σ (k - 1))) ∧ HS G h1 h1 b σ (k - 1) P ∧ ∀ a, (a < b ∨ b + 68 ≤ a) → (a < o ∨ o + 11 ≤ a) → h1 a = h0 a) := by
  refine Ct.intro (lv := [(0, .ref b), (1, .ref o)]) (by decide +kernel) (Nat.le_of_ble_eq_true rfl) rfl (fun X Q hQ hnm => ?_)
  refine ex_aload_n 0 dX0_takeBack_0 rfl rfl ?_
  refine ex_get (v := .int (nI k)) fl_X0_17 S.1 rfl dX0_takeBack_1 ?_
  refine ex_iconst (v := nI 1) dX0_takeBack_4 (by decide) ?_
  refine ex_icmp_lt (tgt := 31) dX0_takeBack_5 (by decide) (fun c_5 => absurd c_5 (fun q9 => absurd ((nI_ltI (by omega) (by omega)).mp q9) (by omega))) (fun c_5 => ?_)
  refine ex_aload_n 0 dX0_takeBack_8 rfl rfl ?_
  refine ex_get (v := .int (nI k)) fl_X0_17 S.1 rfl dX0_takeBack_9 ?_
  refine ex_bipush (v := nI 6) dX0_takeBack_12 (by decide) ?_
  refine ex_icmp_gt (tgt := 31) dX0_takeBack_14 (by decide) (fun c_14 => absurd c_14 (fun q9 => absurd ((nI_ltI (by omega) (by omega)).mp q9) (by omega))) (fun c_14 => ?_)
  refine ex_aload_n 0 dX0_takeBack_17 rfl rfl ?_
  refine ex_get (v := .ref (b + 1)) fl_X0_11 S.1 rfl dX0_takeBack_18 ?_
  refine ex_aload_n 0 dX0_takeBack_21 rfl rfl ?_
  refine ex_get (v := .int (nI k)) fl_X0_17 S.1 rfl dX0_takeBack_22 ?_
  refine ex_iconst (v := nI 1) dX0_takeBack_25 (by decide) ?_
  refine ex_isubN dX0_takeBack_26 (by omega) ?_
  refine exH_ld (i := k - 1) (v := b + 2 + 11 * (σ (k - 1))) S rfl (by omega) (hr _ (by omega)) dX0_takeBack_27 ?_
  refine ex_ifnonnull (tgt := 32) dX0_takeBack_28 (by decide) ?_
  refine ex_aload_n 0 dX0_takeBack_32 rfl rfl ?_
  refine ex_dup dX0_takeBack_33 rfl ?_
  refine ex_get (v := .int (nI k)) fl_X0_17 S.1 rfl dX0_takeBack_34 ?_
  refine ex_iconst (v := nI 1) dX0_takeBack_37 (by decide) ?_
  refine ex_isubN dX0_takeBack_38 (by omega) ?_
  refine exH_len (k2 := k - 1) S fl_X0_17 rfl dX0_takeBack_39 (fun h S => ?_)
  refine ex_aload_n 1 dX0_takeBack_42 rfl rfl ?_
  refine ex_aload_n 0 dX0_takeBack_43 rfl rfl ?_
  refine ex_get (v := .ref (b + 1)) fl_X0_11 S.1 rfl dX0_takeBack_44 ?_
  refine ex_aload_n 0 dX0_takeBack_47 rfl rfl ?_
  refine ex_get (v := .int (nI (k - 1))) fl_X0_17 S.1 rfl dX0_takeBack_48 ?_
  refine exH_ld (i := k - 1) (v := b + 2 + 11 * (σ (k - 1))) S rfl (by omega) (hr _ (by omega)) dX0_takeBack_51 ?_
  obtain ⟨π1, hπ⟩ := S.2.2.1 (σ (k - 1)) (hσ (k - 1) (by omega))
  refine ex_callV (As := [.ref (b + 2 + 11 * (σ (k - 1)))]) (ci := 3) vl_X0_25 rfl (c_copy (T.kept (fun a g1 g2 => S.2.2.2 a (by omega))) hπ (by have := hσ (k - 1) (by omega); omega) n8) (T.kept (fun a g1 g2 => S.2.2.2 a (by omega))).ob rfl (by decide) (Nat.le_of_ble_eq_true rfl) (Nat.le_refl _) (Nat.le_refl _) rfl dX0_takeBack_52 (fun r9 h9 z9 hp => ?_)
  obtain ⟨rfl, rfl, S9⟩ := hp
  exact ex_vret hQ rfl ⟨rfl, rfl, S9.1, ⟨r, S.kept (fun a g1 g2 => S9.2 a (by omega)), hr, hσ, hi, by omega⟩, fun a g1 g2 => by rw [S9.2 a (by omega)]; exact S.2.2.2 a (by omega)⟩ dX0_takeBack_55
end
section
/-! the pad: its object, its characters by their codes -/
def PD (G : GG) (h0 h : HP) (b len : Nat) (c : Nat → Nat) : Prop := h b = some (.inr (1, [.ref (b + 1), .int (nI len)])) ∧ (∃ f : Nat → Int32, h (b + 1) = some (aA G 1 60 f) ∧ ∀ i, i < len → f i = nI (c i)) ∧ len ≤ 60 ∧ ∀ a, (a < b ∨ b + 2 ≤ a) → h a = h0 a
theorem PD.kept {G : GG} {h0 h h1 : HP} {b len : Nat} {c : Nat → Nat} (S : PD G h0 h b len c) (q : ∀ a, b ≤ a → a < b + 2 → h1 a = h a) : PD G h1 h1 b len c := by
  obtain ⟨s1, ⟨f, s2, s3⟩, s4, s5⟩ := S
  exact ⟨by rw [q _ (by omega) (by omega)]; exact s1, ⟨f, by rw [q _ (by omega) (by omega)]; exact s2, s3⟩, s4, fun _ _ => rfl⟩
theorem PD.putL {G : GG} {h0 h : HP} {b len l2 : Nat} {c : Nat → Nat} {fs : List Value} (S : PD G h0 h b len c) (hf : fs = [.ref (b + 1), .int (nI l2)]) (hl : l2 ≤ len) : PD G h0 (hu h b (.inr (1, fs))) b l2 c := by
  obtain ⟨s1, ⟨f, s2, s3⟩, s4, s5⟩ := S
  exact ⟨by rw [hu_s, hf], ⟨f, by rw [hu_n (by omega)]; exact s2, fun i hi => s3 i (by omega)⟩, by omega, fun a ha => by rw [hu_n (by omega)]; exact s5 a ha⟩
/-- what a character is: behind the end a comma -/
def chA (len : Nat) (c : Nat → Nat) (i : Nat) : Nat := if i < len then c i else 44
def dI (c : Nat) : Bool := decide (48 ≤ c) && decide (c ≤ 57)
def shW (s : Int32) (c : Nat) : Int32 := nI 10 * s + nI c - nI 48
def canS (due : Nat) (s : Int32) (c : Nat) : Bool := match due with
  | 0 => decide (49 ≤ c) && decide (c ≤ 57)
  | 1 => decide (c = 102)
  | 2 => dI c
  | _ => decide (c = 44) || (dI c && (decide (0 < s) && decide (shW s c ≤ nI 100)))
def dueB (due c : Nat) : Nat := match due with
  | 0 => 1
  | 1 => 2
  | 2 => 3
  | _ => if c = 44 then 0 else 3
def bI (b : Bool) : Int32 := if b = true then nI 1 else nI 0
theorem bI_0 {b : Bool} (h : bI b = 0) : b = false := by
  cases b
  · rfl
  · exact absurd h (by decide)
theorem bI_1 {b : Bool} (h : ¬ bI b = 0) : b = true := by
  cases b
  · exact absurd (by decide) h
  · rfl
/-- the fault, from the place i on -/
def ffG (len : Nat) (c : Nat → Nat) (k i due : Nat) (s : Int32) : Option Nat := match k with
  | 0 => if due = 3 then none else some len
  | k + 1 => if canS due s (c i) = true then ffG len c k (i + 1) (dueB due (c i)) (if due ≠ 0 ∧ dI (c i) = true then shW s (c i) else nI 0) else some i
def ffA (len : Nat) (c : Nat → Nat) : Option Nat := ffG len c len 0 0 (nI 0)
def cms (c : Nat → Nat) (m : Nat) : Nat := match m with
  | 0 => 0
  | k + 1 => if c k = 44 then cms c k + 1 else cms c k
def adm8 (A : AS) (w s : Int32) : AS := if A.1 < 8 then admA A w s else A
/-- the people of the pad from the place i on, k characters and the end -/
def apG (len : Nat) (c : Nat → Nat) (k i : Nat) (w s : Int32) (A : AS) : AS := match k with
  | 0 => A
  | k + 1 => if chA len c i = 44 then apG len c k (i + 1) (nI 0) (nI 0) (adm8 A w s) else if w = 0 then apG len c k (i + 1) (nI (chA len c i) - nI 48) s A else if chA len c i = 102 then apG len c k (i + 1) w s A else apG len c k (i + 1) w (shW s (chA len c i)) A
theorem admA_1 {A : AS} {w s : Int32} : (admA A w s).1 = A.1 + 1 := by
  obtain ⟨n, g, t, u, q⟩ := A
  rfl
theorem adm8_8 {A : AS} {w s : Int32} (h : A.1 ≤ 8) : (adm8 A w s).1 ≤ 8 := by
  unfold adm8
  split
  · rw [admA_1]
    omega
  · exact h
section EPd
variable {G : GG} {l : Launch} {X : CT} {Q : State → Prop} {d mc ms cs sl : Nat} {cc : ByteArray} {own : String} {nL : Nat} {ret : Option FieldType} {h h0 : HP} {z pc : Nat} {lv : List (Nat × Value)} {st : List Value} {b len : Nat} {c : Nat → Nat}
theorem exD_ld {i : Nat} {x : Int32} (S : PD G h0 h b len c) (hx : x = nI i) (hi : i < len) (dg : decode cc pc = .ok (.caload, 1)) (k1 : ex G l X Q d mc ms cs sl cc own nL ret h z (pc + 1) lv (.int (nI (c i)) :: st)) : ex G l X Q d mc ms cs sl cc own nL ret h z pc lv (.int x :: .ref (b + 1) :: st) := by
  obtain ⟨s1, ⟨f, s2, s3⟩, s4, s5⟩ := S
  refine ex_cald s2 hx (by omega) (by decide) dg ?_
  rw [s3 i hi]
  exact k1
theorem exD_len {idx l2 : Nat} {v : Int32} (S : PD G h0 h b len c) (fl : FL own idx 1 1 .int false) (hv : v = nI l2) (hl : l2 ≤ len) (dg : decode cc pc = .ok (.putfield idx, 3)) (k1 : ∀ h : HP, PD G h0 h b l2 c → ex G l X Q d mc ms cs sl cc own nL ret h z (pc + 3) lv st) : ex G l X Q d mc ms cs sl cc own nL ret h z pc lv (.int v :: .ref b :: st) := by
  subst hv
  exact ex_put fl S.1 rfl rfl (Nat.le_of_ble_eq_true rfl) dg (k1 _ (S.putL rfl hl))
/-- a character is put behind the end: the length follows at once -/
theorem nar_c {v : Nat} (hv : v < 65536) : vp_nar .char (nI v) = nI v := by
  have h := (pk_charN hv).1
  unfold vp_nar
  rw [h]
theorem PD.app {v : Nat} {f : Nat → Int32} (S : PD G h0 h b len c) (hf : h (b + 1) = some (aA G 1 60 f)) (hv : v < 65536) (hl : len < 60) : PD G h0 (hu (hu h (b + 1) (aA G 1 60 (upd f len (vp_nar .char (nI v))))) b (.inr (1, [.ref (b + 1), .int (nI (len + 1))]))) b (len + 1) (fun i => if i = len then v else c i) := by
  obtain ⟨s1, ⟨f', s2, s3⟩, s4, s5⟩ := S
  have e : f = f' := by rw [hf] at s2; simpa using s2
  subst e
  refine ⟨hu_s, ⟨_, by rw [hu_n (by omega)]; exact hu_s, fun i hi => ?_⟩, by omega, fun a ha => by rw [hu_n (by omega), hu_n (by omega)]; exact s5 a ha⟩
  rw [nar_c hv]
  by_cases e : i = len
  · subst e
    rw [upd_s]
    simp
  · rw [upd_n e]
    simp only [e, if_false]
    exact s3 i (by omega)
end EPd
end
section
set_option maxRecDepth 20000 in
set_option maxHeartbeats 2000000 in
theorem c_isDigit {G : GG} {l : Launch} {h0 : HP} {z b : Nat} {x : Nat} (hx : x < 65536) : Ct G l 0 0 0 yX1_isDigit cX1_isDigit 2 (some .boolean) [.ref b, .int (nI x)] h0 z (p0 (.int (bI (dI x))) h0 z) := by
  refine Ct.intro (lv := [(0, .ref b), (1, .int (nI x))]) (by decide +kernel) (Nat.le_of_ble_eq_true rfl) rfl (fun X Q hQ hnm => ?_)
  refine ex_iload_n 1 dX1_isDigit_0 rfl rfl ?_
  refine ex_bipush (v := nI 48) dX1_isDigit_1 (by decide) ?_
  refine ex_icmp_lt (tgt := 16) dX1_isDigit_3 (by decide) (fun c_3 => ?_) (fun c_3 => ?_)
  · have n_3 : x < 48 := (nI_ltI (by omega) (by omega)).mp c_3
    refine ex_iconst (v := nI 0) dX1_isDigit_16 (by decide) ?_
    exact ex_zret hQ rfl (by decide) ⟨by first | (simp [dI, bI, show 48 ≤ x by omega, show x ≤ 57 by omega]; done) | (simp [dI, bI, show ¬ 48 ≤ x by omega]; done) | (simp [dI, bI, show ¬ x ≤ 57 by omega]; done), rfl, rfl⟩ dX1_isDigit_17
  · have n_3 : ¬ (x < 48) := fun q9 => c_3 ((nI_ltI (by omega) (by omega)).mpr q9)
    refine ex_iload_n 1 dX1_isDigit_6 rfl rfl ?_
    refine ex_bipush (v := nI 57) dX1_isDigit_7 (by decide) ?_
    refine ex_icmp_gt (tgt := 16) dX1_isDigit_9 (by decide) (fun c_9 => ?_) (fun c_9 => ?_)
    · have n_9 : 57 < x := (nI_ltI (by omega) (by omega)).mp c_9
      refine ex_iconst (v := nI 0) dX1_isDigit_16 (by decide) ?_
      exact ex_zret hQ rfl (by decide) ⟨by first | (simp [dI, bI, show 48 ≤ x by omega, show x ≤ 57 by omega]; done) | (simp [dI, bI, show ¬ 48 ≤ x by omega]; done) | (simp [dI, bI, show ¬ x ≤ 57 by omega]; done), rfl, rfl⟩ dX1_isDigit_17
    · have n_9 : ¬ (57 < x) := fun q9 => c_9 ((nI_ltI (by omega) (by omega)).mpr q9)
      refine ex_iconst (v := nI 1) dX1_isDigit_12 (by decide) ?_
      refine ex_goto (tgt := 17) dX1_isDigit_13 (by decide) ?_
      exact ex_zret hQ rfl (by decide) ⟨by first | (simp [dI, bI, show 48 ≤ x by omega, show x ≤ 57 by omega]; done) | (simp [dI, bI, show ¬ 48 ≤ x by omega]; done) | (simp [dI, bI, show ¬ x ≤ 57 by omega]; done), rfl, rfl⟩ dX1_isDigit_17

set_option maxRecDepth 20000 in
set_option maxHeartbeats 2000000 in
theorem c_shareWith {G : GG} {l : Launch} {h0 : HP} {z b : Nat} {x : Nat} {s : Int32} : Ct G l 0 0 0 yX1_shareWith cX1_shareWith 3 (some .int) [.ref b, .int s, .int (nI x)] h0 z (p0 (.int (shW s x)) h0 z) := by
  refine Ct.intro (lv := [(0, .ref b), (1, .int s), (2, .int (nI x))]) (by decide +kernel) (Nat.le_of_ble_eq_true rfl) rfl (fun X Q hQ hnm => ?_)
  refine ex_bipush (v := nI 10) dX1_shareWith_0 (by decide) ?_
  refine ex_iload_n 1 dX1_shareWith_2 rfl rfl ?_
  refine ex_imul dX1_shareWith_3 ?_
  refine ex_iload_n 2 dX1_shareWith_4 rfl rfl ?_
  refine ex_iadd dX1_shareWith_5 ?_
  refine ex_bipush (v := nI 48) dX1_shareWith_6 (by decide) ?_
  refine ex_isub dX1_shareWith_8 ?_
  exact ex_iret hQ rfl ⟨rfl, rfl, rfl⟩ dX1_shareWith_9

set_option maxRecDepth 20000 in
set_option maxHeartbeats 2000000 in
theorem c_char {G : GG} {l : Launch} {h0 : HP} {z b len : Nat} {c : Nat → Nat} (S : PD G h0 h0 b len c) (hc : ∀ i, i < len → c i < 65536) {i : Nat} (hi : i < 100) : Ct G l 0 0 0 yX1_character cX1_character 2 (some .char) [.ref b, .int (nI i)] h0 z (p0 (.int (nI (chA len c i))) h0 z) := by
  refine Ct.intro (lv := [(0, .ref b), (1, .int (nI i))]) (by decide +kernel) (Nat.le_of_ble_eq_true rfl) rfl (fun X Q hQ hnm => ?_)
  have l60 : len ≤ 60 := S.2.2.1
  refine ex_iload_n 1 dX1_character_0 rfl rfl ?_
  refine ex_if_lt (tgt := 27) dX1_character_1 (by decide) (fun c_1 => absurd c_1 (nI_pos (by omega))) (fun c_1 => ?_)
  refine ex_iload_n 1 dX1_character_4 rfl rfl ?_
  refine ex_aload_n 0 dX1_character_5 rfl rfl ?_
  refine ex_get (v := .int (nI len)) fl_X1_15 S.1 rfl dX1_character_6 ?_
  refine ex_icmp_ge (tgt := 27) dX1_character_9 (by decide) (fun c_9 => ?_) (fun c_9 => ?_)
  · have n_9 : len ≤ i := (nI_leI (by omega) (by omega)).mp c_9
    refine ex_bipush (v := nI 44) dX1_character_27 (by decide) ?_
    exact ex_zret hQ rfl (pk_charN (by first | exact hc _ (by omega) | decide)).1 ⟨by simp [chA, show ¬ i < len by omega], rfl, rfl⟩ dX1_character_29
  · have n_9 : ¬ (len ≤ i) := fun q9 => c_9 ((nI_leI (by omega) (by omega)).mpr q9)
    refine ex_iload_n 1 dX1_character_12 rfl rfl ?_
    refine ex_bipush (v := nI 60) dX1_character_13 (by decide) ?_
    refine ex_icmp_ge (tgt := 27) dX1_character_15 (by decide) (fun c_15 => absurd c_15 (fun q9 => absurd ((nI_leI (by omega) (by omega)).mp q9) (by omega))) (fun c_15 => ?_)
    refine ex_aload_n 0 dX1_character_18 rfl rfl ?_
    refine ex_get (v := .ref (b + 1)) fl_X1_9 S.1 rfl dX1_character_19 ?_
    refine ex_iload_n 1 dX1_character_22 rfl rfl ?_
    refine exD_ld (i := i) S rfl (by omega) dX1_character_23 ?_
    refine ex_goto (tgt := 29) dX1_character_24 (by decide) ?_
    exact ex_zret hQ rfl (pk_charN (by first | exact hc _ (by omega) | decide)).1 ⟨by simp [chA, show i < len by omega], rfl, rfl⟩ dX1_character_29

set_option maxRecDepth 20000 in
set_option maxHeartbeats 2000000 in
theorem c_dueBehind {G : GG} {l : Launch} {h0 : HP} {z b : Nat} {due x : Nat} (hd : due < 4) (hx : x < 65536) : Ct G l 0 0 0 yX1_dueBehind cX1_dueBehind 3 (some .int) [.ref b, .int (nI due), .int (nI x)] h0 z (p0 (.int (nI (dueB due x))) h0 z) := by
  refine Ct.intro (lv := [(0, .ref b), (1, .int (nI due)), (2, .int (nI x))]) (by decide +kernel) (Nat.le_of_ble_eq_true rfl) rfl (fun X Q hQ hnm => ?_)
  rcases (show due = 0 ∨ due = 1 ∨ due = 2 ∨ due = 3 by omega) with rfl | rfl | rfl | rfl
  · refine ex_iload_n 1 dX1_dueBehind_0 rfl rfl ?_
    refine ex_tableIn (off := 27) (tgt := 28) dX1_dueBehind_1 (by decide) (by decide) (by decide) (by decide) ?_
    refine ex_iconst (v := nI 1) dX1_dueBehind_28 (by decide) ?_
    exact ex_iret hQ rfl ⟨by first | rfl | (simp [dueB, n_37]; done), rfl, rfl⟩ dX1_dueBehind_29
  · refine ex_iload_n 1 dX1_dueBehind_0 rfl rfl ?_
    refine ex_tableIn (off := 29) (tgt := 30) dX1_dueBehind_1 (by decide) (by decide) (by decide) (by decide) ?_
    refine ex_iconst (v := nI 2) dX1_dueBehind_30 (by decide) ?_
    exact ex_iret hQ rfl ⟨by first | rfl | (simp [dueB, n_37]; done), rfl, rfl⟩ dX1_dueBehind_31
  · refine ex_iload_n 1 dX1_dueBehind_0 rfl rfl ?_
    refine ex_tableIn (off := 31) (tgt := 32) dX1_dueBehind_1 (by decide) (by decide) (by decide) (by decide) ?_
    refine ex_iconst (v := nI 3) dX1_dueBehind_32 (by decide) ?_
    exact ex_iret hQ rfl ⟨by first | rfl | (simp [dueB, n_37]; done), rfl, rfl⟩ dX1_dueBehind_33
  · refine ex_iload_n 1 dX1_dueBehind_0 rfl rfl ?_
    refine ex_tableOut (tgt := 34) dX1_dueBehind_1 (by decide) (by decide) ?_
    refine ex_iload_n 2 dX1_dueBehind_34 rfl rfl ?_
    refine ex_bipush (v := nI 44) dX1_dueBehind_35 (by decide) ?_
    refine ex_icmp_ne (tgt := 44) dX1_dueBehind_37 (by decide) (fun c_37 => ?_) (fun c_37 => ?_)
    · have n_37 : ¬ (x = 44) := fun q9 => c_37 ((nI_eq (by omega) (by omega)).mpr q9)
      refine ex_iconst (v := nI 3) dX1_dueBehind_44 (by decide) ?_
      exact ex_iret hQ rfl ⟨by first | rfl | (simp [dueB, n_37]; done), rfl, rfl⟩ dX1_dueBehind_45
    · have n_37 : x = 44 := (nI_eq (by omega) (by omega)).mp c_37
      refine ex_iconst (v := nI 0) dX1_dueBehind_40 (by decide) ?_
      refine ex_goto (tgt := 45) dX1_dueBehind_41 (by decide) ?_
      exact ex_iret hQ rfl ⟨by first | rfl | (simp [dueB, n_37]; done), rfl, rfl⟩ dX1_dueBehind_45

set_option maxRecDepth 20000 in
set_option maxHeartbeats 2000000 in
theorem c_canStand {G : GG} {l : Launch} {h0 : HP} {z b len : Nat} {c : Nat → Nat} (S : PD G h0 h0 b len c) {due x : Nat} {s : Int32} (hd : due < 4) (hx : x < 65536) : Ct G l 1 0 0 yX1_canStand cX1_canStand 4 (some .boolean) [.ref b, .int (nI due), .int s, .int (nI x)] h0 z (p0 (.int (bI (canS due s x))) h0 z) := by
  refine Ct.intro (lv := [(0, .ref b), (1, .int (nI due)), (2, .int s), (3, .int (nI x))]) (by decide +kernel) (Nat.le_of_ble_eq_true rfl) rfl (fun X Q hQ hnm => ?_)
  rcases (show due = 0 ∨ due = 1 ∨ due = 2 ∨ due = 3 by omega) with rfl | rfl | rfl | rfl
  · refine ex_iload_n 1 dX1_canStand_0 rfl rfl ?_
    refine ex_tableIn (off := 27) (tgt := 28) dX1_canStand_1 (by decide) (by decide) (by decide) (by decide) ?_
    refine ex_iload_n 3 dX1_canStand_28 rfl rfl ?_
    refine ex_bipush (v := nI 49) dX1_canStand_29 (by decide) ?_
    refine ex_icmp_lt (tgt := 44) dX1_canStand_31 (by decide) (fun c_31 => ?_) (fun c_31 => ?_)
    · have n_31 : x < 49 := (nI_ltI (by omega) (by omega)).mp c_31
      refine ex_iconst (v := nI 0) dX1_canStand_44 (by decide) ?_
      exact ex_zret hQ rfl (by decide) ⟨by first | (simp [canS, bI, show 49 ≤ x by omega, show x ≤ 57 by omega]; done) | (simp [canS, bI, show ¬ 49 ≤ x by omega]; done) | (simp [canS, bI, show ¬ x ≤ 57 by omega]; done), rfl, rfl⟩ dX1_canStand_45
    · have n_31 : ¬ (x < 49) := fun q9 => c_31 ((nI_ltI (by omega) (by omega)).mpr q9)
      refine ex_iload_n 3 dX1_canStand_34 rfl rfl ?_
      refine ex_bipush (v := nI 57) dX1_canStand_35 (by decide) ?_
      refine ex_icmp_gt (tgt := 44) dX1_canStand_37 (by decide) (fun c_37 => ?_) (fun c_37 => ?_)
      · have n_37 : 57 < x := (nI_ltI (by omega) (by omega)).mp c_37
        refine ex_iconst (v := nI 0) dX1_canStand_44 (by decide) ?_
        exact ex_zret hQ rfl (by decide) ⟨by first | (simp [canS, bI, show 49 ≤ x by omega, show x ≤ 57 by omega]; done) | (simp [canS, bI, show ¬ 49 ≤ x by omega]; done) | (simp [canS, bI, show ¬ x ≤ 57 by omega]; done), rfl, rfl⟩ dX1_canStand_45
      · have n_37 : ¬ (57 < x) := fun q9 => c_37 ((nI_ltI (by omega) (by omega)).mpr q9)
        refine ex_iconst (v := nI 1) dX1_canStand_40 (by decide) ?_
        refine ex_goto (tgt := 45) dX1_canStand_41 (by decide) ?_
        exact ex_zret hQ rfl (by decide) ⟨by first | (simp [canS, bI, show 49 ≤ x by omega, show x ≤ 57 by omega]; done) | (simp [canS, bI, show ¬ 49 ≤ x by omega]; done) | (simp [canS, bI, show ¬ x ≤ 57 by omega]; done), rfl, rfl⟩ dX1_canStand_45
  · refine ex_iload_n 1 dX1_canStand_0 rfl rfl ?_
    refine ex_tableIn (off := 45) (tgt := 46) dX1_canStand_1 (by decide) (by decide) (by decide) (by decide) ?_
    refine ex_iload_n 3 dX1_canStand_46 rfl rfl ?_
    refine ex_bipush (v := nI 102) dX1_canStand_47 (by decide) ?_
    refine ex_icmp_ne (tgt := 56) dX1_canStand_49 (by decide) (fun c_49 => ?_) (fun c_49 => ?_)
    · have n_49 : ¬ (x = 102) := fun q9 => c_49 ((nI_eq (by omega) (by omega)).mpr q9)
      refine ex_iconst (v := nI 0) dX1_canStand_56 (by decide) ?_
      exact ex_zret hQ rfl (by decide) ⟨by first | (simp [canS, bI, show x = 102 by omega]; done) | (simp [canS, bI, show ¬ x = 102 by omega]; done), rfl, rfl⟩ dX1_canStand_57
    · have n_49 : x = 102 := (nI_eq (by omega) (by omega)).mp c_49
      refine ex_iconst (v := nI 1) dX1_canStand_52 (by decide) ?_
      refine ex_goto (tgt := 57) dX1_canStand_53 (by decide) ?_
      exact ex_zret hQ rfl (by decide) ⟨by first | (simp [canS, bI, show x = 102 by omega]; done) | (simp [canS, bI, show ¬ x = 102 by omega]; done), rfl, rfl⟩ dX1_canStand_57
  · refine ex_iload_n 1 dX1_canStand_0 rfl rfl ?_
    refine ex_tableIn (off := 57) (tgt := 58) dX1_canStand_1 (by decide) (by decide) (by decide) (by decide) ?_
    refine ex_aload_n 0 dX1_canStand_58 rfl rfl ?_
    refine ex_iload_n 3 dX1_canStand_59 rfl rfl ?_
    refine ex_call0 (As := [.int (nI x)]) (v := .int (bI (dI x))) (ci := 1) vl_X1_27 rfl (c_isDigit (by omega)) S.1 rfl (by decide) (Nat.le_of_ble_eq_true rfl) (Nat.le_refl _) (Nat.le_refl _) rfl dX1_canStand_60 ?_
    exact ex_zret hQ rfl (by cases dI x <;> decide) ⟨rfl, rfl, rfl⟩ dX1_canStand_63
  · refine ex_iload_n 1 dX1_canStand_0 rfl rfl ?_
    refine ex_tableOut (tgt := 64) dX1_canStand_1 (by decide) (by decide) ?_
    refine ex_iload_n 3 dX1_canStand_64 rfl rfl ?_
    refine ex_bipush (v := nI 44) dX1_canStand_65 (by decide) ?_
    refine ex_icmp_eq (tgt := 93) dX1_canStand_67 (by decide) (fun c_67 => ?_) (fun c_67 => ?_)
    · have n_67 : x = 44 := (nI_eq (by omega) (by omega)).mp c_67
      refine ex_iconst (v := nI 1) dX1_canStand_93 (by decide) ?_
      refine ex_goto (tgt := 98) dX1_canStand_94 (by decide) ?_
      exact ex_zret hQ rfl (by decide) ⟨by first | (simp [canS, bI, n_67]; done) | (simp [canS, bI, n_67, bI_0 c_75]; done) | (simp [canS, bI, n_67, bI_1 c_75, Int32.not_lt.mpr c_79]; done) | (simp [canS, bI, n_67, bI_1 c_75, Int32.not_le.mp c_79, Int32.not_le.mpr c_90]; done) | (simp [canS, bI, n_67, bI_1 c_75, Int32.not_le.mp c_79, Int32.not_lt.mp c_90]; done), rfl, rfl⟩ dX1_canStand_98
    · have n_67 : ¬ (x = 44) := fun q9 => c_67 ((nI_eq (by omega) (by omega)).mpr q9)
      refine ex_aload_n 0 dX1_canStand_70 rfl rfl ?_
      refine ex_iload_n 3 dX1_canStand_71 rfl rfl ?_
      refine ex_call0 (As := [.int (nI x)]) (v := .int (bI (dI x))) (ci := 1) vl_X1_27 rfl (c_isDigit (by omega)) S.1 rfl (by decide) (Nat.le_of_ble_eq_true rfl) (Nat.le_refl _) (Nat.le_refl _) rfl dX1_canStand_72 ?_
      refine ex_if_eq (tgt := 97) dX1_canStand_75 (by decide) (fun c_75 => ?_) (fun c_75 => ?_)
      · refine ex_iconst (v := nI 0) dX1_canStand_97 (by decide) ?_
        exact ex_zret hQ rfl (by decide) ⟨by first | (simp [canS, bI, n_67]; done) | (simp [canS, bI, n_67, bI_0 c_75]; done) | (simp [canS, bI, n_67, bI_1 c_75, Int32.not_lt.mpr c_79]; done) | (simp [canS, bI, n_67, bI_1 c_75, Int32.not_le.mp c_79, Int32.not_le.mpr c_90]; done) | (simp [canS, bI, n_67, bI_1 c_75, Int32.not_le.mp c_79, Int32.not_lt.mp c_90]; done), rfl, rfl⟩ dX1_canStand_98
      · refine ex_iload_n 2 dX1_canStand_78 rfl rfl ?_
        refine ex_if_le (tgt := 97) dX1_canStand_79 (by decide) (fun c_79 => ?_) (fun c_79 => ?_)
        · refine ex_iconst (v := nI 0) dX1_canStand_97 (by decide) ?_
          exact ex_zret hQ rfl (by decide) ⟨by first | (simp [canS, bI, n_67]; done) | (simp [canS, bI, n_67, bI_0 c_75]; done) | (simp [canS, bI, n_67, bI_1 c_75, Int32.not_lt.mpr c_79]; done) | (simp [canS, bI, n_67, bI_1 c_75, Int32.not_le.mp c_79, Int32.not_le.mpr c_90]; done) | (simp [canS, bI, n_67, bI_1 c_75, Int32.not_le.mp c_79, Int32.not_lt.mp c_90]; done), rfl, rfl⟩ dX1_canStand_98
        · refine ex_aload_n 0 dX1_canStand_82 rfl rfl ?_
          refine ex_iload_n 2 dX1_canStand_83 rfl rfl ?_
          refine ex_iload_n 3 dX1_canStand_84 rfl rfl ?_
          refine ex_call0 (As := [.int s, .int (nI x)]) (v := .int (shW s x)) (ci := 1) vl_X1_31 rfl (c_shareWith) S.1 rfl (by decide) (Nat.le_of_ble_eq_true rfl) (Nat.le_refl _) (Nat.le_refl _) rfl dX1_canStand_85 ?_
          refine ex_bipush (v := nI 100) dX1_canStand_88 (by decide) ?_
          refine ex_icmp_gt (tgt := 97) dX1_canStand_90 (by decide) (fun c_90 => ?_) (fun c_90 => ?_)
          · refine ex_iconst (v := nI 0) dX1_canStand_97 (by decide) ?_
            exact ex_zret hQ rfl (by decide) ⟨by first | (simp [canS, bI, n_67]; done) | (simp [canS, bI, n_67, bI_0 c_75]; done) | (simp [canS, bI, n_67, bI_1 c_75, Int32.not_lt.mpr c_79]; done) | (simp [canS, bI, n_67, bI_1 c_75, Int32.not_le.mp c_79, Int32.not_le.mpr c_90]; done) | (simp [canS, bI, n_67, bI_1 c_75, Int32.not_le.mp c_79, Int32.not_lt.mp c_90]; done), rfl, rfl⟩ dX1_canStand_98
          · refine ex_iconst (v := nI 1) dX1_canStand_93 (by decide) ?_
            refine ex_goto (tgt := 98) dX1_canStand_94 (by decide) ?_
            exact ex_zret hQ rfl (by decide) ⟨by first | (simp [canS, bI, n_67]; done) | (simp [canS, bI, n_67, bI_0 c_75]; done) | (simp [canS, bI, n_67, bI_1 c_75, Int32.not_lt.mpr c_79]; done) | (simp [canS, bI, n_67, bI_1 c_75, Int32.not_le.mp c_79, Int32.not_le.mpr c_90]; done) | (simp [canS, bI, n_67, bI_1 c_75, Int32.not_le.mp c_79, Int32.not_lt.mp c_90]; done), rfl, rfl⟩ dX1_canStand_98

theorem dueB_lt {due x : Nat} : dueB due x < 4 := by
  unfold dueB
  split <;> (try split) <;> omega

def ffV (r : Option Nat) : Int32 := gv r

set_option maxRecDepth 20000 in
set_option maxHeartbeats 2000000 in
theorem c_firstFault {G : GG} {l : Launch} {h0 : HP} {z b len : Nat} {c : Nat → Nat} (S : PD G h0 h0 b len c) (hc : ∀ i, i < len → c i < 65536) : Ct G l 2 0 0 yX1_firstFault cX1_firstFault 5 (some .int) [.ref b] h0 z (p0 (.int (ffV (ffA len c))) h0 z) := by
  refine Ct.intro (lv := [(0, .ref b)]) (by decide +kernel) (Nat.le_of_ble_eq_true rfl) rfl (fun X Q hQ hnm => ?_)
  have l60 : len ≤ 60 := S.2.2.1
  refine ex_iconst (v := nI 0) dX1_firstFault_0 (by decide) ?_
  refine ex_istore_n (lv' := [(1, .int (nI 0)), (0, .ref b)]) dX1_firstFault_1 rfl (by decide) rfl ?_
  refine ex_iconst (v := nI 0) dX1_firstFault_2 (by decide) ?_
  refine ex_istore_n (lv' := [(2, .int (nI 0)), (1, .int (nI 0)), (0, .ref b)]) dX1_firstFault_3 rfl (by decide) rfl ?_
  refine ex_iconst (v := nI 0) dX1_firstFault_4 (by decide) ?_
  refine ex_istore_n (lv' := [(3, .int (nI 0)), (2, .int (nI 0)), (1, .int (nI 0)), (0, .ref b)]) dX1_firstFault_5 rfl (by decide) rfl ?_
  suffices H : ∀ (k i due : Nat) (s : Int32), i + k = len → due < 4 → ffG len c k i due s = ffA len c → ex G l X Q 2 0 0 0 0 cX1_firstFault yX1_firstFault.cls 5 (some .int) h0 z 6 [(3, .int (nI i)), (2, .int s), (1, .int (nI due)), (0, .ref b)] [] from by
    have e2 := H len 0 0 (nI 0) (by omega) (by omega) rfl
    refine ex_lv (lv2 := [(3, .int (nI 0)), (2, .int (nI 0)), (1, .int (nI 0)), (0, .ref b)]) [0, 1, 2, 3] rfl ?_
    exact e2
  intro k
  induction k with
  | zero =>
    intro i due s hi hd hh
    refine ex_iload_n 0 dX1_firstFault_6 rfl rfl ?_
    refine ex_aload_n 3 dX1_firstFault_7 rfl rfl ?_
    refine ex_get (v := .int (nI len)) fl_X1_15 S.1 rfl dX1_firstFault_8 ?_
    refine ex_icmp_ge (tgt := 73) dX1_firstFault_11 (by decide) (fun c_11 => ?_) (fun c_11 => absurd ((nI_leI (by omega) (by omega)).mpr (by omega)) c_11)
    refine ex_iload_n 2 dX1_firstFault_73 rfl rfl ?_
    refine ex_iconst (v := nI 3) dX1_firstFault_74 (by decide) ?_
    refine ex_icmp_ne (tgt := 83) dX1_firstFault_75 (by decide) (fun c_75 => ?_) (fun c_75 => ?_)
    · have n_75 : ¬ (due = 3) := fun q9 => c_75 ((nI_eq (by omega) (by omega)).mpr q9)
      refine ex_aload_n 3 dX1_firstFault_83 rfl rfl ?_
      refine ex_get (v := .int (nI len)) fl_X1_15 S.1 rfl dX1_firstFault_84 ?_
      exact ex_iret hQ rfl ⟨by rw [← hh]; first | (simp [ffG, n_75, ffV, gv]; done), rfl, rfl⟩ dX1_firstFault_87
    · have n_75 : due = 3 := (nI_eq (by omega) (by omega)).mp c_75
      refine ex_bipush (v := (-6)) dX1_firstFault_78 (by decide) ?_
      refine ex_goto (tgt := 87) dX1_firstFault_80 (by decide) ?_
      exact ex_iret hQ rfl ⟨by rw [← hh]; first | (simp [ffG, n_75, ffV, gv]; done), rfl, rfl⟩ dX1_firstFault_87
  | succ k ih =>
    intro i due s hi hd hh
    have hx : chA len c i = c i := by simp [chA, show i < len by omega]
    have hx2 : chA len c i < 65536 := by rw [hx]; exact hc i (by omega)
    refine ex_iload_n 0 dX1_firstFault_6 rfl rfl ?_
    refine ex_aload_n 3 dX1_firstFault_7 rfl rfl ?_
    refine ex_get (v := .int (nI len)) fl_X1_15 S.1 rfl dX1_firstFault_8 ?_
    refine ex_icmp_ge (tgt := 73) dX1_firstFault_11 (by decide) (fun c_11 => absurd c_11 (fun q9 => absurd ((nI_leI (by omega) (by omega)).mp q9) (by omega))) (fun c_11 => ?_)
    refine ex_aload_n 3 dX1_firstFault_14 rfl rfl ?_
    refine ex_iload_n 0 dX1_firstFault_15 rfl rfl ?_
    refine ex_call0 (As := [.int (nI i)]) (v := .int (nI (chA len c i))) (ci := 1) vl_X1_19 rfl (c_char S hc (by omega)) S.1 rfl (by decide) (Nat.le_of_ble_eq_true rfl) (Nat.le_refl _) (Nat.le_refl _) rfl dX1_firstFault_16 ?_
    refine ex_istore (lv' := [(4, .int (nI (chA len c i))), (3, .int (nI i)), (2, .int s), (1, .int (nI due)), (0, .ref b)]) dX1_firstFault_19 (by decide) rfl ?_
    refine ex_aload_n 4 dX1_firstFault_21 rfl rfl ?_
    refine ex_iload_n 3 dX1_firstFault_22 rfl rfl ?_
    refine ex_iload_n 2 dX1_firstFault_23 rfl rfl ?_
    refine ex_iload 0 dX1_firstFault_24 rfl ?_
    refine ex_call0 (As := [.int (nI due), .int s, .int (nI (chA len c i))]) (v := .int (bI (canS due s (chA len c i)))) (ci := 1) vl_X1_23 rfl (c_canStand S (by omega) (by omega)) S.1 rfl (by decide) (Nat.le_of_ble_eq_true rfl) (Nat.le_refl _) (Nat.le_refl _) rfl dX1_firstFault_26 ?_
    refine ex_if_ne (tgt := 34) dX1_firstFault_29 (by decide) (fun c_29 => ?_) (fun c_29 => ?_)
    · refine ex_iload_n 3 dX1_firstFault_34 rfl rfl ?_
      refine ex_if_eq (tgt := 57) dX1_firstFault_35 (by decide) (fun c_35 => ?_) (fun c_35 => ?_)
      · have n_35 : due = 0 := (nI_eq (b := 0) (by omega) (by omega)).mp c_35
        refine ex_iconst (v := nI 0) dX1_firstFault_57 (by decide) ?_
        refine ex_istore_n (lv' := [(2, .int (nI 0)), (4, .int (nI (chA len c i))), (3, .int (nI i)), (1, .int (nI due)), (0, .ref b)]) dX1_firstFault_58 rfl (by decide) rfl ?_
        refine ex_aload_n 4 dX1_firstFault_59 rfl rfl ?_
        refine ex_iload_n 3 dX1_firstFault_60 rfl rfl ?_
        refine ex_iload 1 dX1_firstFault_61 rfl ?_
        refine ex_call0 (As := [.int (nI due), .int (nI (chA len c i))]) (v := .int (nI (dueB due (chA len c i)))) (ci := 1) vl_X1_35 rfl (c_dueBehind (by omega) (by omega)) S.1 rfl (by decide) (Nat.le_of_ble_eq_true rfl) (Nat.le_refl _) (Nat.le_refl _) rfl dX1_firstFault_63 ?_
        refine ex_istore_n (lv' := [(1, .int (nI (dueB due (chA len c i)))), (2, .int (nI 0)), (4, .int (nI (chA len c i))), (3, .int (nI i)), (0, .ref b)]) dX1_firstFault_66 rfl (by decide) rfl ?_
        refine ex_iinc (v := nI (i + 1)) (lv' := [(3, .int (nI (i + 1))), (1, .int (nI (dueB due (chA len c i)))), (2, .int (nI 0)), (4, .int (nI (chA len c i))), (0, .ref b)]) 3 dX1_firstFault_67 rfl (nI_1 i) (by decide) rfl ?_
        refine ex_goto (tgt := 6) dX1_firstFault_70 (by decide) ?_
        have hs9 : (if due ≠ 0 ∧ dI (c i) = true then shW s (c i) else nI 0) = nI 0 := by
          rw [← hx]
          first | (simp [n_35, bI_1 c_44]; done) | (simp [n_35, bI_0 c_44]; done) | (simp [n_35]; done)
        have e2 := ih (i + 1) (dueB due (chA len c i)) (nI 0) (by omega) dueB_lt (by rw [← hh, ffG, if_pos (by rw [← hx]; exact bI_1 c_29), hs9, hx])
        refine ex_lv (lv2 := [(3, .int (nI (i + 1))), (2, .int (nI 0)), (1, .int (nI (dueB due (chA len c i)))), (0, .ref b)]) [0, 2, 1, 4] rfl ?_
        exact e2
      · have n_35 : ¬ (due = 0) := fun q9 => c_35 ((nI_eq (b := 0) (by omega) (by omega)).mpr q9)
        refine ex_aload_n 4 dX1_firstFault_38 rfl rfl ?_
        refine ex_iload 0 dX1_firstFault_39 rfl ?_
        refine ex_call0 (As := [.int (nI (chA len c i))]) (v := .int (bI (dI (chA len c i)))) (ci := 1) vl_X1_27 rfl (c_isDigit (by omega)) S.1 rfl (by decide) (Nat.le_of_ble_eq_true rfl) (Nat.le_refl _) (Nat.le_refl _) rfl dX1_firstFault_41 ?_
        refine ex_if_eq (tgt := 57) dX1_firstFault_44 (by decide) (fun c_44 => ?_) (fun c_44 => ?_)
        · refine ex_iconst (v := nI 0) dX1_firstFault_57 (by decide) ?_
          refine ex_istore_n (lv' := [(2, .int (nI 0)), (4, .int (nI (chA len c i))), (3, .int (nI i)), (1, .int (nI due)), (0, .ref b)]) dX1_firstFault_58 rfl (by decide) rfl ?_
          refine ex_aload_n 4 dX1_firstFault_59 rfl rfl ?_
          refine ex_iload_n 3 dX1_firstFault_60 rfl rfl ?_
          refine ex_iload 1 dX1_firstFault_61 rfl ?_
          refine ex_call0 (As := [.int (nI due), .int (nI (chA len c i))]) (v := .int (nI (dueB due (chA len c i)))) (ci := 1) vl_X1_35 rfl (c_dueBehind (by omega) (by omega)) S.1 rfl (by decide) (Nat.le_of_ble_eq_true rfl) (Nat.le_refl _) (Nat.le_refl _) rfl dX1_firstFault_63 ?_
          refine ex_istore_n (lv' := [(1, .int (nI (dueB due (chA len c i)))), (2, .int (nI 0)), (4, .int (nI (chA len c i))), (3, .int (nI i)), (0, .ref b)]) dX1_firstFault_66 rfl (by decide) rfl ?_
          refine ex_iinc (v := nI (i + 1)) (lv' := [(3, .int (nI (i + 1))), (1, .int (nI (dueB due (chA len c i)))), (2, .int (nI 0)), (4, .int (nI (chA len c i))), (0, .ref b)]) 3 dX1_firstFault_67 rfl (nI_1 i) (by decide) rfl ?_
          refine ex_goto (tgt := 6) dX1_firstFault_70 (by decide) ?_
          have hs9 : (if due ≠ 0 ∧ dI (c i) = true then shW s (c i) else nI 0) = nI 0 := by
            rw [← hx]
            first | (simp [n_35, bI_1 c_44]; done) | (simp [n_35, bI_0 c_44]; done) | (simp [n_35]; done)
          have e2 := ih (i + 1) (dueB due (chA len c i)) (nI 0) (by omega) dueB_lt (by rw [← hh, ffG, if_pos (by rw [← hx]; exact bI_1 c_29), hs9, hx])
          refine ex_lv (lv2 := [(3, .int (nI (i + 1))), (2, .int (nI 0)), (1, .int (nI (dueB due (chA len c i)))), (0, .ref b)]) [0, 2, 1, 4] rfl ?_
          exact e2
        · refine ex_aload_n 4 dX1_firstFault_47 rfl rfl ?_
          refine ex_iload_n 2 dX1_firstFault_48 rfl rfl ?_
          refine ex_iload 0 dX1_firstFault_49 rfl ?_
          refine ex_call0 (As := [.int s, .int (nI (chA len c i))]) (v := .int (shW s (chA len c i))) (ci := 1) vl_X1_31 rfl (c_shareWith) S.1 rfl (by decide) (Nat.le_of_ble_eq_true rfl) (Nat.le_refl _) (Nat.le_refl _) rfl dX1_firstFault_51 ?_
          refine ex_goto (tgt := 58) dX1_firstFault_54 (by decide) ?_
          refine ex_istore_n (lv' := [(2, .int (shW s (chA len c i))), (4, .int (nI (chA len c i))), (3, .int (nI i)), (1, .int (nI due)), (0, .ref b)]) dX1_firstFault_58 rfl (by decide) rfl ?_
          refine ex_aload_n 4 dX1_firstFault_59 rfl rfl ?_
          refine ex_iload_n 3 dX1_firstFault_60 rfl rfl ?_
          refine ex_iload 1 dX1_firstFault_61 rfl ?_
          refine ex_call0 (As := [.int (nI due), .int (nI (chA len c i))]) (v := .int (nI (dueB due (chA len c i)))) (ci := 1) vl_X1_35 rfl (c_dueBehind (by omega) (by omega)) S.1 rfl (by decide) (Nat.le_of_ble_eq_true rfl) (Nat.le_refl _) (Nat.le_refl _) rfl dX1_firstFault_63 ?_
          refine ex_istore_n (lv' := [(1, .int (nI (dueB due (chA len c i)))), (2, .int (shW s (chA len c i))), (4, .int (nI (chA len c i))), (3, .int (nI i)), (0, .ref b)]) dX1_firstFault_66 rfl (by decide) rfl ?_
          refine ex_iinc (v := nI (i + 1)) (lv' := [(3, .int (nI (i + 1))), (1, .int (nI (dueB due (chA len c i)))), (2, .int (shW s (chA len c i))), (4, .int (nI (chA len c i))), (0, .ref b)]) 3 dX1_firstFault_67 rfl (nI_1 i) (by decide) rfl ?_
          refine ex_goto (tgt := 6) dX1_firstFault_70 (by decide) ?_
          have hs9 : (if due ≠ 0 ∧ dI (c i) = true then shW s (c i) else nI 0) = shW s (chA len c i) := by
            rw [← hx]
            first | (simp [n_35, bI_1 c_44]; done) | (simp [n_35, bI_0 c_44]; done) | (simp [n_35]; done)
          have e2 := ih (i + 1) (dueB due (chA len c i)) (shW s (chA len c i)) (by omega) dueB_lt (by rw [← hh, ffG, if_pos (by rw [← hx]; exact bI_1 c_29), hs9, hx])
          refine ex_lv (lv2 := [(3, .int (nI (i + 1))), (2, .int (shW s (chA len c i))), (1, .int (nI (dueB due (chA len c i)))), (0, .ref b)]) [0, 2, 1, 4] rfl ?_
          exact e2
    · refine ex_iload_n 1 dX1_firstFault_32 rfl rfl ?_
      exact ex_iret hQ rfl ⟨by rw [← hh, ffG, if_neg (by rw [← hx, bI_0 c_29]; decide)]; rfl, rfl, rfl⟩ dX1_firstFault_33

set_option maxRecDepth 20000 in
set_option maxHeartbeats 2000000 in
theorem c_people {G : GG} {l : Launch} {h0 : HP} {z b len : Nat} {c : Nat → Nat} (S : PD G h0 h0 b len c) (hc : ∀ i, i < len → c i < 65536) : Ct G l 1 0 0 yX1_people cX1_people 3 (some .int) [.ref b] h0 z (p0 (.int (nI (1 + cms c len))) h0 z) := by
  refine Ct.intro (lv := [(0, .ref b)]) (by decide +kernel) (Nat.le_of_ble_eq_true rfl) rfl (fun X Q hQ hnm => ?_)
  have l60 : len ≤ 60 := S.2.2.1
  refine ex_iconst (v := nI 1) dX1_people_0 (by decide) ?_
  refine ex_istore_n (lv' := [(1, .int (nI 1)), (0, .ref b)]) dX1_people_1 rfl (by decide) rfl ?_
  refine ex_iconst (v := nI 0) dX1_people_2 (by decide) ?_
  refine ex_istore_n (lv' := [(2, .int (nI 0)), (1, .int (nI 1)), (0, .ref b)]) dX1_people_3 rfl (by decide) rfl ?_
  suffices H : ∀ (k m : Nat), m + k = len → ex G l X Q 1 0 0 0 0 cX1_people yX1_people.cls 3 (some .int) h0 z 4 [(2, .int (nI m)), (1, .int (nI (1 + cms c m))), (0, .ref b)] [] from by
    have e2 := H len 0 (by omega)
    refine ex_lv (lv2 := [(2, .int (nI 0)), (1, .int (nI (1 + cms c 0))), (0, .ref b)]) [0, 1, 2] rfl ?_
    exact e2
  intro k
  induction k with
  | zero =>
    intro m hm
    refine ex_iload_n 0 dX1_people_4 rfl rfl ?_
    refine ex_aload_n 2 dX1_people_5 rfl rfl ?_
    refine ex_get (v := .int (nI len)) fl_X1_15 S.1 rfl dX1_people_6 ?_
    refine ex_icmp_ge (tgt := 31) dX1_people_9 (by decide) (fun c_9 => ?_) (fun c_9 => absurd ((nI_leI (by omega) (by omega)).mpr (by omega)) c_9)
    refine ex_iload_n 1 dX1_people_31 rfl rfl ?_
    exact ex_iret hQ rfl ⟨by rw [show m = len by omega], rfl, rfl⟩ dX1_people_32
  | succ k ih =>
    intro m hm
    have hx : chA len c m = c m := by simp [chA, show m < len by omega]
    have hx2 : chA len c m < 65536 := by rw [hx]; exact hc m (by omega)
    refine ex_iload_n 0 dX1_people_4 rfl rfl ?_
    refine ex_aload_n 2 dX1_people_5 rfl rfl ?_
    refine ex_get (v := .int (nI len)) fl_X1_15 S.1 rfl dX1_people_6 ?_
    refine ex_icmp_ge (tgt := 31) dX1_people_9 (by decide) (fun c_9 => absurd c_9 (fun q9 => absurd ((nI_leI (by omega) (by omega)).mp q9) (by omega))) (fun c_9 => ?_)
    refine ex_aload_n 2 dX1_people_12 rfl rfl ?_
    refine ex_iload_n 0 dX1_people_13 rfl rfl ?_
    refine ex_call0 (As := [.int (nI m)]) (v := .int (nI (chA len c m))) (ci := 1) vl_X1_19 rfl (c_char S hc (by omega)) S.1 rfl (by decide) (Nat.le_of_ble_eq_true rfl) (Nat.le_refl _) (Nat.le_refl _) rfl dX1_people_14 ?_
    refine ex_bipush (v := nI 44) dX1_people_17 (by decide) ?_
    refine ex_icmp_ne (tgt := 25) dX1_people_19 (by decide) (fun c_19 => ?_) (fun c_19 => ?_)
    · have n_19 : ¬ ((chA len c m) = 44) := fun q9 => c_19 ((nI_eq (by omega) (by omega)).mpr q9)
      refine ex_iinc (v := nI (m + 1)) (lv' := [(2, .int (nI (m + 1))), (1, .int (nI (1 + cms c m))), (0, .ref b)]) 0 dX1_people_25 rfl (nI_1 m) (by decide) rfl ?_
      refine ex_goto (tgt := 4) dX1_people_28 (by decide) ?_
      have e1 : 1 + cms c (m + 1) = 1 + cms c m := by first | (rw [cms, if_pos (by rw [← hx]; exact n_19)]; omega) | (rw [cms, if_neg (by rw [← hx]; exact n_19)])
      have e2 := ih (m + 1) (by omega)
      rw [e1] at e2
      refine ex_lv (lv2 := [(2, .int (nI (m + 1))), (1, .int (nI (1 + cms c m))), (0, .ref b)]) [0, 1, 2] rfl ?_
      exact e2
    · have n_19 : (chA len c m) = 44 := (nI_eq (by omega) (by omega)).mp c_19
      refine ex_iinc (v := nI (1 + cms c m + 1)) (lv' := [(1, .int (nI (1 + cms c m + 1))), (2, .int (nI m)), (0, .ref b)]) 1 dX1_people_22 rfl (nI_1 (1 + cms c m)) (by decide) rfl ?_
      refine ex_iinc (v := nI (m + 1)) (lv' := [(2, .int (nI (m + 1))), (1, .int (nI (1 + cms c m + 1))), (0, .ref b)]) 1 dX1_people_25 rfl (nI_1 m) (by decide) rfl ?_
      refine ex_goto (tgt := 4) dX1_people_28 (by decide) ?_
      have e1 : 1 + cms c (m + 1) = 1 + cms c m + 1 := by first | (rw [cms, if_pos (by rw [← hx]; exact n_19)]; omega) | (rw [cms, if_neg (by rw [← hx]; exact n_19)])
      have e2 := ih (m + 1) (by omega)
      rw [e1] at e2
      refine ex_lv (lv2 := [(2, .int (nI (m + 1))), (1, .int (nI (1 + cms c m + 1))), (0, .ref b)]) [0, 1, 2] rfl ?_
      exact e2

set_option maxRecDepth 20000 in
set_option maxHeartbeats 2000000 in
theorem c_append {G : GG} {l : Launch} {h0 : HP} {z b len : Nat} {c : Nat → Nat} (S : PD G h0 h0 b len c) {v : Nat} (hv : v < 65536) (hl : len < 60) : Ct G l 0 0 0 yX1_append cX1_append 2 none [.ref b, .int (nI v)] h0 z (fun r h1 z1 => r = none ∧ z1 = z ∧ PD G h0 h1 b (len + 1) (fun i => if i = len then v else c i)) := by
  refine Ct.intro (lv := [(0, .ref b), (1, .int (nI v))]) (by decide +kernel) (Nat.le_of_ble_eq_true rfl) rfl (fun X Q hQ hnm => ?_)
  refine ex_aload_n 0 dX1_append_0 rfl rfl ?_
  refine ex_get (v := .int (nI len)) fl_X1_15 S.1 rfl dX1_append_1 ?_
  refine ex_if_lt (tgt := 36) dX1_append_4 (by decide) (fun c_4 => absurd c_4 (nI_pos (by omega))) (fun c_4 => ?_)
  refine ex_aload_n 0 dX1_append_7 rfl rfl ?_
  refine ex_get (v := .int (nI len)) fl_X1_15 S.1 rfl dX1_append_8 ?_
  refine ex_bipush (v := nI 60) dX1_append_11 (by decide) ?_
  refine ex_icmp_ge (tgt := 36) dX1_append_13 (by decide) (fun c_13 => absurd c_13 (fun q9 => absurd ((nI_leI (by omega) (by omega)).mp q9) (by omega))) (fun c_13 => ?_)
  refine ex_aload_n 0 dX1_append_16 rfl rfl ?_
  refine ex_get (v := .ref (b + 1)) fl_X1_9 S.1 rfl dX1_append_17 ?_
  refine ex_aload_n 0 dX1_append_20 rfl rfl ?_
  refine ex_get (v := .int (nI len)) fl_X1_15 S.1 rfl dX1_append_21 ?_
  refine ex_iload_n 1 dX1_append_24 rfl rfl ?_
  obtain ⟨f, hf, hf2⟩ := S.2.1
  refine ex_cast hf rfl (show len < 60 by omega) (by decide) dX1_append_25 ?_
  refine ex_aload_n 0 dX1_append_26 rfl rfl ?_
  refine ex_dup dX1_append_27 rfl ?_
  refine ex_get (v := .int (nI len)) fl_X1_15 (by rw [hu_n (by omega)]; exact S.1) rfl dX1_append_28 ?_
  refine ex_iconst (v := nI 1) dX1_append_31 (by decide) ?_
  refine ex_iaddN dX1_append_32 ?_
  refine ex_put fl_X1_15 (by rw [hu_n (by omega)]; exact S.1) rfl rfl (Nat.le_of_ble_eq_true rfl) dX1_append_33 ?_
  exact ex_vret hQ rfl ⟨rfl, rfl, S.app hf hv hl⟩ dX1_append_36
end
section
set_option maxRecDepth 20000 in
set_option maxHeartbeats 2000000 in
theorem c_admitF {G : GG} {l : Launch} {h0 : HP} {z o : Nat} {π : Nat → Nat} {n : Nat} {g : Option Nat} {t : Nat} {u : Nat → Int32} {q : Nat → Nat → Int32} (S0 : SP G h0 o π (n, g, t, u, q)) (h8 : ¬ n < 8) (n8 : n ≤ 8) {x y : Int32} : Ct G l 1 0 0 yX3_admit cX3_admit 4 none [.ref o, .int x, .int y] h0 z (pS G none h0 z o π (n, g, t, u, q)) := by
  refine Ct.intro (lv := [(0, .ref o), (1, .int x), (2, .int y)]) (by decide +kernel) (Nat.le_of_ble_eq_true rfl) rfl (fun X Q hQ hnm => ?_)
  have S := S0.sf
  refine ex_aload_n 0 dX3_admit_0 rfl rfl ?_
  refine ex_get (v := .int (nI n)) fl_X3_29 S.ob rfl dX3_admit_1 ?_
  refine ex_bipush (v := nI 8) dX3_admit_4 (by decide) ?_
  refine ex_icmp_lt (tgt := 10) dX3_admit_6 (by decide) (fun c_6 => absurd c_6 (fun q9 => absurd ((nI_ltI (by omega) (by omega)).mp q9) h8)) (fun c_6 => ?_)
  exact ex_vret hQ rfl ⟨rfl, rfl, S⟩ dX3_admit_9

theorem Ct.mono {G : GG} {l : Launch} {d mc ms : Nat} {y : MethodName} {cc : ByteArray} {nL : Nat} {ret : Option FieldType} {as : List Value} {h : HP} {z : Nat} {p1 p2 : Option Value → HP → Nat → Prop} (e : p1 = p2) (C : Ct G l d mc ms y cc nL ret as h z p1) : Ct G l d mc ms y cc nL ret as h z p2 := e ▸ C
theorem c_adm8 {G : GG} {l : Launch} {h0 : HP} {z o : Nat} {π : Nat → Nat} {A : AS} (S0 : SP G h0 o π A) (n8 : A.1 ≤ 8) {x y : Int32} : Ct G l 1 0 0 yX3_admit cX3_admit 4 none [.ref o, .int x, .int y] h0 z (pS G none h0 z o π (adm8 A x y)) := by
  obtain ⟨n, g, t, u, q⟩ := A
  unfold adm8
  split
  · rename_i h
    exact c_admit S0 h
  · rename_i h
    exact c_admitF S0 h n8

set_option maxRecDepth 20000 in
set_option maxHeartbeats 2000000 in
theorem c_admitPeople {G : GG} {l : Launch} {h0 : HP} {z b len o : Nat} {c : Nat → Nat} {π : Nat → Nat} {A : AS} (S0 : PD G h0 h0 b len c) (hc : ∀ i, i < len → c i < 65536) (T : SP G h0 o π A) (hap : b + 2 ≤ o ∨ o + 11 ≤ b) (n8 : A.1 ≤ 8) : Ct G l 2 0 0 yX1_admitPeopleTo cX1_admitPeopleTo 6 none [.ref b, .ref o] h0 z (pS G none h0 z o π (apG len c (len + 1) 0 (nI 0) (nI 0) A)) := by
  refine Ct.intro (lv := [(0, .ref b), (1, .ref o)]) (by decide +kernel) (Nat.le_of_ble_eq_true rfl) rfl (fun X Q hQ hnm => ?_)
  have l60 : len ≤ 60 := S0.2.2.1
  refine ex_iconst (v := nI 0) dX1_admitPeopleTo_0 (by decide) ?_
  refine ex_istore_n (lv' := [(2, .int (nI 0)), (0, .ref b), (1, .ref o)]) dX1_admitPeopleTo_1 rfl (by decide) rfl ?_
  refine ex_iconst (v := nI 0) dX1_admitPeopleTo_2 (by decide) ?_
  refine ex_istore_n (lv' := [(3, .int (nI 0)), (2, .int (nI 0)), (0, .ref b), (1, .ref o)]) dX1_admitPeopleTo_3 rfl (by decide) rfl ?_
  refine ex_iconst (v := nI 0) dX1_admitPeopleTo_4 (by decide) ?_
  refine ex_istore (lv' := [(4, .int (nI 0)), (3, .int (nI 0)), (2, .int (nI 0)), (0, .ref b), (1, .ref o)]) dX1_admitPeopleTo_5 (by decide) rfl ?_
  suffices H : ∀ (k i : Nat) (w s : Int32) (h : HP) (B : AS), i + k = len + 1 → B.1 ≤ 8 → SF G h0 h o π B → apG len c k i w s B = apG len c (len + 1) 0 (nI 0) (nI 0) A → ex G l X Q 2 0 0 0 0 cX1_admitPeopleTo yX1_admitPeopleTo.cls 6 none h z 7 [(4, .int (nI i)), (3, .int s), (2, .int w), (1, .ref o), (0, .ref b)] [] from by
    have e2 := H (len + 1) 0 (nI 0) (nI 0) h0 A (by omega) n8 T.sf rfl
    refine ex_lv (lv2 := [(4, .int (nI 0)), (3, .int (nI 0)), (2, .int (nI 0)), (1, .ref o), (0, .ref b)]) [0, 1, 2, 4, 3] rfl ?_
    exact e2
  intro k
  induction k with
  | zero =>
    intro i w s h B hi n8 T hh
    have S := S0.kept (fun a g1 g2 => T.2 a (by omega))
    refine ex_iload 0 dX1_admitPeopleTo_7 rfl ?_
    refine ex_aload_n 4 dX1_admitPeopleTo_9 rfl rfl ?_
    refine ex_get (v := .int (nI len)) fl_X1_15 S.1 rfl dX1_admitPeopleTo_10 ?_
    refine ex_icmp_gt (tgt := 78) dX1_admitPeopleTo_13 (by decide) (fun c_13 => ?_) (fun c_13 => absurd ((nI_ltI (by omega) (by omega)).mpr (by omega)) c_13)
    exact ex_vret hQ rfl ⟨rfl, rfl, by rw [← hh]; exact T⟩ dX1_admitPeopleTo_78
  | succ k ih =>
    intro i w s h B hi n8 T hh
    have S := S0.kept (fun a g1 g2 => T.2 a (by omega))
    have hx2 : chA len c i < 65536 := by
          unfold chA
          split
          · exact hc i (by omega)
          · decide
    rw [apG] at hh
    refine ex_iload 0 dX1_admitPeopleTo_7 rfl ?_
    refine ex_aload_n 4 dX1_admitPeopleTo_9 rfl rfl ?_
    refine ex_get (v := .int (nI len)) fl_X1_15 S.1 rfl dX1_admitPeopleTo_10 ?_
    refine ex_icmp_gt (tgt := 78) dX1_admitPeopleTo_13 (by decide) (fun c_13 => absurd c_13 (fun q9 => absurd ((nI_ltI (by omega) (by omega)).mp q9) (by omega))) (fun c_13 => ?_)
    refine ex_aload_n 4 dX1_admitPeopleTo_16 rfl rfl ?_
    refine ex_iload 0 dX1_admitPeopleTo_17 rfl ?_
    refine ex_call0 (As := [.int (nI i)]) (v := .int (nI (chA len c i))) (ci := 1) vl_X1_19 rfl (c_char S hc (by omega)) S.1 rfl (by decide) (Nat.le_of_ble_eq_true rfl) (Nat.le_refl _) (Nat.le_refl _) rfl dX1_admitPeopleTo_19 ?_
    refine ex_istore (lv' := [(5, .int (nI (chA len c i))), (4, .int (nI i)), (3, .int s), (2, .int w), (1, .ref o), (0, .ref b)]) dX1_admitPeopleTo_22 (by decide) rfl ?_
    refine ex_iload 0 dX1_admitPeopleTo_24 rfl ?_
    refine ex_bipush (v := nI 44) dX1_admitPeopleTo_26 (by decide) ?_
    refine ex_icmp_ne (tgt := 44) dX1_admitPeopleTo_28 (by decide) (fun c_28 => ?_) (fun c_28 => ?_)
    · have n_28 : ¬ ((chA len c i) = 44) := fun q9 => c_28 ((nI_eq (by omega) (by omega)).mpr q9)
      refine ex_iload_n 3 dX1_admitPeopleTo_44 rfl rfl ?_
      refine ex_if_ne (tgt := 57) dX1_admitPeopleTo_45 (by decide) (fun c_45 => ?_) (fun c_45 => ?_)
      · refine ex_iload 0 dX1_admitPeopleTo_57 rfl ?_
        refine ex_bipush (v := nI 102) dX1_admitPeopleTo_59 (by decide) ?_
        refine ex_icmp_eq (tgt := 72) dX1_admitPeopleTo_61 (by decide) (fun c_61 => ?_) (fun c_61 => ?_)
        · have n_61 : (chA len c i) = 102 := (nI_eq (by omega) (by omega)).mp c_61
          refine ex_iinc (v := nI (i + 1)) (lv' := [(4, .int (nI (i + 1))), (5, .int (nI (chA len c i))), (3, .int s), (2, .int w), (1, .ref o), (0, .ref b)]) 1 dX1_admitPeopleTo_72 rfl (nI_1 i) (by decide) rfl ?_
          refine ex_goto (tgt := 7) dX1_admitPeopleTo_75 (by decide) ?_
          have e2 := ih (i + 1) (w) (s) h _ (by omega) n8 T (by rw [← hh, if_neg n_28, if_neg c_45, if_pos n_61])
          refine ex_lv (lv2 := [(4, .int (nI (i + 1))), (3, .int s), (2, .int w), (1, .ref o), (0, .ref b)]) [0, 2, 3, 4, 5] rfl ?_
          exact e2
        · have n_61 : ¬ ((chA len c i) = 102) := fun q9 => c_61 ((nI_eq (by omega) (by omega)).mpr q9)
          refine ex_aload_n 5 dX1_admitPeopleTo_64 rfl rfl ?_
          refine ex_iload_n 2 dX1_admitPeopleTo_65 rfl rfl ?_
          refine ex_iload 0 dX1_admitPeopleTo_66 rfl ?_
          refine ex_call0 (As := [.int s, .int (nI (chA len c i))]) (v := .int (shW s (chA len c i))) (ci := 1) vl_X1_31 rfl (c_shareWith) S.1 rfl (by decide) (Nat.le_of_ble_eq_true rfl) (Nat.le_refl _) (Nat.le_refl _) rfl dX1_admitPeopleTo_68 ?_
          refine ex_istore_n (lv' := [(3, .int (shW s (chA len c i))), (5, .int (nI (chA len c i))), (4, .int (nI i)), (2, .int w), (1, .ref o), (0, .ref b)]) dX1_admitPeopleTo_71 rfl (by decide) rfl ?_
          refine ex_iinc (v := nI (i + 1)) (lv' := [(4, .int (nI (i + 1))), (3, .int (shW s (chA len c i))), (5, .int (nI (chA len c i))), (2, .int w), (1, .ref o), (0, .ref b)]) 2 dX1_admitPeopleTo_72 rfl (nI_1 i) (by decide) rfl ?_
          refine ex_goto (tgt := 7) dX1_admitPeopleTo_75 (by decide) ?_
          have e2 := ih (i + 1) (w) (shW s (chA len c i)) h _ (by omega) n8 T (by rw [← hh, if_neg n_28, if_neg c_45, if_neg n_61])
          refine ex_lv (lv2 := [(4, .int (nI (i + 1))), (3, .int (shW s (chA len c i))), (2, .int w), (1, .ref o), (0, .ref b)]) [0, 1, 3, 4, 5] rfl ?_
          exact e2
      · refine ex_iload 0 dX1_admitPeopleTo_48 rfl ?_
        refine ex_bipush (v := nI 48) dX1_admitPeopleTo_50 (by decide) ?_
        refine ex_isub dX1_admitPeopleTo_52 ?_
        refine ex_istore_n (lv' := [(2, .int ((nI (chA len c i)) - (nI 48))), (5, .int (nI (chA len c i))), (4, .int (nI i)), (3, .int s), (1, .ref o), (0, .ref b)]) dX1_admitPeopleTo_53 rfl (by decide) rfl ?_
        refine ex_goto (tgt := 72) dX1_admitPeopleTo_54 (by decide) ?_
        refine ex_iinc (v := nI (i + 1)) (lv' := [(4, .int (nI (i + 1))), (2, .int ((nI (chA len c i)) - (nI 48))), (5, .int (nI (chA len c i))), (3, .int s), (1, .ref o), (0, .ref b)]) 2 dX1_admitPeopleTo_72 rfl (nI_1 i) (by decide) rfl ?_
        refine ex_goto (tgt := 7) dX1_admitPeopleTo_75 (by decide) ?_
        have e2 := ih (i + 1) ((nI (chA len c i)) - (nI 48)) (s) h _ (by omega) n8 T (by rw [← hh, if_neg n_28, if_pos c_45])
        refine ex_lv (lv2 := [(4, .int (nI (i + 1))), (3, .int s), (2, .int ((nI (chA len c i)) - (nI 48))), (1, .ref o), (0, .ref b)]) [0, 3, 1, 4, 5] rfl ?_
        exact e2
    · have n_28 : (chA len c i) = 44 := (nI_eq (by omega) (by omega)).mp c_28
      refine ex_aload_n 4 dX1_admitPeopleTo_31 rfl rfl ?_
      refine ex_iload_n 3 dX1_admitPeopleTo_32 rfl rfl ?_
      refine ex_iload_n 2 dX1_admitPeopleTo_33 rfl rfl ?_
      refine exS_call (As := [.int w, .int s]) (r0 := none) (B := adm8 B w s) vl_X1_38 rfl T (fun S1 => c_adm8 S1 n8) rfl (by decide) (Nat.le_of_ble_eq_true rfl) (Nat.le_refl _) (Nat.le_refl _) rfl dX1_admitPeopleTo_34 (fun h T => ?_)
      refine ex_iconst (v := nI 0) dX1_admitPeopleTo_37 (by decide) ?_
      refine ex_istore_n (lv' := [(2, .int (nI 0)), (5, .int (nI (chA len c i))), (4, .int (nI i)), (3, .int s), (1, .ref o), (0, .ref b)]) dX1_admitPeopleTo_38 rfl (by decide) rfl ?_
      refine ex_iconst (v := nI 0) dX1_admitPeopleTo_39 (by decide) ?_
      refine ex_istore_n (lv' := [(3, .int (nI 0)), (2, .int (nI 0)), (5, .int (nI (chA len c i))), (4, .int (nI i)), (1, .ref o), (0, .ref b)]) dX1_admitPeopleTo_40 rfl (by decide) rfl ?_
      refine ex_goto (tgt := 72) dX1_admitPeopleTo_41 (by decide) ?_
      refine ex_iinc (v := nI (i + 1)) (lv' := [(4, .int (nI (i + 1))), (3, .int (nI 0)), (2, .int (nI 0)), (5, .int (nI (chA len c i))), (1, .ref o), (0, .ref b)]) 3 dX1_admitPeopleTo_72 rfl (nI_1 i) (by decide) rfl ?_
      refine ex_goto (tgt := 7) dX1_admitPeopleTo_75 (by decide) ?_
      have e2 := ih (i + 1) (nI 0) (nI 0) h _ (by omega) (adm8_8 n8) T (by rw [← hh, if_pos n_28])
      refine ex_lv (lv2 := [(4, .int (nI (i + 1))), (3, .int (nI 0)), (2, .int (nI 0)), (1, .ref o), (0, .ref b)]) [0, 1, 2, 4, 5] rfl ?_
      exact e2

theorem arrC : Cond.arrayClass .char ∈ TW := tw_t 155 (by decide +kernel) (by decide +kernel)
theorem arrI : Cond.arrayClass .int ∈ TW := tw_t 71 (by decide +kernel) (by decide +kernel)
theorem arrZ : Cond.arrayClass .boolean ∈ TW := tw_t 465 (by decide +kernel) (by decide +kernel)

set_option maxRecDepth 20000 in
set_option maxHeartbeats 2000000 in
theorem c_Dinit {G : GG} {l : Launch} {h0 : HP} {b : Nat} (H0 : h0 b = some (.inr (1, [.null, .int 0]))) : Ct G l 1 1 60 yX1_init cX1_init 1 none [.ref b] h0 (b + 1) (fun r h1 z1 => r = none ∧ z1 = b + 2 ∧ PD G h0 h1 b 0 (fun _ => 0)) := by
  refine Ct.intro (lv := [(0, .ref b)]) (by decide +kernel) (Nat.le_of_ble_eq_true rfl) rfl (fun X Q hQ hnm => ?_)
  refine ex_heq (hu_id H0) ?_
  refine ex_aload_n 0 dX1_init_0 rfl rfl ?_
  refine ex_objInit oi_X1_3 oi_2 oi_3 (by decide) (Nat.le_of_ble_eq_true rfl) dX1_init_1 ?_
  refine ex_aload_n 0 dX1_init_4 rfl rfl ?_
  refine ex_bipush (v := nI 60) dX1_init_5 (by decide) ?_
  refine ex_newaC arrC (by decide) (by decide) (by decide) dX1_init_7 ?_
  refine ex_cZ (by omega) ?_
  refine ex_putFR (fs1 := [.ref (b + 1), .int 0]) hnm rfl fl_X1_9 rfl rfl (Nat.le_of_ble_eq_true rfl) rfl dX1_init_9 ?_
  refine ex_aload_n 0 dX1_init_12 rfl rfl ?_
  refine ex_iconst (v := nI 0) dX1_init_13 (by decide) ?_
  refine ex_putR (fs1 := [.ref (b + 1), .int (nI 0)]) fl_X1_15 rfl rfl (Nat.le_of_ble_eq_true rfl) rfl dX1_init_14 ?_
  exact ex_vret hQ rfl ⟨rfl, rfl, hu_s, ⟨_, by rw [hu_n (by omega)]; exact hu_s, fun i hi => absurd hi (Nat.not_lt_zero _)⟩, by decide, fun a ha => by rw [hu_n (by omega), hu_n (by omega)]⟩ dX1_init_17

/-- a history in the making: m States stand -/
def HI (G : GG) (h0 h : HP) (b m : Nat) : Prop := h b = some (.inr (0, [.ref (b + 1), .int (nI 0)])) ∧ (∃ r : Nat → Option Nat, h (b + 1) = some (aQ G 4 6 r) ∧ ∀ j, j < m → r j = some (b + 2 + 11 * j)) ∧ (∀ j, j < m → SP G h (b + 2 + 11 * j) (fun j => j) A0) ∧ ∀ a, (a < b ∨ b + 2 + 11 * m ≤ a) → h a = h0 a
theorem HI.done {G : GG} {h0 h : HP} {b : Nat} (H : HI G h0 h b 6) : HS G h0 h b (fun j => j) 0 (fun _ => A0) := by
  obtain ⟨h1, ⟨r, h2, h3⟩, h4, h5⟩ := H
  exact ⟨r, ⟨h1, h2, fun i hi => ⟨_, h4 i hi⟩, h5⟩, h3, fun j hj => hj, fun i j _ _ e => e, by decide⟩
theorem HI.next {G : GG} {h0 h h1 : HP} {b m : Nat} {r : Nat → Option Nat} {e : va_E} (H : HI G h0 h b m) (hr : h (b + 1) = some (aQ G 4 6 r)) (hm : m < 6) (S : SF G (hu h (b + 2 + 11 * m) e) h1 (b + 2 + 11 * m) (fun j => j) A0) : HI G h0 (hu h1 (b + 1) (aQ G 4 6 (va_up r m (some (b + 2 + 11 * m))))) b (m + 1) := by
  obtain ⟨g1, ⟨r', g2, g3⟩, g4, g5⟩ := H
  have e0 : r = r' := by rw [hr] at g2; simpa using g2
  subst e0
  have off : ∀ a, (a < b + 2 + 11 * m ∨ b + 2 + 11 * m + 11 ≤ a) → h1 a = h a := fun a ha => by rw [S.2 a ha, hu_n (by omega)]
  refine ⟨by rw [hu_n (by omega), off b (by omega)]; exact g1, ⟨_, hu_s, fun j hj => ?_⟩, fun j hj => ?_, fun a ha => by rw [hu_n (by omega), off a (by omega)]; exact g5 a (by omega)⟩
  · show (if j = m then _ else r j) = _
    by_cases e : j = m
    · rw [if_pos e, e]
    · rw [if_neg e]
      exact g3 j (by omega)
  · by_cases e : j = m
    · subst e
      exact S.1.kept (fun a a1 a2 => by rw [hu_n (by omega)])
    · exact (g4 j (by omega)).kept (fun a a1 a2 => by rw [hu_n (by omega), off a (by omega)])

set_option maxRecDepth 20000 in
set_option maxHeartbeats 2000000 in
theorem c_Hinit {G : GG} {l : Launch} {h0 : HP} {b : Nat} (H0 : h0 b = some (.inr (0, [.null, .int 0]))) : Ct G l 3 67 456 yX0_init cX0_init 2 none [.ref b] h0 (b + 1) (fun r h1 z1 => r = none ∧ z1 = b + 68 ∧ HS G h0 h1 b (fun j => j) 0 (fun _ => A0)) := by
  refine Ct.intro (lv := [(0, .ref b)]) (by decide +kernel) (Nat.le_of_ble_eq_true rfl) rfl (fun X Q hQ hnm => ?_)
  refine ex_heq (hu_id H0) ?_
  refine ex_aload_n 0 dX0_init_0 rfl rfl ?_
  refine ex_objInit oi_X0_3 oi_2 oi_3 (by decide) (Nat.le_of_ble_eq_true rfl) dX0_init_1 ?_
  refine ex_aload_n 0 dX0_init_4 rfl rfl ?_
  refine ex_bipush (v := nI 6) dX0_init_5 (by decide) ?_
  refine ex_anew (t := 4) rfl cl_X0_9 (Or.inr rfl) (by decide) (by decide) (by decide) dX0_init_7 ?_
  refine ex_cZ (by omega) ?_
  refine ex_putFR (fs1 := [.ref (b + 1), .int 0]) hnm rfl fl_X0_11 rfl rfl (Nat.le_of_ble_eq_true rfl) rfl dX0_init_10 ?_
  refine ex_aload_n 0 dX0_init_13 rfl rfl ?_
  refine ex_iconst (v := nI 0) dX0_init_14 (by decide) ?_
  refine ex_putR (fs1 := [.ref (b + 1), .int (nI 0)]) fl_X0_17 rfl rfl (Nat.le_of_ble_eq_true rfl) rfl dX0_init_15 ?_
  refine ex_iconst (v := nI 0) dX0_init_18 (by decide) ?_
  refine ex_istore_n (lv' := [(1, .int (nI 0)), (0, .ref b)]) dX0_init_19 rfl (by decide) rfl ?_
  suffices H : ∀ (k m : Nat) (h : HP), m + k = 6 → HI G h0 h b m → ex G l X Q 3 67 456 (1 + 11 * m) (6 + 75 * m) cX0_init yX0_init.cls 2 none h (b + 2 + 11 * m) 20 [(1, .int (nI m)), (0, .ref b)] [] from by
    refine ex_widen (c2 := 1 + 11 * 0) (s2 := 6 + 75 * 0) (by decide) (by decide) ?_
    exact H 6 0 _ (by omega) ⟨hu_s, ⟨_, by rw [hu_n (by omega)]; exact hu_s, fun j hj => absurd hj (Nat.not_lt_zero _)⟩, fun j hj => absurd hj (Nat.not_lt_zero _), fun a ha => by rw [hu_n (by omega), hu_n (by omega)]⟩
  intro k
  induction k with
  | zero =>
    intro m h hm S
    obtain rfl : m = 6 := by omega
    refine ex_iload_n 0 dX0_init_20 rfl rfl ?_
    refine ex_bipush (v := nI 6) dX0_init_21 (by decide) ?_
    refine ex_icmp_ge (tgt := 45) dX0_init_23 (by decide) (fun c_23 => ?_) (fun c_23 => absurd ((nI_leI (by omega) (by omega)).mpr (by omega)) c_23)
    exact ex_vret hQ rfl ⟨rfl, rfl, S.done⟩ dX0_init_45
  | succ k ih =>
    intro m h hm S
    obtain ⟨r, hr, -⟩ := S.2.1
    refine ex_iload_n 0 dX0_init_20 rfl rfl ?_
    refine ex_bipush (v := nI 6) dX0_init_21 (by decide) ?_
    refine ex_icmp_ge (tgt := 45) dX0_init_23 (by decide) (fun c_23 => absurd c_23 (fun q9 => absurd ((nI_leI (by omega) (by omega)).mp q9) (by omega))) (fun c_23 => ?_)
    refine ex_aload_n 1 dX0_init_26 rfl rfl ?_
    refine ex_get (v := .ref (b + 1)) fl_X0_11 S.1 rfl dX0_init_27 ?_
    refine ex_iload_n 0 dX0_init_30 rfl rfl ?_
    refine ex_new nl_X0_9 (by omega) (by omega) dX0_init_31 ?_
    refine ex_dup dX0_init_34 rfl ?_
    refine ex_callI (As := []) vl_X0_21 (c_Sinit hu_s) rfl (by decide) (Nat.le_of_ble_eq_true rfl) (by omega) (by omega) rfl dX0_init_35 (fun r1 h1 z1 hp => ?_)
    obtain ⟨rfl, rfl, S1⟩ := hp
    refine ex_aast (t := 4) (ci := 3) (r := (RX3, TX3, 13)) (n := 6) (f := r) (j := m) rfl rfl (by rw [S1.2 _ (by omega), hu_n (by omega)]; exact hr) S1.ob rfl (by omega) (by decide) dX0_init_38 ?_
    refine ex_iinc (v := nI (m + 1)) (lv' := [(1, .int (nI (m + 1))), (0, .ref b)]) 0 dX0_init_39 rfl (nI_1 m) (by decide) rfl ?_
    refine ex_goto (tgt := 20) dX0_init_42 (by decide) ?_
    refine ex_widen (c2 := 1 + 11 * (m + 1)) (s2 := 6 + 75 * (m + 1)) (by omega) (by omega) ?_
    refine ex_zeq (show b + 2 + 11 * m + 11 = b + 2 + 11 * (m + 1) by omega) ?_
    exact ih (m + 1) _ (by omega) (S.next hr (by omega) S1)
end
section
/-! the whole object of the class -/
abbrev CX : Type := AS × Nat × (Nat → AS) × (Nat → Option AS) × Nat × (Nat → Nat)
def ppF (b : Nat) : List Value := [.ref (b + 1), .ref (b + 12), .ref (b + 23), .ref (b + 91), .ref (b + 92)]
/-- a slot's State, by its address -/
def slA (G : GG) (h : HP) (z b : Nat) (v : Option AS) (r : Option Nat) : Prop := match v with
  | none => r = none
  | some B => ∃ (a : Nat) (π : Nat → Nat), r = some a ∧ b + 100 ≤ a ∧ a + 11 ≤ z ∧ SP G h a π B
def PP (G : GG) (h : HP) (z b : Nat) (x : CX) : Prop :=
  h b = some (.inr (4, ppF b)) ∧ (∃ π, SP G h (b + 1) π x.1) ∧ (∃ π T, SP G h (b + 12) π T) ∧ (∃ (σ : Nat → Nat) (P : Nat → AS), HS G h h (b + 23) σ x.2.1 P ∧ ∀ j, j < x.2.1 → P (σ j) = x.2.2.1 j) ∧ (∃ r : Nat → Option Nat, h (b + 91) = some (aQ G 4 2 r) ∧ (∀ i, i < 2 → slA G h z b (x.2.2.2.1 i) (r i)) ∧ ∀ a0 a1, r 0 = some a0 → r 1 = some a1 → a0 + 11 ≤ a1 ∨ a1 + 11 ≤ a0) ∧ PD G h h (b + 92) x.2.2.2.2.1 x.2.2.2.2.2 ∧ b + 100 ≤ z
def XF (G : GG) (h0 h : HP) (z b : Nat) (x : CX) : Prop := PP G h z b x ∧ ∀ a, b + 94 ≤ a → a < b + 100 → h a = h0 a
theorem slA.kept {G : GG} {h h1 : HP} {z b : Nat} {v : Option AS} {r : Option Nat} (S : slA G h z b v r) (q : ∀ a, b + 100 ≤ a → h1 a = h a) : slA G h1 z b v r := by
  cases v with
  | none => exact S
  | some B =>
    obtain ⟨a, π, e1, e2, e3, e4⟩ := S
    exact ⟨a, π, e1, e2, e3, e4.kept (fun x g1 g2 => q x (by omega))⟩
theorem HS.kept {G : GG} {h h1 : HP} {b k : Nat} {σ : Nat → Nat} {P : Nat → AS} (S : HS G h h b σ k P) (q : ∀ a, b ≤ a → a < b + 68 → h1 a = h a) : HS G h1 h1 b σ k P := by
  obtain ⟨r, s1, s2⟩ := S
  exact ⟨r, s1.kept q, s2⟩
theorem PP.ob {G : GG} {h : HP} {z b : Nat} {x : CX} (S : PP G h z b x) : h b = some (.inr (4, ppF b)) := S.1
theorem PP.nob {G : GG} {h : HP} {z b : Nat} {x : CX} (S : PP G h z b x) : h (b + 1) = some (.inr (3, stF (b + 1) x.1)) := by
  obtain ⟨π, hN⟩ := S.2.1
  exact hN.ob
theorem PP.tob {G : GG} {h : HP} {z b : Nat} {x : CX} (S : PP G h z b x) : ∃ T : AS, h (b + 12) = some (.inr (3, stF (b + 12) T)) := by
  obtain ⟨π, T, hN⟩ := S.2.2.1
  exact ⟨T, hN.ob⟩
theorem PP.hob {G : GG} {h : HP} {z b : Nat} {x : CX} (S : PP G h z b x) : h (b + 23) = some (.inr (0, [.ref (b + 23 + 1), .int (nI x.2.1)])) := by
  obtain ⟨σ, P, ⟨r, hA, -⟩, -⟩ := S.2.2.2.1
  exact hA.1
theorem PP.pob {G : GG} {h : HP} {z b : Nat} {x : CX} (S : PP G h z b x) : h (b + 92) = some (.inr (1, [.ref (b + 92 + 1), .int (nI x.2.2.2.2.1)])) := S.2.2.2.2.2.1.1
/-- another value of 'now' -/
theorem XF.now {G : GG} {h0 h h1 : HP} {z b : Nat} {x : CX} {π : Nat → Nat} {A : AS} (S : XF G h0 h z b x) (N : SF G h h1 (b + 1) π A) : XF G h0 h1 z b (A, x.2) := by
  obtain ⟨⟨s1, s2, ⟨π3, T, s3⟩, ⟨σ, P, s4, s4'⟩, ⟨r, s5, s5', s5''⟩, s6, s7⟩, s8⟩ := S
  have q : ∀ a, (a < b + 1 ∨ b + 1 + 11 ≤ a) → h1 a = h a := N.2
  exact ⟨⟨by rw [q _ (by omega)]; exact s1, ⟨π, N.1⟩, ⟨π3, T, s3.kept (fun a g1 g2 => q a (by omega))⟩, ⟨σ, P, s4.kept (fun a g1 g2 => q a (by omega)), s4'⟩, ⟨r, by rw [q _ (by omega)]; exact s5, fun i hi => (s5' i hi).kept (fun a g => q a (by omega)), s5''⟩, s6.kept (fun a g1 g2 => q a (by omega)), s7⟩, fun a g1 g2 => by rw [q a (by omega)]; exact s8 a g1 g2⟩
theorem XF.trial {G : GG} {h0 h h1 : HP} {z b : Nat} {x : CX} {π : Nat → Nat} {A : AS} (S : XF G h0 h z b x) (N : SF G h h1 (b + 12) π A) : XF G h0 h1 z b x := by
  obtain ⟨⟨s1, ⟨π2, s2⟩, s3, ⟨σ, P, s4, s4'⟩, ⟨r, s5, s5', s5''⟩, s6, s7⟩, s8⟩ := S
  have q : ∀ a, (a < b + 12 ∨ b + 12 + 11 ≤ a) → h1 a = h a := N.2
  exact ⟨⟨by rw [q _ (by omega)]; exact s1, ⟨π2, s2.kept (fun a g1 g2 => q a (by omega))⟩, ⟨π, A, N.1⟩, ⟨σ, P, s4.kept (fun a g1 g2 => q a (by omega)), s4'⟩, ⟨r, by rw [q _ (by omega)]; exact s5, fun i hi => (s5' i hi).kept (fun a g => q a (by omega)), s5''⟩, s6.kept (fun a g1 g2 => q a (by omega)), s7⟩, fun a g1 g2 => by rw [q a (by omega)]; exact s8 a g1 g2⟩
theorem XF.hist {G : GG} {h0 h h1 : HP} {z b k : Nat} {x : CX} {σ : Nat → Nat} {P L : Nat → AS} (S : XF G h0 h z b x) (N : HS G h h1 (b + 23) σ k P) (hL : ∀ j, j < k → P (σ j) = L j) : XF G h0 h1 z b (x.1, k, L, x.2.2.2) := by
  obtain ⟨⟨s1, ⟨π2, s2⟩, ⟨π3, T, s3⟩, -, ⟨r, s5, s5', s5''⟩, s6, s7⟩, s8⟩ := S
  obtain ⟨r1, n1, n2⟩ := N
  have q : ∀ a, (a < b + 23 ∨ b + 23 + 68 ≤ a) → h1 a = h a := n1.2.2.2
  exact ⟨⟨by rw [q _ (by omega)]; exact s1, ⟨π2, s2.kept (fun a g1 g2 => q a (by omega))⟩, ⟨π3, T, s3.kept (fun a g1 g2 => q a (by omega))⟩, ⟨σ, P, ⟨r1, n1.kept (fun _ _ _ => rfl), n2⟩, hL⟩, ⟨r, by rw [q _ (by omega)]; exact s5, fun i hi => (s5' i hi).kept (fun a g => q a (by omega)), s5''⟩, s6.kept (fun a g1 g2 => q a (by omega)), s7⟩, fun a g1 g2 => by rw [q a (by omega)]; exact s8 a g1 g2⟩
theorem XF.pad {G : GG} {h0 h h1 : HP} {z b len : Nat} {x : CX} {c : Nat → Nat} (S : XF G h0 h z b x) (N : PD G h h1 (b + 92) len c) : XF G h0 h1 z b (x.1, x.2.1, x.2.2.1, x.2.2.2.1, len, c) := by
  obtain ⟨⟨s1, ⟨π2, s2⟩, ⟨π3, T, s3⟩, ⟨σ, P, s4, s4'⟩, ⟨r, s5, s5', s5''⟩, -, s7⟩, s8⟩ := S
  have q : ∀ a, (a < b + 92 ∨ b + 92 + 2 ≤ a) → h1 a = h a := N.2.2.2
  exact ⟨⟨by rw [q _ (by omega)]; exact s1, ⟨π2, s2.kept (fun a g1 g2 => q a (by omega))⟩, ⟨π3, T, s3.kept (fun a g1 g2 => q a (by omega))⟩, ⟨σ, P, s4.kept (fun a g1 g2 => q a (by omega)), s4'⟩, ⟨r, by rw [q _ (by omega)]; exact s5, fun i hi => (s5' i hi).kept (fun a g => q a (by omega)), s5''⟩, N.kept (fun _ _ _ => rfl), s7⟩, fun a g1 g2 => by rw [q a (by omega)]; exact s8 a g1 g2⟩
/-- a slot's State has another value -/
theorem XF.slot {G : GG} {h0 h h1 : HP} {z b i a : Nat} {x : CX} {π : Nat → Nat} {A B : AS} {r : Nat → Option Nat} (S : XF G h0 h z b x) (hr : h (b + 91) = some (aQ G 4 2 r)) (hi : i < 2) (ha : r i = some a) (hV : x.2.2.2.1 i = some B) (N : SF G h h1 a π A) : XF G h0 h1 z b (x.1, x.2.1, x.2.2.1, (fun j => if j = i then some A else x.2.2.2.1 j), x.2.2.2.2) := by
  obtain ⟨⟨s1, ⟨π2, s2⟩, ⟨π3, T, s3⟩, ⟨σ, P, s4, s4'⟩, ⟨r', s5, s5', s5''⟩, s6, s7⟩, s8⟩ := S
  have e : r = r' := by rw [hr] at s5; simpa using s5
  subst e
  have hs := s5' i hi
  rw [hV] at hs
  obtain ⟨a', π', e1, e2, e3, e4⟩ := hs
  obtain rfl : a' = a := by rw [ha] at e1; simpa using e1.symm
  have q : ∀ y, (y < a' ∨ a' + 11 ≤ y) → h1 y = h y := N.2
  refine ⟨⟨by rw [q _ (by omega)]; exact s1, ⟨π2, s2.kept (fun a g1 g2 => q a (by omega))⟩, ⟨π3, T, s3.kept (fun a g1 g2 => q a (by omega))⟩, ⟨σ, P, s4.kept (fun a g1 g2 => q a (by omega)), s4'⟩, ⟨r, by rw [q _ (by omega)]; exact s5, fun j hj => ?_, s5''⟩, s6.kept (fun a g1 g2 => q a (by omega)), s7⟩, fun a g1 g2 => by rw [q a (by omega)]; exact s8 a g1 g2⟩
  show slA G h1 z b (if j = i then some A else x.2.2.2.1 j) (r j)
  by_cases ej : j = i
  · subst ej
    rw [if_pos rfl]
    exact ⟨a', π, ha, e2, e3, N.1⟩
  · rw [if_neg ej]
    have hj2 := s5' j hj
    cases hv : x.2.2.2.1 j with
    | none => rw [hv] at hj2; exact hj2
    | some B2 =>
      rw [hv] at hj2
      obtain ⟨a2, π4, f1, f2, f3, f4⟩ := hj2
      have hap : a' + 11 ≤ a2 ∨ a2 + 11 ≤ a' := by
        rcases (show (i = 0 ∧ j = 1) ∨ (i = 1 ∧ j = 0) by omega) with ⟨rfl, rfl⟩ | ⟨rfl, rfl⟩
        · exact s5'' _ _ ha f1
        · exact (s5'' _ _ f1 ha).symm
      exact ⟨a2, π4, f1, f2, f3, f4.kept (fun y g1 g2 => q y (by omega))⟩
abbrev inR (x : Int32) (n : Nat) : Prop := 0 ≤ x ∧ x < nI n
abbrev ixI (x : Int32) : Nat := x.toNatClampNeg
theorem inR_of {x : Int32} {n : Nat} (h : inR x n) (hn : n < 2 ^ 31) : ∃ j, j < n ∧ x = nI j := by
  obtain ⟨h1, h2⟩ := h
  obtain ⟨j, hj, rfl⟩ := nI_of (Int32.not_lt.mpr h1)
  exact ⟨j, (nI_ltI hj hn).mp h2, rfl⟩
theorem inR_nI {j n : Nat} (h : j < n) (hn : n < 2 ^ 31) : inR (nI j) n := ⟨nI_pos' (by omega), nI_lt h hn⟩
theorem inR_not {x : Int32} {n : Nat} (h : ¬ inR x n) : x < 0 ∨ nI n ≤ x := by
  unfold inR at h
  by_cases c : 0 ≤ x
  · exact Or.inr (Int32.not_lt.mp (fun q => h ⟨c, q⟩))
  · exact Or.inl (Int32.not_le.mp c)
/-- what is recorded ahead of a change -/
def recX (x : CX) (A : AS) : CX := (A, (if x.2.1 < 6 then x.2.1 + 1 else 6), recR x.2.1 x.2.2.1 x.1, x.2.2.2)
end
section
/-! calls within the class -/
def pX (G : GG) (p : Int32 × CX) (h0 : HP) (z b : Nat) : Option Value → HP → Nat → Prop := fun r h1 z1 => r = some (.int p.1) ∧ z1 = z ∧ XF G h0 h1 z b p.2
theorem PP.xf {G : GG} {h : HP} {z b : Nat} {x : CX} (S : PP G h z b x) : XF G h h z b x := ⟨S, fun _ _ _ => rfl⟩
section EX4
variable {G : GG} {l : Launch} {X : CT} {Q : State → Prop} {d mc ms cs sl : Nat} {cc : ByteArray} {own : String} {nL : Nat} {ret : Option FieldType} {h h0 : HP} {z pc : Nat} {lv : List (Nat × Value)} {st : List Value} {b : Nat}
/-- 'now' changes -/
theorem exX_now {idx m d1 ny : Nat} {x : CX} {y : MethodName} {cy : ByteArray} {ry : Option FieldType} {As : List Value} {r0 : Option Value} {f : (Nat → Nat) → Nat → Nat} {B : AS} {st0 : List Value} (V : VV own idx y cy ny ry m) (hC : y.cls = RX3) (S : XF G h0 h z b x) (K : ∀ π, SP G h (b + 1) π x.1 → Ct G l d1 0 0 y cy ny ry (.ref (b + 1) :: As) h z (pS G r0 h z (b + 1) (f π) B)) (hn : As.length = m) (hd : d1 + 1 ≤ d) (hst : (st.map fun v => v.category).sum ≤ 8) (hc : cs ≤ mc) (hs : sl ≤ ms) (stk : st0 = As.reverse ++ .ref (b + 1) :: st) (dg : decode cc pc = .ok (.invokevirtual idx, 3)) (k1 : ∀ h : HP, XF G h0 h z b (B, x.2) → ex G l X Q d mc ms cs sl cc own nL ret h z (pc + 3) lv (r0.toList ++ st)) : ex G l X Q d mc ms cs sl cc own nL ret h z pc lv st0 := by
  obtain ⟨π, hN⟩ := S.1.2.1
  exact ex_callV V (ci := 3) (by rw [hC]; rfl) (K π hN) hN.ob hn hd hst hc hs stk dg (fun r h1 z1 hp => by obtain ⟨rfl, rfl, S1⟩ := hp; exact k1 h1 (S.now S1))
/-- the trial changes -/
theorem exX_trial {idx m d1 ny : Nat} {x : CX} {π : Nat → Nat} {A : AS} {y : MethodName} {cy : ByteArray} {ry : Option FieldType} {As : List Value} {r0 : Option Value} {π1 : Nat → Nat} {B : AS} {st0 : List Value} (V : VV own idx y cy ny ry m) (hC : y.cls = RX3) (S : XF G h0 h z b x) (T : SP G h (b + 12) π A) (K : Ct G l d1 0 0 y cy ny ry (.ref (b + 12) :: As) h z (pS G r0 h z (b + 12) π1 B)) (hn : As.length = m) (hd : d1 + 1 ≤ d) (hst : (st.map fun v => v.category).sum ≤ 8) (hc : cs ≤ mc) (hs : sl ≤ ms) (stk : st0 = As.reverse ++ .ref (b + 12) :: st) (dg : decode cc pc = .ok (.invokevirtual idx, 3)) (k1 : ∀ h : HP, XF G h0 h z b x → SP G h (b + 12) π1 B → ex G l X Q d mc ms cs sl cc own nL ret h z (pc + 3) lv (r0.toList ++ st)) : ex G l X Q d mc ms cs sl cc own nL ret h z pc lv st0 :=
  ex_callV V (ci := 3) (by rw [hC]; rfl) K T.ob hn hd hst hc hs stk dg (fun r h1 z1 hp => by obtain ⟨rfl, rfl, S1⟩ := hp; exact k1 h1 (S.trial S1) S1.1)
/-- trial.copyFrom(now) -/
theorem exX_copyT {idx : Nat} {x : CX} {st0 : List Value} (V : VV own idx yX3_copyFrom cX3_copyFrom 5 none 1) (S : XF G h0 h z b x) (n8 : x.1.1 ≤ 8) (hd : 2 ≤ d) (hst : (st.map fun v => v.category).sum ≤ 8) (hc : cs ≤ mc) (hs : sl ≤ ms) (stk : st0 = .ref (b + 1) :: .ref (b + 12) :: st) (dg : decode cc pc = .ok (.invokevirtual idx, 3)) (k1 : ∀ (h : HP) (π : Nat → Nat), XF G h0 h z b x → SP G h (b + 12) π x.1 → ex G l X Q d mc ms cs sl cc own nL ret h z (pc + 3) lv st) : ex G l X Q d mc ms cs sl cc own nL ret h z pc lv st0 := by
  obtain ⟨π1, T0, hT⟩ := S.1.2.2.1
  obtain ⟨π2, hN⟩ := S.1.2.1
  exact exX_trial (As := [.ref (b + 1)]) (r0 := none) V rfl S hT (c_copy hT hN (by omega) n8) rfl hd hst hc hs stk dg (fun h S1 T1 => k1 h π1 S1 T1)
/-- history.record(now) -/
theorem exX_rec {idx : Nat} {x : CX} {st0 : List Value} (V : VV own idx yX0_record cX0_record 2 none 1) (S : XF G h0 h z b x) (n8 : x.1.1 ≤ 8) (hd : 3 ≤ d) (hst : (st.map fun v => v.category).sum ≤ 8) (hc : cs ≤ mc) (hs : sl ≤ ms) (stk : st0 = .ref (b + 1) :: .ref (b + 23) :: st) (dg : decode cc pc = .ok (.invokevirtual idx, 3)) (k1 : ∀ h : HP, XF G h0 h z b (recX x x.1) → ex G l X Q d mc ms cs sl cc own nL ret h z (pc + 3) lv st) : ex G l X Q d mc ms cs sl cc own nL ret h z pc lv st0 := by
  obtain ⟨π2, hN⟩ := S.1.2.1
  obtain ⟨σ, P, ⟨r, hA, hr, hσ, hi, k6⟩, hL⟩ := S.1.2.2.2.1
  refine ex_callV V (As := [.ref (b + 1)]) (ci := 0) rfl (c_record hA hr hσ hi k6 hN (by omega) n8) hA.1 rfl hd hst hc hs stk dg (fun r1 h1 z1 hp => ?_)
  obtain ⟨rfl, rfl, σ1, P1, H1, H2⟩ := hp
  refine k1 h1 (S.hist H1 (fun j hj => ?_))
  rw [H2 j hj]
  unfold recR
  have k6' : x.2.1 ≤ 6 := k6
  split
  · rename_i c
    rw [if_pos c] at hj
    split
    · rfl
    · exact hL j (by omega)
  · rename_i c
    rw [if_neg c] at hj
    split
    · rfl
    · exact hL (j + 1) (by omega)
/-- history.takeBack(now) -/
theorem exX_back {idx : Nat} {x : CX} {st0 : List Value} (V : VV own idx yX0_takeBack cX0_takeBack 2 none 1) (S : XF G h0 h z b x) (k1 : 1 ≤ x.2.1) (n8 : (x.2.2.1 (x.2.1 - 1)).1 ≤ 8) (hd : 3 ≤ d) (hst : (st.map fun v => v.category).sum ≤ 8) (hc : cs ≤ mc) (hs : sl ≤ ms) (stk : st0 = .ref (b + 1) :: .ref (b + 23) :: st) (dg : decode cc pc = .ok (.invokevirtual idx, 3)) (k2 : ∀ h : HP, XF G h0 h z b (x.2.2.1 (x.2.1 - 1), x.2.1 - 1, x.2.2) → ex G l X Q d mc ms cs sl cc own nL ret h z (pc + 3) lv st) : ex G l X Q d mc ms cs sl cc own nL ret h z pc lv st0 := by
  obtain ⟨π2, hN⟩ := S.1.2.1
  obtain ⟨σ, P, ⟨r, hA, hr, hσ, hi, k6⟩, hL⟩ := S.1.2.2.2.1
  have e1 : P (σ (x.2.1 - 1)) = x.2.2.1 (x.2.1 - 1) := hL _ (by omega)
  refine ex_callV V (As := [.ref (b + 1)]) (ci := 0) rfl (c_takeBack hA hr hσ hi k6 k1 hN (by omega) (by rw [e1]; exact n8)) hA.1 rfl hd hst hc hs stk dg (fun r1 h1 z1 hp => ?_)
  obtain ⟨rfl, rfl, H1, H2, H3⟩ := hp
  rw [e1] at H1
  refine k2 h1 ?_
  obtain ⟨⟨s1, -, ⟨π3, T, s3⟩, -, ⟨r5, s5, s5', s5''⟩, s6, s7⟩, s8⟩ := S
  have q : ∀ a, (a < b + 23 ∨ b + 23 + 68 ≤ a) → (a < b + 1 ∨ b + 1 + 11 ≤ a) → h1 a = h a := H3
  exact ⟨⟨by rw [q _ (by omega) (by omega)]; exact s1, ⟨π2, H1⟩, ⟨π3, T, s3.kept (fun a g1 g2 => q a (by omega) (by omega))⟩, ⟨σ, P, H2, fun j (hj : j < x.2.1 - 1) => hL j (by omega)⟩, ⟨r5, by rw [q _ (by omega) (by omega)]; exact s5, fun i hi => (s5' i hi).kept (fun a g => q a (by omega) (by omega)), s5''⟩, s6.kept (fun a g1 g2 => q a (by omega) (by omega)), s7⟩, fun a g1 g2 => by rw [q a (by omega) (by omega)]; exact s8 a g1 g2⟩
/-- a slot is looked up -/
theorem exX_sl {i : Nat} {v : Int32} {x : CX} (S : XF G h0 h z b x) (hv : v = nI i) (hi : i < 2) (dg : decode cc pc = .ok (.aaload, 1)) (k1 : ∀ r : Option Nat, slA G h z b (x.2.2.2.1 i) r → ex G l X Q d mc ms cs sl cc own nL ret h z (pc + 1) lv (va_rf r :: st)) : ex G l X Q d mc ms cs sl cc own nL ret h z pc lv (.int v :: .ref (b + 91) :: st) := by
  obtain ⟨r, s5, s5', s5''⟩ := S.1.2.2.2.2.1
  exact ex_aald4 s5 hv hi (by decide) dg (k1 _ (s5' i hi))
/-- now.copyFrom(a slot) -/
theorem exX_fromS {idx a : Nat} {x : CX} {B : AS} {st0 : List Value} (V : VV own idx yX3_copyFrom cX3_copyFrom 5 none 1) (S : XF G h0 h z b x) (T : slA G h z b (some B) (some a)) (n8 : B.1 ≤ 8) (hd : 2 ≤ d) (hst : (st.map fun v => v.category).sum ≤ 8) (hc : cs ≤ mc) (hs : sl ≤ ms) (stk : st0 = .ref a :: .ref (b + 1) :: st) (dg : decode cc pc = .ok (.invokevirtual idx, 3)) (k1 : ∀ (h : HP), XF G h0 h z b (B, x.2) → ex G l X Q d mc ms cs sl cc own nL ret h z (pc + 3) lv st) : ex G l X Q d mc ms cs sl cc own nL ret h z pc lv st0 := by
  obtain ⟨a', π, e1, e2, e3, e4⟩ := T
  obtain rfl : a = a' := Option.some.inj e1
  exact exX_now (As := [.ref a]) (r0 := none) (f := fun π => π) V rfl S (fun π1 hN => c_copy hN e4 (by omega) n8) rfl hd hst hc hs stk dg (fun h S1 => k1 h S1)
/-- a slot.copyFrom(now) -/
theorem exX_toS {idx a i : Nat} {x : CX} {B : AS} {r : Nat → Option Nat} {st0 : List Value} (V : VV own idx yX3_copyFrom cX3_copyFrom 5 none 1) (S : XF G h0 h z b x) (hr : h (b + 91) = some (aQ G 4 2 r)) (hi : i < 2) (ha : r i = some a) (hV : x.2.2.2.1 i = some B) (n8 : x.1.1 ≤ 8) (hd : 2 ≤ d) (hst : (st.map fun v => v.category).sum ≤ 8) (hc : cs ≤ mc) (hs : sl ≤ ms) (stk : st0 = .ref (b + 1) :: .ref a :: st) (dg : decode cc pc = .ok (.invokevirtual idx, 3)) (k1 : ∀ (h : HP), XF G h0 h z b (x.1, x.2.1, x.2.2.1, (fun j => if j = i then some x.1 else x.2.2.2.1 j), x.2.2.2.2) → ex G l X Q d mc ms cs sl cc own nL ret h z (pc + 3) lv st) : ex G l X Q d mc ms cs sl cc own nL ret h z pc lv st0 := by
  obtain ⟨r', s5, s5', s5''⟩ := S.1.2.2.2.2.1
  obtain rfl : r = r' := by rw [hr] at s5; simpa using s5
  have T := s5' i hi
  rw [hV] at T
  obtain ⟨a', π, e1, e2, e3, e4⟩ := T
  obtain rfl : a = a' := by rw [ha] at e1; exact Option.some.inj e1
  obtain ⟨π2, hN⟩ := S.1.2.1
  exact ex_callV V (As := [.ref (b + 1)]) (ci := 3) rfl (c_copy e4 hN (by omega) n8) e4.ob rfl hd hst hc hs stk dg (fun r1 h1 z1 hp => by obtain ⟨rfl, rfl, S1⟩ := hp; exact k1 h1 (S.slot hr hi ha hV S1))
/-- the pad changes -/
theorem exX_pad {idx m d1 ny len2 : Nat} {x : CX} {c2 : Nat → Nat} {y : MethodName} {cy : ByteArray} {ry : Option FieldType} {As : List Value} {st0 : List Value} (V : VV own idx y cy ny ry m) (hC : y.cls = RX1) (S : XF G h0 h z b x) (K : PD G h h (b + 92) x.2.2.2.2.1 x.2.2.2.2.2 → Ct G l d1 0 0 y cy ny ry (.ref (b + 92) :: As) h z (fun r h1 z1 => r = none ∧ z1 = z ∧ PD G h h1 (b + 92) len2 c2)) (hn : As.length = m) (hd : d1 + 1 ≤ d) (hst : (st.map fun v => v.category).sum ≤ 8) (hc : cs ≤ mc) (hs : sl ≤ ms) (stk : st0 = As.reverse ++ .ref (b + 92) :: st) (dg : decode cc pc = .ok (.invokevirtual idx, 3)) (k1 : ∀ h : HP, XF G h0 h z b (x.1, x.2.1, x.2.2.1, x.2.2.2.1, len2, c2) → ex G l X Q d mc ms cs sl cc own nL ret h z (pc + 3) lv st) : ex G l X Q d mc ms cs sl cc own nL ret h z pc lv st0 :=
  ex_callV V (ci := 1) (by rw [hC]; rfl) (K S.1.2.2.2.2.2.1) S.1.pob hn hd hst hc hs stk dg (fun r h1 z1 hp => by obtain ⟨rfl, rfl, S1⟩ := hp; exact k1 h1 (S.pad S1))
/-- a setting of 'now' -/
theorem exX_ld {i : Nat} {v w : Int32} {x : CX} (S : XF G h0 h z b x) (hv : v = nI i) (hi : i < 6) (hw : x.1.2.2.2.1 i = w) (dg : decode cc pc = .ok (.iaload, 1)) (k1 : ex G l X Q d mc ms cs sl cc own nL ret h z (pc + 1) lv (.int w :: st)) : ex G l X Q d mc ms cs sl cc own nL ret h z pc lv (.int v :: .ref (b + 1 + 1) :: st) := by
  obtain ⟨π, hN⟩ := S.1.2.1
  exact exS_ld hN.sf hv hi hw dg k1
theorem exX_st {i : Nat} {v w : Int32} {n : Nat} {g : Option Nat} {t : Nat} {u : Nat → Int32} {q : Nat → Nat → Int32} {R : Nat × (Nat → AS) × (Nat → Option AS) × Nat × (Nat → Nat)} (S : XF G h0 h z b ((n, g, t, u, q), R)) (hv : v = nI i) (hi : i < 6) (dg : decode cc pc = .ok (.iastore, 1)) (k1 : ∀ h : HP, XF G h0 h z b ((n, g, t, upd u i w, q), R) → ex G l X Q d mc ms cs sl cc own nL ret h z (pc + 1) lv st) : ex G l X Q d mc ms cs sl cc own nL ret h z pc lv (.int w :: .int v :: .ref (b + 1 + 1) :: st) := by
  obtain ⟨π, hN⟩ := S.1.2.1
  exact exS_st hN.sf hv hi dg (fun h S1 => k1 h (S.now S1))
theorem exX_putU {idx k i : Nat} {v : Int32} {n : Nat} {g : Option Nat} {t : Nat} {u : Nat → Int32} {q : Nat → Nat → Int32} {R : Nat × (Nat → AS) × (Nat → Option AS) × Nat × (Nat → Nat)} (S : XF G h0 h z b ((n, g, t, u, q), R)) (fl : FL own idx 3 k .int false) (hi : 6 ≤ i) (hl : k < 13) (hk : (stF (b + 1) (n, g, t, u, q)).set k (.int v) = stF (b + 1) (n, g, t, upd u i v, q)) (dg : decode cc pc = .ok (.putfield idx, 3)) (k1 : ∀ h : HP, XF G h0 h z b ((n, g, t, upd u i v, q), R) → ex G l X Q d mc ms cs sl cc own nL ret h z (pc + 3) lv st) : ex G l X Q d mc ms cs sl cc own nL ret h z pc lv (.int v :: .ref (b + 1) :: st) := by
  obtain ⟨π, hN⟩ := S.1.2.1
  exact exS_putU hN.sf fl hi hl hk dg (fun h S1 => k1 h (S.now S1))
theorem exX_padL {idx : Nat} {x : CX} {v : Int32} {l2 : Nat} (S : XF G h0 h z b x) (fl : FL own idx 1 1 .int false) (hv : v = nI l2) (hl : l2 ≤ x.2.2.2.2.1) (dg : decode cc pc = .ok (.putfield idx, 3)) (k1 : ∀ h : HP, XF G h0 h z b (x.1, x.2.1, x.2.2.1, x.2.2.2.1, l2, x.2.2.2.2.2) → ex G l X Q d mc ms cs sl cc own nL ret h z (pc + 3) lv st) : ex G l X Q d mc ms cs sl cc own nL ret h z pc lv (.int v :: .ref (b + 92) :: st) := by
  subst hv
  exact ex_put fl S.1.pob rfl rfl (Nat.le_of_ble_eq_true rfl) dg (k1 _ (S.pad (S.1.2.2.2.2.2.1.putL rfl hl)))
end EX4
theorem tabc {x : Int32} {n : Nat} (h : ¬ inR x (n + 1)) (hn : n + 1 < 2 ^ 31) : x.toInt < ((0 : Nat) : Int) ∨ ((n : Nat) : Int) < x.toInt := by
  rcases inR_not h with c | c
  · left
    have := Int32.lt_iff_toInt_lt.mp c
    simpa using this
  · right
    have h1 := Int32.le_iff_toInt_le.mp c
    rw [nI_toInt hn] at h1
    omega
/-! what the calls answer, and what there is then -/
def setA (A : AS) (i : Nat) (v : Int32) : AS := (A.1, A.2.1, A.2.2.1, upd A.2.2.2.1 i v, A.2.2.2.2)
def X_set (x : CX) (s v : Int32) : Int32 × CX := if inR s 6 ∧ ¬ (v < stV 1 (ixI s) ∨ stV 2 (ixI s) < v) then (x.1.2.2.2.1 (ixI s), recX x (setA x.1 (ixI s) v)) else (-2, x)
def X_add (x : CX) (w s : Int32) : Int32 × CX := if w < nI 1 ∨ nI 9 < w ∨ s < 0 ∨ nI 100 < s then (-2, x) else if x.1.1 < 8 then (nI x.1.1, recX x (admA x.1 w s)) else (-4, x)
def X_read (x : CX) : Int32 × CX := if ffA x.2.2.2.2.1 x.2.2.2.2.2 = none then (if x.1.1 + (1 + cms x.2.2.2.2.2 x.2.2.2.2.1) ≤ 8 then
  (nI (apG x.2.2.2.2.1 x.2.2.2.2.2 (x.2.2.2.2.1 + 1) 0 (nI 0) (nI 0) x.1).1, ((recX x (apG x.2.2.2.2.1 x.2.2.2.2.2 (x.2.2.2.2.1 + 1) 0 (nI 0) (nI 0) x.1)).1, (recX x x.1).2.1, (recX x x.1).2.2.1, (recX x x.1).2.2.2.1, 0, x.2.2.2.2.2)) else (-4, x)) else (-3, x)
def X_move (x : CX) (p y : Int32) : Int32 × CX := if inR p x.1.1 ∧ inR y x.1.1 then ((if p = y then nI 0 else abI (p - y) + nI 1), recX x (moveA x.1 (ixI p) (ixI y))) else (-1, x)
def lvA (A : AS) (i : Nat) : AS := (A.1, none, bh A.1 i, A.2.2.2.1, A.2.2.2.2)
def X_stepDown (x : CX) : Int32 × CX := match x.1.2.1 with
  | none => (-5, x)
  | some i => (nI i, recX x (lvA x.1 i))
def X_appeal (x : CX) (p : Int32) : Int32 × CX := if inR p x.1.1 then (if mayI x.1.1 x.1.2.1 x.1.2.2.2.1 x.1.2.2.2.2 (ixI p) = 0 then (-5, x) else match x.1.2.1 with
  | none => (-5, x)
  | some i => ((if (appA x.1.1 i x.1.2.2.1 x.1.2.2.2.1 x.1.2.2.2.2 (ixI p)).2 = true then nI 1 else nI 0), recX x (appA x.1.1 i x.1.2.2.1 x.1.2.2.2.1 x.1.2.2.2.2 (ixI p)).1)) else (-1, x)
def givA (A : AS) (v : Int32) : AS := (A.1, A.2.1, A.2.2.1, upd (upd A.2.2.2.1 11 (A.2.2.2.1 11 + v)) 16 (A.2.2.2.1 16 + v), A.2.2.2.2)
def X_give (x : CX) (v : Int32) : Int32 × CX := if v < nI 1 ∨ nI 9999 < v then (-2, x) else if nI 99999 < x.1.2.2.2.1 11 + v then (-4, x) else (x.1.2.2.2.1 11 + v, recX x (givA x.1 v))
def X_pass (x : CX) (v : Int32) : Int32 × CX := if v < nI 1 ∨ nI 99 < v then (-2, x) else if nI 9999 < x.1.2.2.2.1 6 + v then (-4, x) else ((itA (ixI v) x.1).2.2.2.1 13 - x.1.2.2.2.1 13, recX x (itA (ixI v) x.1))
def perN (A : AS) (j : Nat) (w : Nat) : Int32 := match w with
  | 0 => A.2.2.2.2 j 0
  | 1 => A.2.2.2.2 j 1
  | 2 => A.2.2.2.2 j 2
  | 3 => A.2.2.2.2 j 3
  | 4 => bB A.2.2.2.1 A.2.2.2.2 j
  | 5 => scI A.2.2.2.1 A.2.2.2.2 j + nI 1000
  | 6 => A.2.2.2.2 j 4
  | 7 => A.2.2.2.2 j 5
  | _ => mayI A.1 A.2.1 A.2.2.2.1 A.2.2.2.2 j
def X_person (x : CX) (p w : Int32) : Int32 := if inR p x.1.1 then (if inR w 9 then perN x.1 (ixI p) (ixI w) else -2) else -1
def cntN (x : CX) (w : Nat) : Int32 := match w with
  | 0 => x.1.2.2.2.1 0
  | 1 => x.1.2.2.2.1 1
  | 2 => x.1.2.2.2.1 2
  | 3 => x.1.2.2.2.1 3
  | 4 => x.1.2.2.2.1 4
  | 5 => x.1.2.2.2.1 5
  | 6 => x.1.2.2.2.1 6
  | 7 => nI x.1.1
  | 8 => x.1.2.2.2.1 8
  | 9 => gv x.1.2.1
  | 10 => if x.1.2.1 = none then nI x.1.2.2.1 else (-6)
  | 11 => x.1.2.2.2.1 11
  | 12 => sumB x.1.2.2.2.1 x.1.2.2.2.2 x.1.1
  | 13 => x.1.2.2.2.1 12
  | 14 => x.1.2.2.2.1 13
  | 15 => x.1.2.2.2.1 14
  | 16 => x.1.2.2.2.1 15
  | 17 => sumP x.1.2.2.2.2 x.1.1
  | 18 => x.1.2.2.2.1 16
  | 19 => nI x.2.2.2.2.1
  | _ => nI x.2.1
def X_count (x : CX) (w : Int32) : Int32 := if inR w 21 then cntN x (ixI w) else -2
/-- the first purr, k days on from the day d -/
def nxG (A : AS) (w : Int32) (k d : Nat) : Int32 := match k with
  | 0 => -6
  | k + 1 => match dayR (itA d A) with
    | some j => if w = 0 then nI j else nI (d + 1)
    | none => nxG A w k (d + 1)
def X_next (x : CX) (w : Int32) : Int32 := if w = 0 ∨ w = nI 1 then nxG x.1 w 500 0 else -2
def ueG (A : AS) (k d : Nat) : Int32 := match k with
  | 0 => -6
  | k + 1 => if (itA d A).2.2.2.1 11 = 0 then nI d else ueG A k (d + 1)
def X_untilEmpty (x : CX) : Int32 := ueG x.1 2001 0
def ifpN (A B : AS) (w : Nat) : Int32 := match w with
  | 0 => B.2.2.2.1 13 - A.2.2.2.1 13
  | 1 => B.2.2.2.1 12 - A.2.2.2.1 12
  | 2 => B.2.2.2.1 15 - A.2.2.2.1 15
  | 3 => B.2.2.2.1 8
  | _ => gv B.2.1
def X_ifPassed (x : CX) (v w : Int32) : Int32 := if v < nI 1 ∨ nI 500 < v ∨ w < 0 ∨ nI 4 < w then -2 else ifpN x.1 (itA (ixI v) x.1) (ixI w)
def dgM (A : AS) (i p : Nat) : Int32 := (itA 100 (moveA A i p)).2.2.2.2 p 5 - (moveA A i p).2.2.2.2 p 5
def bpG (A : AS) (i k p best : Nat) (most : Int32) : Nat × Int32 := match k with
  | 0 => (best, most)
  | k + 1 => if most < dgM A i p then bpG A i k (p + 1) p (dgM A i p) else bpG A i k (p + 1) best most
def X_bestPlace (x : CX) (i w : Int32) : Int32 := if inR i x.1.1 then (if w = 0 ∨ w = nI 1 then (if w = 0 then nI (bpG x.1 (ixI i) x.1.1 0 0 (-1)).1 else (bpG x.1 (ixI i) x.1.1 0 0 (-1)).2) else -2) else -1
def X_wipe (x : CX) : Int32 × CX := (nI x.2.2.2.2.1, (x.1, x.2.1, x.2.2.1, x.2.2.2.1, 0, x.2.2.2.2.2))
def X_fault (x : CX) : Int32 := ffV (ffA x.2.2.2.2.1 x.2.2.2.2.2)
def X_undo (x : CX) : Int32 × CX := if x.2.1 = 0 then (-5, x) else (nI (x.2.1 - 1), (x.2.2.1 (x.2.1 - 1), x.2.1 - 1, x.2.2))
def X_save (x : CX) (s : Int32) : Int32 × CX := if inR s 2 then (x.1.2.2.2.1 6, (x.1, x.2.1, x.2.2.1, (fun j => if j = ixI s then some x.1 else x.2.2.2.1 j), x.2.2.2.2)) else (-2, x)
def X_restore (x : CX) (s : Int32) : Int32 × CX := if inR s 2 then (match x.2.2.2.1 (ixI s) with
  | none => (-5, x)
  | some B => (B.2.2.2.1 6, recX x B)) else (-2, x)
end
section
theorem inR_or (x : Int32) (n : Nat) (hn : n < 2 ^ 31) : (∃ j, j < n ∧ x = nI j) ∨ ¬ inR x n := by
  by_cases h : inR x n
  · exact Or.inl (inR_of h hn)
  · exact Or.inr h
theorem rngI {v : Int32} {a b : Nat} (ha : a < 2 ^ 31) (hb : b < 2 ^ 31) (h1 : ¬ v < nI a) (h2 : v ≤ nI b) : ∃ j, a ≤ j ∧ j ≤ b ∧ v = nI j := by
  have h0 : ¬ v < 0 := fun q => h1 (Int32.lt_of_lt_of_le q ((nI_leI (a := 0) (by omega) ha).mpr (by omega)))
  obtain ⟨j, hj, rfl⟩ := nI_of h0
  exact ⟨j, Nat.not_lt.mp (fun q => h1 ((nI_ltI hj ha).mpr q)), (nI_leI hj hb).mp h2, rfl⟩
theorem bI_e1 {u : Nat → Int32} {q : Nat → Nat → Int32} {j : Nat} (h : ¬ bB u q j = 0) : bB u q j = nI 1 := by
  unfold bB
  rw [if_neg (bB_1 h)]
theorem mayI_1 {n : Nat} {g : Option Nat} {u : Nat → Int32} {q : Nat → Nat → Int32} {j : Nat} (h : ¬ mayI n g u q j = 0) : mayI n g u q j = nI 1 := by
  unfold mayI at h ⊢
  split at h
  · rename_i c
    rw [if_pos c]
  · exact absurd rfl h
theorem zB_1 {b : Bool} (h : ¬ (if b = true then nI 1 else nI 0) = 0) : (if b = true then nI 1 else nI 0) = nI 1 := by
  cases b
  · exact absurd rfl h
  · rfl
theorem ixn {j : Nat} (h : j < 2 ^ 31) : ixI (nI j) = j := nI_clamp h
theorem gv_n6 {g : Option Nat} {n : Nat} (gw : ∀ i, g = some i → i < n) (n8 : n ≤ 8) (h : gv g = -6) : g = none := by
  cases g with
  | none => rfl
  | some i => exact absurd h (nI_n6 (by have := gw i rfl; omega))
theorem cms_le {c : Nat → Nat} : ∀ m, cms c m ≤ m
  | 0 => Nat.le_refl _
  | k + 1 => by
    have := cms_le (c := c) k
    rw [cms]
    split <;> omega
theorem ffG_le {len : Nat} {c : Nat → Nat} : ∀ (k i due : Nat) (s : Int32) (r : Nat), ffG len c k i due s = some r → i + k ≤ len → r ≤ len
  | 0, i, due, s, r, h, hl => by
    rw [ffG] at h
    split at h
    · cases h
    · cases h
      omega
  | k + 1, i, due, s, r, h, hl => by
    rw [ffG] at h
    split at h
    · exact ffG_le k (i + 1) _ _ r h (by omega)
    · cases h
      omega
theorem XF.trans {G : GG} {h0 h h1 : HP} {z b : Nat} {x y : CX} (S : XF G h0 h z b x) (S1 : XF G h h1 z b y) : XF G h0 h1 z b y := ⟨S1.1, fun a g1 g2 => (S1.2 a g1 g2).trans (S.2 a g1 g2)⟩
theorem dayR_lt {A : AS} {j : Nat} (w : wfA A) (h : dayR A = some j) : j < A.1 := by
  obtain ⟨n, _ | i, t, u, q⟩ := A
  · have h2 : (holdA n t (upd u 6 (u 6 + nI 1)) q).2 = some j := h
    unfold holdA at h2
    split at h2
    · cases h2
    · rename_i j1 hj
      split at h2
      · cases h2
      · cases h2
        exact hand_lt w.2.2 hj
  · cases (show (none : Option Nat) = some j from h)
theorem mvP_lt {p x y n : Nat} (hp : p < n) (hx : x < n) (hy : y < n) : mvP p x y < n := by
  unfold mvP
  split
  · exact hy
  · split
    · omega
    · split <;> omega
theorem moveA_wf {A : AS} {x y : Nat} (w : wfA A) (hx : x < A.1) (hy : y < A.1) : wfA (moveA A x y) := by
  obtain ⟨n, g, t, u, q⟩ := A
  obtain ⟨w1, w2, w3⟩ := w
  refine ⟨w1, fun i hi => ?_, Or.inl ?_⟩
  · cases g with
    | none => cases hi
    | some p =>
      cases (show some (mvP p x y) = some i from hi)
      exact mvP_lt (w2 p rfl) hx hy
  · have hx' : x < n := hx
    have h3 : t < n ∨ t = 0 := w3
    exact mvP_lt (show t < n by omega) hx' hy

set_option maxRecDepth 20000 in
set_option maxHeartbeats 2000000 in
theorem c_isSettingT {G : GG} {l : Launch} {h0 : HP} {z : Nat} {j : Nat} (hj : j < 6) : Ct G l 0 0 0 yX4_isSetting cX4_isSetting 1 (some .boolean) [.int (nI j)] h0 z (p0 (.int (nI 1)) h0 z) := by
  refine Ct.intro (lv := [(0, .int (nI j))]) (by decide +kernel) (Nat.le_of_ble_eq_true rfl) rfl (fun X Q hQ hnm => ?_)
  refine ex_iload_n 0 dX4_isSetting_0 rfl rfl ?_
  refine ex_if_lt (tgt := 16) dX4_isSetting_1 (by decide) (fun c_1 => absurd c_1 (nI_pos (by omega))) (fun c_1 => ?_)
  refine ex_iload_n 0 dX4_isSetting_4 rfl rfl ?_
  refine ex_gets (k := 0) (by decide) (tw_t 179 (by decide +kernel) (by decide +kernel)) dX4_isSetting_5 ?_
  refine ex_tlen (k := 0) (by decide) dX4_isSetting_8 ?_
  refine ex_icmp_ge (tgt := 16) dX4_isSetting_9 (by decide) (fun c_9 => absurd c_9 (fun q9 => absurd ((nI_leI (by omega) (by omega)).mp q9) (by omega))) (fun c_9 => ?_)
  refine ex_iconst (v := nI 1) dX4_isSetting_12 (by decide) ?_
  refine ex_goto (tgt := 17) dX4_isSetting_13 (by decide) ?_
  exact ex_zret hQ rfl (by decide) ⟨rfl, rfl, rfl⟩ dX4_isSetting_17

set_option maxRecDepth 20000 in
set_option maxHeartbeats 2000000 in
theorem c_isSettingF {G : GG} {l : Launch} {h0 : HP} {z : Nat} {s : Int32} (hs : ¬ inR s 6) : Ct G l 0 0 0 yX4_isSetting cX4_isSetting 1 (some .boolean) [.int s] h0 z (p0 (.int (nI 0)) h0 z) := by
  refine Ct.intro (lv := [(0, .int s)]) (by decide +kernel) (Nat.le_of_ble_eq_true rfl) rfl (fun X Q hQ hnm => ?_)
  refine ex_iload_n 0 dX4_isSetting_0 rfl rfl ?_
  refine ex_if_lt (tgt := 16) dX4_isSetting_1 (by decide) (fun c_1 => ?_) (fun c_1 => ?_)
  · refine ex_iconst (v := nI 0) dX4_isSetting_16 (by decide) ?_
    exact ex_zret hQ rfl (by decide) ⟨rfl, rfl, rfl⟩ dX4_isSetting_17
  · refine ex_iload_n 0 dX4_isSetting_4 rfl rfl ?_
    refine ex_gets (k := 0) (by decide) (tw_t 179 (by decide +kernel) (by decide +kernel)) dX4_isSetting_5 ?_
    refine ex_tlen (k := 0) (by decide) dX4_isSetting_8 ?_
    refine ex_icmp_ge (tgt := 16) dX4_isSetting_9 (by decide) (fun c_9 => ?_) (fun c_9 => ?_)
    · refine ex_iconst (v := nI 0) dX4_isSetting_16 (by decide) ?_
      exact ex_zret hQ rfl (by decide) ⟨rfl, rfl, rfl⟩ dX4_isSetting_17
    · exact absurd ⟨Int32.not_lt.mp c_1, Int32.not_le.mp c_9⟩ hs

set_option maxRecDepth 20000 in
set_option maxHeartbeats 2000000 in
theorem c_isSlotT {G : GG} {l : Launch} {h0 : HP} {z : Nat} {j : Nat} (hj : j < 2) : Ct G l 0 0 0 yX4_isSlot cX4_isSlot 1 (some .boolean) [.int (nI j)] h0 z (p0 (.int (nI 1)) h0 z) := by
  refine Ct.intro (lv := [(0, .int (nI j))]) (by decide +kernel) (Nat.le_of_ble_eq_true rfl) rfl (fun X Q hQ hnm => ?_)
  refine ex_iload_n 0 dX4_isSlot_0 rfl rfl ?_
  refine ex_if_lt (tgt := 13) dX4_isSlot_1 (by decide) (fun c_1 => absurd c_1 (nI_pos (by omega))) (fun c_1 => ?_)
  refine ex_iload_n 0 dX4_isSlot_4 rfl rfl ?_
  refine ex_iconst (v := nI 2) dX4_isSlot_5 (by decide) ?_
  refine ex_icmp_ge (tgt := 13) dX4_isSlot_6 (by decide) (fun c_6 => absurd c_6 (fun q9 => absurd ((nI_leI (by omega) (by omega)).mp q9) (by omega))) (fun c_6 => ?_)
  refine ex_iconst (v := nI 1) dX4_isSlot_9 (by decide) ?_
  refine ex_goto (tgt := 14) dX4_isSlot_10 (by decide) ?_
  exact ex_zret hQ rfl (by decide) ⟨rfl, rfl, rfl⟩ dX4_isSlot_14

set_option maxRecDepth 20000 in
set_option maxHeartbeats 2000000 in
theorem c_isSlotF {G : GG} {l : Launch} {h0 : HP} {z : Nat} {s : Int32} (hs : ¬ inR s 2) : Ct G l 0 0 0 yX4_isSlot cX4_isSlot 1 (some .boolean) [.int s] h0 z (p0 (.int (nI 0)) h0 z) := by
  refine Ct.intro (lv := [(0, .int s)]) (by decide +kernel) (Nat.le_of_ble_eq_true rfl) rfl (fun X Q hQ hnm => ?_)
  refine ex_iload_n 0 dX4_isSlot_0 rfl rfl ?_
  refine ex_if_lt (tgt := 13) dX4_isSlot_1 (by decide) (fun c_1 => ?_) (fun c_1 => ?_)
  · refine ex_iconst (v := nI 0) dX4_isSlot_13 (by decide) ?_
    exact ex_zret hQ rfl (by decide) ⟨rfl, rfl, rfl⟩ dX4_isSlot_14
  · refine ex_iload_n 0 dX4_isSlot_4 rfl rfl ?_
    refine ex_iconst (v := nI 2) dX4_isSlot_5 (by decide) ?_
    refine ex_icmp_ge (tgt := 13) dX4_isSlot_6 (by decide) (fun c_6 => ?_) (fun c_6 => ?_)
    · refine ex_iconst (v := nI 0) dX4_isSlot_13 (by decide) ?_
      exact ex_zret hQ rfl (by decide) ⟨rfl, rfl, rfl⟩ dX4_isSlot_14
    · exact absurd ⟨Int32.not_lt.mp c_1, Int32.not_le.mp c_6⟩ hs

set_option maxRecDepth 20000 in
set_option maxHeartbeats 2000000 in
theorem c_set {G : GG} {l : Launch} {h0 : HP} {z b : Nat} {n : Nat} {g : Option Nat} {t : Nat} {u : Nat → Int32} {q : Nat → Nat → Int32} {k len : Nat} {L : Nat → AS} {V : Nat → Option AS} {c : Nat → Nat} (S0 : PP G h0 z b ((n, g, t, u, q), k, L, V, len, c)) (n8 : n ≤ 8) {s v : Int32} : Ct G l 3 0 0 yX4_set cX4_set 4 (some .int) [.ref b, .int s, .int v] h0 z (pX G (X_set ((n, g, t, u, q), k, L, V, len, c) s v) h0 z b) := by
  refine Ct.intro (lv := [(0, .ref b), (1, .int s), (2, .int v)]) (by decide +kernel) (Nat.le_of_ble_eq_true rfl) rfl (fun X Q hQ hnm => ?_)
  have S := S0.xf
  rcases inR_or s 6 (by omega) with ⟨j, hs, rfl⟩ | hs
  · refine ex_iload_n 1 dX4_set_0 rfl rfl ?_
    refine ex_callS0 (As := [.int (nI j)]) (v := .int (nI 1)) vl_X4_37 (c_isSettingT hs) rfl (by decide) (Nat.le_of_ble_eq_true rfl) (Nat.le_refl _) (Nat.le_refl _) rfl dX4_set_1 ?_
    refine ex_if_ne (tgt := 10) dX4_set_4 (by decide) (fun c_4 => ?_) (fun c_4 => absurd c_4 (by decide))
    refine ex_iload_n 2 dX4_set_10 rfl rfl ?_
    refine ex_gets (k := 1) (by decide) (tw_t 180 (by decide +kernel) (by decide +kernel)) dX4_set_11 ?_
    refine ex_iload_n 1 dX4_set_14 rfl rfl ?_
    refine ex_tld (k := 1) (by decide) rfl hs dX4_set_15 ?_
    refine ex_icmp_lt (tgt := 28) dX4_set_16 (by decide) (fun c_16 => ?_) (fun c_16 => ?_)
    · refine ex_bipush (v := (-2)) dX4_set_28 (by decide) ?_
      exact ex_iret hQ rfl (by unfold X_set; rw [ixn (by omega)]; first | (rw [if_neg (fun q9 => q9.2 (by first | exact Or.inl c_16 | exact Or.inr (Int32.not_le.mp c_25)))]; exact ⟨rfl, rfl, S⟩) | (rw [if_pos ⟨inR_nI hs (by decide), fun q9 => q9.elim (fun q8 => c_16 q8) (fun q8 => absurd c_25 (Int32.not_le.mpr q8))⟩]; exact ⟨rfl, rfl, S⟩)) dX4_set_30
    · refine ex_iload_n 2 dX4_set_19 rfl rfl ?_
      refine ex_gets (k := 2) (by decide) (tw_t 182 (by decide +kernel) (by decide +kernel)) dX4_set_20 ?_
      refine ex_iload_n 1 dX4_set_23 rfl rfl ?_
      refine ex_tld (k := 2) (by decide) rfl hs dX4_set_24 ?_
      refine ex_icmp_le (tgt := 31) dX4_set_25 (by decide) (fun c_25 => ?_) (fun c_25 => ?_)
      · refine ex_aload_n 0 dX4_set_31 rfl rfl ?_
        refine ex_get (v := .ref (b + 23)) fl_X4_22 S.1.ob rfl dX4_set_32 ?_
        refine ex_aload_n 0 dX4_set_35 rfl rfl ?_
        refine ex_get (v := .ref (b + 1)) fl_X4_10 S.1.ob rfl dX4_set_36 ?_
        refine exX_rec vl_X4_48 S n8 (by decide) (Nat.le_of_ble_eq_true rfl) (Nat.le_refl _) (Nat.le_refl _) rfl dX4_set_39 (fun h S => ?_)
        have S : XF G h0 h z b ((n, g, t, u, q), (if k < 6 then k + 1 else 6), (recR k L (n, g, t, u, q)), V, len, c) := S
        refine ex_aload_n 0 dX4_set_42 rfl rfl ?_
        refine ex_get (v := .ref (b + 1)) fl_X4_10 S.1.ob rfl dX4_set_43 ?_
        refine ex_get (v := .ref (b + 1 + 1)) fl_X4_52 S.1.nob rfl dX4_set_46 ?_
        refine ex_iload_n 1 dX4_set_49 rfl rfl ?_
        refine exX_ld (i := j) (w := u j) S rfl hs rfl dX4_set_50 ?_
        refine ex_istore_n (lv' := [(3, .int (u j)), (0, .ref b), (1, .int (nI j)), (2, .int v)]) dX4_set_51 rfl (by decide) rfl ?_
        refine ex_aload_n 1 dX4_set_52 rfl rfl ?_
        refine ex_get (v := .ref (b + 1)) fl_X4_10 S.1.ob rfl dX4_set_53 ?_
        refine ex_get (v := .ref (b + 1 + 1)) fl_X4_52 S.1.nob rfl dX4_set_56 ?_
        refine ex_iload_n 2 dX4_set_59 rfl rfl ?_
        refine ex_iload_n 3 dX4_set_60 rfl rfl ?_
        refine exX_st (i := j) S rfl hs dX4_set_61 (fun h S => ?_)
        refine ex_iload_n 0 dX4_set_62 rfl rfl ?_
        exact ex_iret hQ rfl (by unfold X_set; rw [ixn (by omega)]; first | (rw [if_neg (fun q9 => q9.2 (by first | exact Or.inl c_16 | exact Or.inr (Int32.not_le.mp c_25)))]; exact ⟨rfl, rfl, S⟩) | (rw [if_pos ⟨inR_nI hs (by decide), fun q9 => q9.elim (fun q8 => c_16 q8) (fun q8 => absurd c_25 (Int32.not_le.mpr q8))⟩]; exact ⟨rfl, rfl, S⟩)) dX4_set_63
      · refine ex_bipush (v := (-2)) dX4_set_28 (by decide) ?_
        exact ex_iret hQ rfl (by unfold X_set; rw [ixn (by omega)]; first | (rw [if_neg (fun q9 => q9.2 (by first | exact Or.inl c_16 | exact Or.inr (Int32.not_le.mp c_25)))]; exact ⟨rfl, rfl, S⟩) | (rw [if_pos ⟨inR_nI hs (by decide), fun q9 => q9.elim (fun q8 => c_16 q8) (fun q8 => absurd c_25 (Int32.not_le.mpr q8))⟩]; exact ⟨rfl, rfl, S⟩)) dX4_set_30
  · refine ex_iload_n 1 dX4_set_0 rfl rfl ?_
    refine ex_callS0 (As := [.int s]) (v := .int (nI 0)) vl_X4_37 (c_isSettingF hs) rfl (by decide) (Nat.le_of_ble_eq_true rfl) (Nat.le_refl _) (Nat.le_refl _) rfl dX4_set_1 ?_
    refine ex_if_ne (tgt := 10) dX4_set_4 (by decide) (fun c_4 => absurd (by decide) c_4) (fun c_4 => ?_)
    refine ex_bipush (v := (-2)) dX4_set_7 (by decide) ?_
    exact ex_iret hQ rfl (by unfold X_set; rw [if_neg (fun q9 => hs q9.1)]; exact ⟨rfl, rfl, S⟩) dX4_set_9

set_option maxRecDepth 20000 in
set_option maxHeartbeats 2000000 in
theorem c_add {G : GG} {l : Launch} {h0 : HP} {z b : Nat} {n : Nat} {g : Option Nat} {t : Nat} {u : Nat → Int32} {q : Nat → Nat → Int32} {k len : Nat} {L : Nat → AS} {V : Nat → Option AS} {c : Nat → Nat} (S0 : PP G h0 z b ((n, g, t, u, q), k, L, V, len, c)) (n8 : n ≤ 8) {v s : Int32} : Ct G l 3 0 0 yX4_add cX4_add 3 (some .int) [.ref b, .int v, .int s] h0 z (pX G (X_add ((n, g, t, u, q), k, L, V, len, c) v s) h0 z b) := by
  refine Ct.intro (lv := [(0, .ref b), (1, .int v), (2, .int s)]) (by decide +kernel) (Nat.le_of_ble_eq_true rfl) rfl (fun X Q hQ hnm => ?_)
  have S := S0.xf
  refine ex_iload_n 1 dX4_add_0 rfl rfl ?_
  refine ex_iconst (v := nI 1) dX4_add_1 (by decide) ?_
  refine ex_icmp_lt (tgt := 21) dX4_add_2 (by decide) (fun c_2 => ?_) (fun c_2 => ?_)
  · refine ex_bipush (v := (-2)) dX4_add_21 (by decide) ?_
    exact ex_iret hQ rfl (by unfold X_add; rw [if_pos (by first | exact Or.inl c_2 | exact Or.inr (Or.inl c_8) | exact Or.inr (Or.inr (Or.inl c_12)) | exact Or.inr (Or.inr (Or.inr (Int32.not_le.mp c_18))))]; exact ⟨rfl, rfl, S⟩) dX4_add_23
  · refine ex_iload_n 1 dX4_add_5 rfl rfl ?_
    refine ex_bipush (v := nI 9) dX4_add_6 (by decide) ?_
    refine ex_icmp_gt (tgt := 21) dX4_add_8 (by decide) (fun c_8 => ?_) (fun c_8 => ?_)
    · refine ex_bipush (v := (-2)) dX4_add_21 (by decide) ?_
      exact ex_iret hQ rfl (by unfold X_add; rw [if_pos (by first | exact Or.inl c_2 | exact Or.inr (Or.inl c_8) | exact Or.inr (Or.inr (Or.inl c_12)) | exact Or.inr (Or.inr (Or.inr (Int32.not_le.mp c_18))))]; exact ⟨rfl, rfl, S⟩) dX4_add_23
    · refine ex_iload_n 2 dX4_add_11 rfl rfl ?_
      refine ex_if_lt (tgt := 21) dX4_add_12 (by decide) (fun c_12 => ?_) (fun c_12 => ?_)
      · refine ex_bipush (v := (-2)) dX4_add_21 (by decide) ?_
        exact ex_iret hQ rfl (by unfold X_add; rw [if_pos (by first | exact Or.inl c_2 | exact Or.inr (Or.inl c_8) | exact Or.inr (Or.inr (Or.inl c_12)) | exact Or.inr (Or.inr (Or.inr (Int32.not_le.mp c_18))))]; exact ⟨rfl, rfl, S⟩) dX4_add_23
      · refine ex_iload_n 2 dX4_add_15 rfl rfl ?_
        refine ex_bipush (v := nI 100) dX4_add_16 (by decide) ?_
        refine ex_icmp_le (tgt := 24) dX4_add_18 (by decide) (fun c_18 => ?_) (fun c_18 => ?_)
        · have hc : ¬ (v < nI 1 ∨ nI 9 < v ∨ s < 0 ∨ nI 100 < s) := fun q9 => q9.elim c_2 (fun q9 => q9.elim c_8 (fun q9 => q9.elim c_12 (fun q9 => absurd c_18 (Int32.not_le.mpr q9))))
          refine ex_aload_n 0 dX4_add_24 rfl rfl ?_
          refine ex_get (v := .ref (b + 1)) fl_X4_10 S.1.ob rfl dX4_add_25 ?_
          refine ex_get (v := .int (nI n)) fl_X4_55 S.1.nob rfl dX4_add_28 ?_
          refine ex_bipush (v := nI 8) dX4_add_31 (by decide) ?_
          refine ex_icmp_lt (tgt := 39) dX4_add_33 (by decide) (fun c_33 => ?_) (fun c_33 => ?_)
          · have n_33 : n < 8 := (nI_ltI (by omega) (by omega)).mp c_33
            refine ex_aload_n 0 dX4_add_39 rfl rfl ?_
            refine ex_get (v := .ref (b + 23)) fl_X4_22 S.1.ob rfl dX4_add_40 ?_
            refine ex_aload_n 0 dX4_add_43 rfl rfl ?_
            refine ex_get (v := .ref (b + 1)) fl_X4_10 S.1.ob rfl dX4_add_44 ?_
            refine exX_rec vl_X4_48 S n8 (by decide) (Nat.le_of_ble_eq_true rfl) (Nat.le_refl _) (Nat.le_refl _) rfl dX4_add_47 (fun h S => ?_)
            have S : XF G h0 h z b ((n, g, t, u, q), (if k < 6 then k + 1 else 6), (recR k L (n, g, t, u, q)), V, len, c) := S
            refine ex_aload_n 0 dX4_add_50 rfl rfl ?_
            refine ex_get (v := .ref (b + 1)) fl_X4_10 S.1.ob rfl dX4_add_51 ?_
            refine ex_iload_n 1 dX4_add_54 rfl rfl ?_
            refine ex_iload_n 2 dX4_add_55 rfl rfl ?_
            refine exX_now (As := [.int v, .int s]) (r0 := none) (f := fun π => π) (B := admA (n, g, t, u, q) v s) vl_X4_59 rfl S (fun π hN => c_admit hN n_33) rfl (by decide) (Nat.le_of_ble_eq_true rfl) (Nat.le_refl _) (Nat.le_refl _) rfl dX4_add_56 (fun h S => ?_)
            have S : XF G h0 h z b (admA (n, g, t, u, q) v s, (if k < 6 then k + 1 else 6), (recR k L (n, g, t, u, q)), V, len, c) := S
            refine ex_aload_n 0 dX4_add_59 rfl rfl ?_
            refine ex_get (v := .ref (b + 1)) fl_X4_10 S.1.ob rfl dX4_add_60 ?_
            refine ex_get (v := .int (nI (n + 1))) fl_X4_55 S.1.nob rfl dX4_add_63 ?_
            refine ex_iconst (v := nI 1) dX4_add_66 (by decide) ?_
            refine ex_isubN dX4_add_67 (by omega) ?_
            exact ex_iret hQ rfl (by unfold X_add; rw [if_neg hc, if_pos n_33]; exact ⟨rfl, rfl, S⟩) dX4_add_68
          · have n_33 : ¬ (n < 8) := fun q9 => c_33 ((nI_ltI (by omega) (by omega)).mpr q9)
            refine ex_bipush (v := (-4)) dX4_add_36 (by decide) ?_
            exact ex_iret hQ rfl (by unfold X_add; rw [if_neg hc, if_neg n_33]; exact ⟨rfl, rfl, S⟩) dX4_add_38
        · refine ex_bipush (v := (-2)) dX4_add_21 (by decide) ?_
          exact ex_iret hQ rfl (by unfold X_add; rw [if_pos (by first | exact Or.inl c_2 | exact Or.inr (Or.inl c_8) | exact Or.inr (Or.inr (Or.inl c_12)) | exact Or.inr (Or.inr (Or.inr (Int32.not_le.mp c_18))))]; exact ⟨rfl, rfl, S⟩) dX4_add_23

set_option maxRecDepth 20000 in
set_option maxHeartbeats 2000000 in
theorem c_read {G : GG} {l : Launch} {h0 : HP} {z b : Nat} {n : Nat} {g : Option Nat} {t : Nat} {u : Nat → Int32} {q : Nat → Nat → Int32} {k len : Nat} {L : Nat → AS} {V : Nat → Option AS} {c : Nat → Nat} (S0 : PP G h0 z b ((n, g, t, u, q), k, L, V, len, c)) (n8 : n ≤ 8) (hc : ∀ i, i < len → c i < 65536) : Ct G l 3 0 0 yX4_read cX4_read 1 (some .int) [.ref b] h0 z (pX G (X_read ((n, g, t, u, q), k, L, V, len, c)) h0 z b) := by
  refine Ct.intro (lv := [(0, .ref b)]) (by decide +kernel) (Nat.le_of_ble_eq_true rfl) rfl (fun X Q hQ hnm => ?_)
  have S := S0.xf
  have l60 : len ≤ 60 := S0.2.2.2.2.2.1.2.2.1
  have hcm := cms_le (c := c) len
  rcases hf : ffA len c with _ | i
  · refine ex_aload_n 0 dX4_read_0 rfl rfl ?_
    refine ex_get (v := .ref (b + 92)) fl_X4_33 S.1.ob rfl dX4_read_1 ?_
    refine ex_call0 (As := []) (v := .int (ffV (ffA len c))) (ci := 1) vl_X4_63 rfl (c_firstFault S.1.2.2.2.2.2.1 hc) S.1.pob rfl (by decide) (Nat.le_of_ble_eq_true rfl) (Nat.le_refl _) (Nat.le_refl _) rfl dX4_read_4 ?_
    refine ex_bipush (v := (-6)) dX4_read_7 (by decide) ?_
    refine ex_icmp_eq (tgt := 15) dX4_read_9 (by decide) (fun c_9 => ?_) (fun c_9 => absurd (by rw [hf]; rfl) c_9)
    refine ex_aload_n 0 dX4_read_15 rfl rfl ?_
    refine ex_get (v := .ref (b + 1)) fl_X4_10 S.1.ob rfl dX4_read_16 ?_
    refine ex_get (v := .int (nI n)) fl_X4_55 S.1.nob rfl dX4_read_19 ?_
    refine ex_aload_n 0 dX4_read_22 rfl rfl ?_
    refine ex_get (v := .ref (b + 92)) fl_X4_33 S.1.ob rfl dX4_read_23 ?_
    refine ex_call0 (As := []) (v := .int (nI (1 + cms c len))) (ci := 1) vl_X4_67 rfl (c_people S.1.2.2.2.2.2.1 hc) S.1.pob rfl (by decide) (Nat.le_of_ble_eq_true rfl) (Nat.le_refl _) (Nat.le_refl _) rfl dX4_read_26 ?_
    refine ex_iaddN dX4_read_29 ?_
    refine ex_bipush (v := nI 8) dX4_read_30 (by decide) ?_
    refine ex_icmp_le (tgt := 38) dX4_read_32 (by decide) (fun c_32 => ?_) (fun c_32 => ?_)
    · have n_32 : (n + (1 + cms c len)) ≤ 8 := (nI_leI (by omega) (by omega)).mp c_32
      refine ex_aload_n 0 dX4_read_38 rfl rfl ?_
      refine ex_get (v := .ref (b + 23)) fl_X4_22 S.1.ob rfl dX4_read_39 ?_
      refine ex_aload_n 0 dX4_read_42 rfl rfl ?_
      refine ex_get (v := .ref (b + 1)) fl_X4_10 S.1.ob rfl dX4_read_43 ?_
      refine exX_rec vl_X4_48 S n8 (by decide) (Nat.le_of_ble_eq_true rfl) (Nat.le_refl _) (Nat.le_refl _) rfl dX4_read_46 (fun h S => ?_)
      have S : XF G h0 h z b ((n, g, t, u, q), (if k < 6 then k + 1 else 6), (recR k L (n, g, t, u, q)), V, len, c) := S
      refine ex_aload_n 0 dX4_read_49 rfl rfl ?_
      refine ex_get (v := .ref (b + 92)) fl_X4_33 S.1.ob rfl dX4_read_50 ?_
      refine ex_aload_n 0 dX4_read_53 rfl rfl ?_
      refine ex_get (v := .ref (b + 1)) fl_X4_10 S.1.ob rfl dX4_read_54 ?_
      obtain ⟨π, hN⟩ := S.1.2.1
      refine ex_callV (As := [.ref (b + 1)]) (ci := 1) vl_X4_70 rfl (c_admitPeople S.1.2.2.2.2.2.1 hc hN (by omega) n8) S.1.pob rfl (by decide) (Nat.le_of_ble_eq_true rfl) (Nat.le_refl _) (Nat.le_refl _) rfl dX4_read_57 (fun r9 h9 z9 hp => ?_)
      obtain ⟨rfl, rfl, S9⟩ := hp
      have S := S.now S9
      have S : XF G h0 h9 z9 b ((apG len c (len + 1) 0 (nI 0) (nI 0) (n, g, t, u, q)), (if k < 6 then k + 1 else 6), (recR k L (n, g, t, u, q)), V, len, c) := S
      clear S0
      refine ex_aload_n 0 dX4_read_60 rfl rfl ?_
      refine ex_get (v := .ref (b + 92)) fl_X4_33 S.1.ob rfl dX4_read_61 ?_
      refine ex_iconst (v := nI 0) dX4_read_64 (by decide) ?_
      refine exX_padL (l2 := 0) S fl_X4_73 rfl (Nat.zero_le _) dX4_read_65 (fun h S => ?_)
      have S : XF G h0 h z9 b ((apG len c (len + 1) 0 (nI 0) (nI 0) (n, g, t, u, q)), (if k < 6 then k + 1 else 6), (recR k L (n, g, t, u, q)), V, 0, c) := S
      refine ex_aload_n 0 dX4_read_68 rfl rfl ?_
      refine ex_get (v := .ref (b + 1)) fl_X4_10 S.1.ob rfl dX4_read_69 ?_
      refine ex_get (v := .int (nI (((apG len c (len + 1) 0 (nI 0) (nI 0) (n, g, t, u, q))).1))) fl_X4_55 S.1.nob rfl dX4_read_72 ?_
      exact ex_iret hQ rfl (by unfold X_read; dsimp only; rw [if_pos hf, if_pos n_32]; exact ⟨rfl, rfl, S⟩) dX4_read_75
    · have n_32 : ¬ ((n + (1 + cms c len)) ≤ 8) := fun q9 => c_32 ((nI_leI (by omega) (by omega)).mpr q9)
      refine ex_bipush (v := (-4)) dX4_read_35 (by decide) ?_
      exact ex_iret hQ rfl (by unfold X_read; dsimp only; rw [if_pos hf, if_neg n_32]; exact ⟨rfl, rfl, S⟩) dX4_read_37
  · have hi : i < 2 ^ 31 := by have := ffG_le len 0 0 (nI 0) i hf (by omega); omega
    refine ex_aload_n 0 dX4_read_0 rfl rfl ?_
    refine ex_get (v := .ref (b + 92)) fl_X4_33 S.1.ob rfl dX4_read_1 ?_
    refine ex_call0 (As := []) (v := .int (ffV (ffA len c))) (ci := 1) vl_X4_63 rfl (c_firstFault S.1.2.2.2.2.2.1 hc) S.1.pob rfl (by decide) (Nat.le_of_ble_eq_true rfl) (Nat.le_refl _) (Nat.le_refl _) rfl dX4_read_4 ?_
    refine ex_bipush (v := (-6)) dX4_read_7 (by decide) ?_
    refine ex_icmp_eq (tgt := 15) dX4_read_9 (by decide) (fun c_9 => absurd c_9 (by rw [hf]; exact nI_n6 hi)) (fun c_9 => ?_)
    refine ex_bipush (v := (-3)) dX4_read_12 (by decide) ?_
    exact ex_iret hQ rfl (by unfold X_read; dsimp only; rw [if_neg (by rw [hf]; exact fun q9 => by cases q9)]; exact ⟨rfl, rfl, S⟩) dX4_read_14

set_option maxRecDepth 20000 in
set_option maxHeartbeats 2000000 in
theorem c_move {G : GG} {l : Launch} {h0 : HP} {z b : Nat} {n : Nat} {g : Option Nat} {t : Nat} {u : Nat → Int32} {q : Nat → Nat → Int32} {k len : Nat} {L : Nat → AS} {V : Nat → Option AS} {c : Nat → Nat} (S0 : PP G h0 z b ((n, g, t, u, q), k, L, V, len, c)) (n8 : n ≤ 8) (gw : ∀ i, g = some i → i < n) (tw : t < n ∨ t = 0) {p y : Int32} : Ct G l 3 0 0 yX4_move cX4_move 3 (some .int) [.ref b, .int p, .int y] h0 z (pX G (X_move ((n, g, t, u, q), k, L, V, len, c) p y) h0 z b) := by
  refine Ct.intro (lv := [(0, .ref b), (1, .int p), (2, .int y)]) (by decide +kernel) (Nat.le_of_ble_eq_true rfl) rfl (fun X Q hQ hnm => ?_)
  have S := S0.xf
  rcases inR_or p n (by omega) with ⟨i, hp, rfl⟩ | hp
  · rcases inR_or y n (by omega) with ⟨m, hy, rfl⟩ | hy
    · obtain ⟨π, hN⟩ := S.1.2.1
      refine ex_aload_n 0 dX4_move_0 rfl rfl ?_
      refine ex_get (v := .ref (b + 1)) fl_X4_10 S.1.ob rfl dX4_move_1 ?_
      refine ex_iload_n 1 dX4_move_4 rfl rfl ?_
      refine ex_call0 (As := [.int (nI i)]) (v := .ref (b + 1 + 3 + π i)) (ci := 3) vl_X4_76 rfl (c_at hN (by omega) hp n8) hN.ob rfl (by decide) (Nat.le_of_ble_eq_true rfl) (Nat.le_refl _) (Nat.le_refl _) rfl dX4_move_5 ?_
      refine ex_ifnull dX4_move_8 ?_
      refine ex_aload_n 0 dX4_move_11 rfl rfl ?_
      refine ex_get (v := .ref (b + 1)) fl_X4_10 S.1.ob rfl dX4_move_12 ?_
      refine ex_iload_n 2 dX4_move_15 rfl rfl ?_
      refine ex_call0 (As := [.int (nI m)]) (v := .ref (b + 1 + 3 + π m)) (ci := 3) vl_X4_76 rfl (c_at hN (by omega) hy n8) hN.ob rfl (by decide) (Nat.le_of_ble_eq_true rfl) (Nat.le_refl _) (Nat.le_refl _) rfl dX4_move_16 ?_
      refine ex_ifnonnull (tgt := 24) dX4_move_19 (by decide) ?_
      refine ex_aload_n 0 dX4_move_24 rfl rfl ?_
      refine ex_get (v := .ref (b + 23)) fl_X4_22 S.1.ob rfl dX4_move_25 ?_
      refine ex_aload_n 0 dX4_move_28 rfl rfl ?_
      refine ex_get (v := .ref (b + 1)) fl_X4_10 S.1.ob rfl dX4_move_29 ?_
      refine exX_rec vl_X4_48 S n8 (by decide) (Nat.le_of_ble_eq_true rfl) (Nat.le_refl _) (Nat.le_refl _) rfl dX4_move_32 (fun h S => ?_)
      have S : XF G h0 h z b ((n, g, t, u, q), (if k < 6 then k + 1 else 6), (recR k L (n, g, t, u, q)), V, len, c) := S
      refine ex_aload_n 0 dX4_move_35 rfl rfl ?_
      refine ex_get (v := .ref (b + 1)) fl_X4_10 S.1.ob rfl dX4_move_36 ?_
      refine ex_iload_n 1 dX4_move_39 rfl rfl ?_
      refine ex_iload_n 2 dX4_move_40 rfl rfl ?_
      refine exX_now (As := [.int (nI i), .int (nI m)]) (r0 := none) (f := fun π j => π (mvI i m j)) (B := moveA (n, g, t, u, q) i m) vl_X4_80 rfl S (fun π hN => c_relocate hN gw tw n8 hp hy) rfl (by decide) (Nat.le_of_ble_eq_true rfl) (Nat.le_refl _) (Nat.le_refl _) rfl dX4_move_41 (fun h S => ?_)
      have S : XF G h0 h z b (moveA (n, g, t, u, q) i m, (if k < 6 then k + 1 else 6), (recR k L (n, g, t, u, q)), V, len, c) := S
      refine ex_iload_n 1 dX4_move_44 rfl rfl ?_
      refine ex_iload_n 2 dX4_move_45 rfl rfl ?_
      refine ex_icmp_ne (tgt := 53) dX4_move_46 (by decide) (fun c_46 => ?_) (fun c_46 => ?_)
      · have n_46 : ¬ (i = m) := fun q9 => c_46 ((nI_eq (by omega) (by omega)).mpr q9)
        refine ex_iload_n 1 dX4_move_53 rfl rfl ?_
        refine ex_iload_n 2 dX4_move_54 rfl rfl ?_
        refine ex_isub dX4_move_55 ?_
        refine exm_abs (v := abI ((nI i) - (nI m))) mlx_abs rfl (by decide) (Nat.le_of_ble_eq_true rfl) (Nat.le_refl _) (Nat.le_refl _) dX4_move_56 ?_
        refine ex_iconst (v := nI 1) dX4_move_59 (by decide) ?_
        refine ex_iadd dX4_move_60 ?_
        exact ex_iret hQ rfl (by unfold X_move; dsimp only; rw [if_pos ⟨inR_nI hp (by omega), inR_nI hy (by omega)⟩, ixn (by omega), ixn (by omega)]; first | (rw [if_pos (congrArg nI n_46)]; exact ⟨rfl, rfl, S⟩) | (rw [if_neg (fun q9 => n_46 ((nI_eq (by omega) (by omega)).mp q9))]; exact ⟨rfl, rfl, S⟩)) dX4_move_61
      · have n_46 : i = m := (nI_eq (by omega) (by omega)).mp c_46
        refine ex_iconst (v := nI 0) dX4_move_49 (by decide) ?_
        refine ex_goto (tgt := 61) dX4_move_50 (by decide) ?_
        exact ex_iret hQ rfl (by unfold X_move; dsimp only; rw [if_pos ⟨inR_nI hp (by omega), inR_nI hy (by omega)⟩, ixn (by omega), ixn (by omega)]; first | (rw [if_pos (congrArg nI n_46)]; exact ⟨rfl, rfl, S⟩) | (rw [if_neg (fun q9 => n_46 ((nI_eq (by omega) (by omega)).mp q9))]; exact ⟨rfl, rfl, S⟩)) dX4_move_61
    · obtain ⟨π, hN⟩ := S.1.2.1
      refine ex_aload_n 0 dX4_move_0 rfl rfl ?_
      refine ex_get (v := .ref (b + 1)) fl_X4_10 S.1.ob rfl dX4_move_1 ?_
      refine ex_iload_n 1 dX4_move_4 rfl rfl ?_
      refine ex_call0 (As := [.int (nI i)]) (v := .ref (b + 1 + 3 + π i)) (ci := 3) vl_X4_76 rfl (c_at hN (by omega) hp n8) hN.ob rfl (by decide) (Nat.le_of_ble_eq_true rfl) (Nat.le_refl _) (Nat.le_refl _) rfl dX4_move_5 ?_
      refine ex_ifnull dX4_move_8 ?_
      refine ex_aload_n 0 dX4_move_11 rfl rfl ?_
      refine ex_get (v := .ref (b + 1)) fl_X4_10 S.1.ob rfl dX4_move_12 ?_
      refine ex_iload_n 2 dX4_move_15 rfl rfl ?_
      refine ex_call0 (As := [.int y]) (v := .null) (ci := 3) vl_X4_76 rfl (c_atN hN (inR_not hy) n8) hN.ob rfl (by decide) (Nat.le_of_ble_eq_true rfl) (Nat.le_refl _) (Nat.le_refl _) rfl dX4_move_16 ?_
      refine ex_ifnonnullN dX4_move_19 ?_
      refine ex_iconst (v := (-1)) dX4_move_22 (by decide) ?_
      exact ex_iret hQ rfl (by unfold X_move; dsimp only; rw [if_neg (fun q9 => hy q9.2)]; exact ⟨rfl, rfl, S⟩) dX4_move_23
  · obtain ⟨π, hN⟩ := S.1.2.1
    refine ex_aload_n 0 dX4_move_0 rfl rfl ?_
    refine ex_get (v := .ref (b + 1)) fl_X4_10 S.1.ob rfl dX4_move_1 ?_
    refine ex_iload_n 1 dX4_move_4 rfl rfl ?_
    refine ex_call0 (As := [.int p]) (v := .null) (ci := 3) vl_X4_76 rfl (c_atN hN (inR_not hp) n8) hN.ob rfl (by decide) (Nat.le_of_ble_eq_true rfl) (Nat.le_refl _) (Nat.le_refl _) rfl dX4_move_5 ?_
    refine ex_ifnullN (tgt := 22) dX4_move_8 (by decide) ?_
    refine ex_iconst (v := (-1)) dX4_move_22 (by decide) ?_
    exact ex_iret hQ rfl (by unfold X_move; dsimp only; rw [if_neg (fun q9 => hp q9.1)]; exact ⟨rfl, rfl, S⟩) dX4_move_23

set_option maxRecDepth 20000 in
set_option maxHeartbeats 2000000 in
theorem c_stepDown {G : GG} {l : Launch} {h0 : HP} {z b : Nat} {n : Nat} {g : Option Nat} {t : Nat} {u : Nat → Int32} {q : Nat → Nat → Int32} {k len : Nat} {L : Nat → AS} {V : Nat → Option AS} {c : Nat → Nat} (S0 : PP G h0 z b ((n, g, t, u, q), k, L, V, len, c)) (n8 : n ≤ 8) (gw : ∀ i, g = some i → i < n) : Ct G l 3 0 0 yX4_stepDown cX4_stepDown 2 (some .int) [.ref b] h0 z (pX G (X_stepDown ((n, g, t, u, q), k, L, V, len, c)) h0 z b) := by
  refine Ct.intro (lv := [(0, .ref b)]) (by decide +kernel) (Nat.le_of_ble_eq_true rfl) rfl (fun X Q hQ hnm => ?_)
  have S := S0.xf
  rcases g with _ | i
  · refine ex_aload_n 0 dX4_stepDown_0 rfl rfl ?_
    refine ex_get (v := .ref (b + 1)) fl_X4_10 S.1.ob rfl dX4_stepDown_1 ?_
    refine ex_get (v := .int (-6)) fl_X4_89 S.1.nob rfl dX4_stepDown_4 ?_
    refine ex_istore_n (lv' := [(1, .int (-6)), (0, .ref b)]) dX4_stepDown_7 rfl (by decide) rfl ?_
    refine ex_iload_n 0 dX4_stepDown_8 rfl rfl ?_
    refine ex_bipush (v := (-6)) dX4_stepDown_9 (by decide) ?_
    refine ex_icmp_ne (tgt := 17) dX4_stepDown_11 (by decide) (fun c_11 => absurd (rfl) c_11) (fun c_11 => ?_)
    refine ex_bipush (v := (-5)) dX4_stepDown_14 (by decide) ?_
    exact ex_iret hQ rfl (by exact ⟨rfl, rfl, S⟩) dX4_stepDown_16
  · have hi : i < n := gw i rfl
    refine ex_aload_n 0 dX4_stepDown_0 rfl rfl ?_
    refine ex_get (v := .ref (b + 1)) fl_X4_10 S.1.ob rfl dX4_stepDown_1 ?_
    refine ex_get (v := .int (nI i)) fl_X4_89 S.1.nob rfl dX4_stepDown_4 ?_
    refine ex_istore_n (lv' := [(1, .int (nI i)), (0, .ref b)]) dX4_stepDown_7 rfl (by decide) rfl ?_
    refine ex_iload_n 0 dX4_stepDown_8 rfl rfl ?_
    refine ex_bipush (v := (-6)) dX4_stepDown_9 (by decide) ?_
    refine ex_icmp_ne (tgt := 17) dX4_stepDown_11 (by decide) (fun c_11 => ?_) (fun c_11 => absurd c_11 (nI_n6 (by omega)))
    refine ex_aload_n 1 dX4_stepDown_17 rfl rfl ?_
    refine ex_get (v := .ref (b + 23)) fl_X4_22 S.1.ob rfl dX4_stepDown_18 ?_
    refine ex_aload_n 1 dX4_stepDown_21 rfl rfl ?_
    refine ex_get (v := .ref (b + 1)) fl_X4_10 S.1.ob rfl dX4_stepDown_22 ?_
    refine exX_rec vl_X4_48 S n8 (by decide) (Nat.le_of_ble_eq_true rfl) (Nat.le_refl _) (Nat.le_refl _) rfl dX4_stepDown_25 (fun h S => ?_)
    have S : XF G h0 h z b ((n, (some i), t, u, q), (if k < 6 then k + 1 else 6), (recR k L (n, (some i), t, u, q)), V, len, c) := S
    refine ex_aload_n 1 dX4_stepDown_28 rfl rfl ?_
    refine ex_get (v := .ref (b + 1)) fl_X4_10 S.1.ob rfl dX4_stepDown_29 ?_
    refine ex_aload_n 1 dX4_stepDown_32 rfl rfl ?_
    refine ex_get (v := .ref (b + 1)) fl_X4_10 S.1.ob rfl dX4_stepDown_33 ?_
    refine ex_iload_n 0 dX4_stepDown_36 rfl rfl ?_
    obtain ⟨π, hN⟩ := S.1.2.1
    refine ex_call0 (As := [.int (nI i)]) (v := .int (nI (bh n i))) (ci := 3) vl_X4_92 rfl (c_behind hN (by omega) n8) hN.ob rfl (by decide) (Nat.le_of_ble_eq_true rfl) (Nat.le_refl _) (Nat.le_refl _) rfl dX4_stepDown_37 ?_
    refine exX_now (As := [.int (nI (bh n i))]) (r0 := none) (f := fun π => π) (B := (n, none, bh n i, u, q)) vl_X4_95 rfl S (fun π hN => c_leave hN) rfl (by decide) (Nat.le_of_ble_eq_true rfl) (Nat.le_refl _) (Nat.le_refl _) rfl dX4_stepDown_40 (fun h S => ?_)
    have S : XF G h0 h z b ((n, none, bh n i, u, q), (if k < 6 then k + 1 else 6), (recR k L (n, (some i), t, u, q)), V, len, c) := S
    refine ex_iload_n 0 dX4_stepDown_43 rfl rfl ?_
    exact ex_iret hQ rfl (by exact ⟨rfl, rfl, S⟩) dX4_stepDown_44

set_option maxRecDepth 20000 in
set_option maxHeartbeats 2000000 in
theorem c_appeal {G : GG} {l : Launch} {h0 : HP} {z b : Nat} {n : Nat} {g : Option Nat} {t : Nat} {u : Nat → Int32} {q : Nat → Nat → Int32} {k len : Nat} {L : Nat → AS} {V : Nat → Option AS} {c : Nat → Nat} (S0 : PP G h0 z b ((n, g, t, u, q), k, L, V, len, c)) (n8 : n ≤ 8) (gw : ∀ i, g = some i → i < n) {p : Int32} : Ct G l 3 0 0 yX4_appeal cX4_appeal 2 (some .int) [.ref b, .int p] h0 z (pX G (X_appeal ((n, g, t, u, q), k, L, V, len, c) p) h0 z b) := by
  refine Ct.intro (lv := [(0, .ref b), (1, .int p)]) (by decide +kernel) (Nat.le_of_ble_eq_true rfl) rfl (fun X Q hQ hnm => ?_)
  have S := S0.xf
  rcases inR_or p n (by omega) with ⟨m, hp, rfl⟩ | hp
  · rcases g with _ | i
    · have hm0 : mayI n none u q m = 0 := by
        unfold mayI
        rw [if_neg (fun q9 => q9.1 rfl)]
        rfl
      obtain ⟨π, hN⟩ := S.1.2.1
      refine ex_aload_n 0 dX4_appeal_0 rfl rfl ?_
      refine ex_get (v := .ref (b + 1)) fl_X4_10 S.1.ob rfl dX4_appeal_1 ?_
      refine ex_iload_n 1 dX4_appeal_4 rfl rfl ?_
      refine ex_call0 (As := [.int (nI m)]) (v := .ref (b + 1 + 3 + π m)) (ci := 3) vl_X4_76 rfl (c_at hN (by omega) hp n8) hN.ob rfl (by decide) (Nat.le_of_ble_eq_true rfl) (Nat.le_refl _) (Nat.le_refl _) rfl dX4_appeal_5 ?_
      refine ex_ifnonnull (tgt := 13) dX4_appeal_8 (by decide) ?_
      refine ex_aload_n 0 dX4_appeal_13 rfl rfl ?_
      refine ex_get (v := .ref (b + 1)) fl_X4_10 S.1.ob rfl dX4_appeal_14 ?_
      refine ex_iload_n 1 dX4_appeal_17 rfl rfl ?_
      refine ex_call0 (As := [.int (nI m)]) (v := .int (mayI n none u q m)) (ci := 3) vl_X4_99 rfl (c_mayAppeal hN (by omega) hp gw n8) hN.ob rfl (by decide) (Nat.le_of_ble_eq_true rfl) (Nat.le_refl _) (Nat.le_refl _) rfl dX4_appeal_18 ?_
      refine ex_if_ne (tgt := 27) dX4_appeal_21 (by decide) (fun c_21 => absurd (hm0) c_21) (fun c_21 => ?_)
      refine ex_bipush (v := (-5)) dX4_appeal_24 (by decide) ?_
      exact ex_iret hQ rfl (by unfold X_appeal; dsimp only; rw [if_pos (inR_nI hp (by omega)), ixn (by omega), if_pos hm0]; exact ⟨rfl, rfl, S⟩) dX4_appeal_26
    · obtain ⟨π, hN⟩ := S.1.2.1
      refine ex_aload_n 0 dX4_appeal_0 rfl rfl ?_
      refine ex_get (v := .ref (b + 1)) fl_X4_10 S.1.ob rfl dX4_appeal_1 ?_
      refine ex_iload_n 1 dX4_appeal_4 rfl rfl ?_
      refine ex_call0 (As := [.int (nI m)]) (v := .ref (b + 1 + 3 + π m)) (ci := 3) vl_X4_76 rfl (c_at hN (by omega) hp n8) hN.ob rfl (by decide) (Nat.le_of_ble_eq_true rfl) (Nat.le_refl _) (Nat.le_refl _) rfl dX4_appeal_5 ?_
      refine ex_ifnonnull (tgt := 13) dX4_appeal_8 (by decide) ?_
      refine ex_aload_n 0 dX4_appeal_13 rfl rfl ?_
      refine ex_get (v := .ref (b + 1)) fl_X4_10 S.1.ob rfl dX4_appeal_14 ?_
      refine ex_iload_n 1 dX4_appeal_17 rfl rfl ?_
      refine ex_call0 (As := [.int (nI m)]) (v := .int (mayI n (some i) u q m)) (ci := 3) vl_X4_99 rfl (c_mayAppeal hN (by omega) hp gw n8) hN.ob rfl (by decide) (Nat.le_of_ble_eq_true rfl) (Nat.le_refl _) (Nat.le_refl _) rfl dX4_appeal_18 ?_
      refine ex_if_ne (tgt := 27) dX4_appeal_21 (by decide) (fun c_21 => ?_) (fun c_21 => ?_)
      · refine ex_aload_n 0 dX4_appeal_27 rfl rfl ?_
        refine ex_get (v := .ref (b + 23)) fl_X4_22 S.1.ob rfl dX4_appeal_28 ?_
        refine ex_aload_n 0 dX4_appeal_31 rfl rfl ?_
        refine ex_get (v := .ref (b + 1)) fl_X4_10 S.1.ob rfl dX4_appeal_32 ?_
        refine exX_rec vl_X4_48 S n8 (by decide) (Nat.le_of_ble_eq_true rfl) (Nat.le_refl _) (Nat.le_refl _) rfl dX4_appeal_35 (fun h S => ?_)
        have S : XF G h0 h z b ((n, (some i), t, u, q), (if k < 6 then k + 1 else 6), (recR k L (n, (some i), t, u, q)), V, len, c) := S
        refine ex_aload_n 0 dX4_appeal_38 rfl rfl ?_
        refine ex_get (v := .ref (b + 1)) fl_X4_10 S.1.ob rfl dX4_appeal_39 ?_
        refine ex_iload_n 1 dX4_appeal_42 rfl rfl ?_
        refine exX_now (As := [.int (nI m)]) (r0 := (some (.int (if (appA n i t u q m).2 = true then nI 1 else nI 0)))) (f := fun π => π) (B := (appA n i t u q m).1) vl_X4_102 rfl S (fun π hN => c_hearAppeal hN (by omega) hp (gw i rfl) n8) rfl (by decide) (Nat.le_of_ble_eq_true rfl) (Nat.le_refl _) (Nat.le_refl _) rfl dX4_appeal_43 (fun h S => ?_)
        have S : XF G h0 h z b ((appA n i t u q m).1, (if k < 6 then k + 1 else 6), (recR k L (n, (some i), t, u, q)), V, len, c) := S
        refine ex_if_eq (tgt := 53) dX4_appeal_46 (by decide) (fun c_46 => ?_) (fun c_46 => ?_)
        · refine ex_iconst (v := nI 0) dX4_appeal_53 (by decide) ?_
          exact ex_iret hQ rfl (by unfold X_appeal; dsimp only; rw [if_pos (inR_nI hp (by omega)), ixn (by omega), if_neg c_21]; first | exact ⟨congrArg (fun x => some (Value.int x)) c_46.symm, rfl, S⟩ | exact ⟨congrArg (fun x => some (Value.int x)) (zB_1 c_46).symm, rfl, S⟩) dX4_appeal_54
        · refine ex_iconst (v := nI 1) dX4_appeal_49 (by decide) ?_
          refine ex_goto (tgt := 54) dX4_appeal_50 (by decide) ?_
          exact ex_iret hQ rfl (by unfold X_appeal; dsimp only; rw [if_pos (inR_nI hp (by omega)), ixn (by omega), if_neg c_21]; first | exact ⟨congrArg (fun x => some (Value.int x)) c_46.symm, rfl, S⟩ | exact ⟨congrArg (fun x => some (Value.int x)) (zB_1 c_46).symm, rfl, S⟩) dX4_appeal_54
      · refine ex_bipush (v := (-5)) dX4_appeal_24 (by decide) ?_
        exact ex_iret hQ rfl (by unfold X_appeal; dsimp only; rw [if_pos (inR_nI hp (by omega)), ixn (by omega), if_pos c_21]; exact ⟨rfl, rfl, S⟩) dX4_appeal_26
  · obtain ⟨π, hN⟩ := S.1.2.1
    refine ex_aload_n 0 dX4_appeal_0 rfl rfl ?_
    refine ex_get (v := .ref (b + 1)) fl_X4_10 S.1.ob rfl dX4_appeal_1 ?_
    refine ex_iload_n 1 dX4_appeal_4 rfl rfl ?_
    refine ex_call0 (As := [.int p]) (v := .null) (ci := 3) vl_X4_76 rfl (c_atN hN (inR_not hp) n8) hN.ob rfl (by decide) (Nat.le_of_ble_eq_true rfl) (Nat.le_refl _) (Nat.le_refl _) rfl dX4_appeal_5 ?_
    refine ex_ifnonnullN dX4_appeal_8 ?_
    refine ex_iconst (v := (-1)) dX4_appeal_11 (by decide) ?_
    exact ex_iret hQ rfl (by unfold X_appeal; dsimp only; rw [if_neg hp]; exact ⟨rfl, rfl, S⟩) dX4_appeal_12

set_option maxRecDepth 20000 in
set_option maxHeartbeats 2000000 in
theorem c_give {G : GG} {l : Launch} {h0 : HP} {z b : Nat} {n : Nat} {g : Option Nat} {t : Nat} {u : Nat → Int32} {q : Nat → Nat → Int32} {k len : Nat} {L : Nat → AS} {V : Nat → Option AS} {c : Nat → Nat} (S0 : PP G h0 z b ((n, g, t, u, q), k, L, V, len, c)) (n8 : n ≤ 8) {v : Int32} : Ct G l 3 0 0 yX4_give cX4_give 2 (some .int) [.ref b, .int v] h0 z (pX G (X_give ((n, g, t, u, q), k, L, V, len, c) v) h0 z b) := by
  refine Ct.intro (lv := [(0, .ref b), (1, .int v)]) (by decide +kernel) (Nat.le_of_ble_eq_true rfl) rfl (fun X Q hQ hnm => ?_)
  have S := S0.xf
  refine ex_iload_n 1 dX4_give_0 rfl rfl ?_
  refine ex_iconst (v := nI 1) dX4_give_1 (by decide) ?_
  refine ex_icmp_lt (tgt := 12) dX4_give_2 (by decide) (fun c_2 => ?_) (fun c_2 => ?_)
  · refine ex_bipush (v := (-2)) dX4_give_12 (by decide) ?_
    exact ex_iret hQ rfl (by unfold X_give; rw [if_pos (by first | exact Or.inl c_2 | exact Or.inr (Int32.not_le.mp c_9))]; exact ⟨rfl, rfl, S⟩) dX4_give_14
  · refine ex_iload_n 1 dX4_give_5 rfl rfl ?_
    refine ex_sipush (v := nI 9999) dX4_give_6 (by decide) ?_
    refine ex_icmp_le (tgt := 15) dX4_give_9 (by decide) (fun c_9 => ?_) (fun c_9 => ?_)
    · refine ex_aload_n 0 dX4_give_15 rfl rfl ?_
      refine ex_get (v := .ref (b + 1)) fl_X4_10 S.1.ob rfl dX4_give_16 ?_
      refine ex_get (v := .int (u 11)) fl_X4_105 S.1.nob rfl dX4_give_19 ?_
      refine ex_iload_n 1 dX4_give_22 rfl rfl ?_
      refine ex_iadd dX4_give_23 ?_
      refine ex_ldc (v := nI 99999) dX4_give_24 kc_X4_108 ?_
      refine ex_icmp_le (tgt := 32) dX4_give_26 (by decide) (fun c_26 => ?_) (fun c_26 => ?_)
      · refine ex_aload_n 0 dX4_give_32 rfl rfl ?_
        refine ex_get (v := .ref (b + 23)) fl_X4_22 S.1.ob rfl dX4_give_33 ?_
        refine ex_aload_n 0 dX4_give_36 rfl rfl ?_
        refine ex_get (v := .ref (b + 1)) fl_X4_10 S.1.ob rfl dX4_give_37 ?_
        refine exX_rec vl_X4_48 S n8 (by decide) (Nat.le_of_ble_eq_true rfl) (Nat.le_refl _) (Nat.le_refl _) rfl dX4_give_40 (fun h S => ?_)
        have S : XF G h0 h z b ((n, g, t, u, q), (if k < 6 then k + 1 else 6), (recR k L (n, g, t, u, q)), V, len, c) := S
        refine ex_aload_n 0 dX4_give_43 rfl rfl ?_
        refine ex_get (v := .ref (b + 1)) fl_X4_10 S.1.ob rfl dX4_give_44 ?_
        refine ex_dup dX4_give_47 rfl ?_
        refine ex_get (v := .int (u 11)) fl_X4_105 S.1.nob rfl dX4_give_48 ?_
        refine ex_iload_n 1 dX4_give_51 rfl rfl ?_
        refine ex_iadd dX4_give_52 ?_
        refine exX_putU (i := 11) S fl_X4_105 (by decide) (by decide) rfl dX4_give_53 (fun h S => ?_)
        refine ex_aload_n 0 dX4_give_56 rfl rfl ?_
        refine ex_get (v := .ref (b + 1)) fl_X4_10 S.1.ob rfl dX4_give_57 ?_
        refine ex_dup dX4_give_60 rfl ?_
        refine ex_get (v := .int (u 16)) fl_X4_109 S.1.nob rfl dX4_give_61 ?_
        refine ex_iload_n 1 dX4_give_64 rfl rfl ?_
        refine ex_iadd dX4_give_65 ?_
        refine exX_putU (i := 16) S fl_X4_109 (by decide) (by decide) rfl dX4_give_66 (fun h S => ?_)
        refine ex_aload_n 0 dX4_give_69 rfl rfl ?_
        refine ex_get (v := .ref (b + 1)) fl_X4_10 S.1.ob rfl dX4_give_70 ?_
        refine ex_get (v := .int ((u 11) + v)) fl_X4_105 S.1.nob rfl dX4_give_73 ?_
        exact ex_iret hQ rfl (by unfold X_give; rw [if_neg (fun q9 => q9.elim c_2 (fun q9 => absurd c_9 (Int32.not_le.mpr q9))), if_neg (Int32.not_lt.mpr c_26)]; exact ⟨rfl, rfl, S⟩) dX4_give_76
      · refine ex_bipush (v := (-4)) dX4_give_29 (by decide) ?_
        exact ex_iret hQ rfl (by unfold X_give; rw [if_neg (fun q9 => q9.elim c_2 (fun q9 => absurd c_9 (Int32.not_le.mpr q9))), if_pos (Int32.not_le.mp c_26)]; exact ⟨rfl, rfl, S⟩) dX4_give_31
    · refine ex_bipush (v := (-2)) dX4_give_12 (by decide) ?_
      exact ex_iret hQ rfl (by unfold X_give; rw [if_pos (by first | exact Or.inl c_2 | exact Or.inr (Int32.not_le.mp c_9))]; exact ⟨rfl, rfl, S⟩) dX4_give_14
end
section
set_option maxRecDepth 20000 in
set_option maxHeartbeats 2000000 in
theorem c_pass {G : GG} {l : Launch} {h0 : HP} {z b : Nat} {n : Nat} {g : Option Nat} {t : Nat} {u : Nat → Int32} {q : Nat → Nat → Int32} {k len : Nat} {L : Nat → AS} {V : Nat → Option AS} {c : Nat → Nat} (S0 : PP G h0 z b ((n, g, t, u, q), k, L, V, len, c)) (wf : wfA (n, g, t, u, q)) (m3 : 0 < u 3) {v : Int32} : Ct G l 5 0 0 yX4_pass cX4_pass 3 (some .int) [.ref b, .int v] h0 z (pX G (X_pass ((n, g, t, u, q), k, L, V, len, c) v) h0 z b) := by
  refine Ct.intro (lv := [(0, .ref b), (1, .int v)]) (by decide +kernel) (Nat.le_of_ble_eq_true rfl) rfl (fun X Q hQ hnm => ?_)
  have S := S0.xf
  have n8 : n ≤ 8 := wf.1
  refine ex_iload_n 1 dX4_pass_0 rfl rfl ?_
  refine ex_iconst (v := nI 1) dX4_pass_1 (by decide) ?_
  refine ex_icmp_lt (tgt := 11) dX4_pass_2 (by decide) (fun c_2 => ?_) (fun c_2 => ?_)
  · refine ex_bipush (v := (-2)) dX4_pass_11 (by decide) ?_
    exact ex_iret hQ rfl (by unfold X_pass; rw [if_pos (by first | exact Or.inl c_2 | exact Or.inr (Int32.not_le.mp c_8))]; exact ⟨rfl, rfl, S⟩) dX4_pass_13
  · refine ex_iload_n 1 dX4_pass_5 rfl rfl ?_
    refine ex_bipush (v := nI 99) dX4_pass_6 (by decide) ?_
    refine ex_icmp_le (tgt := 14) dX4_pass_8 (by decide) (fun c_8 => ?_) (fun c_8 => ?_)
    · obtain ⟨j, j1, j2, rfl⟩ := rngI (by omega) (by omega) c_2 c_8
      refine ex_aload_n 0 dX4_pass_14 rfl rfl ?_
      refine ex_get (v := .ref (b + 1)) fl_X4_10 S.1.ob rfl dX4_pass_15 ?_
      refine ex_get (v := .int (u 6)) fl_X4_112 S.1.nob rfl dX4_pass_18 ?_
      refine ex_iload_n 1 dX4_pass_21 rfl rfl ?_
      refine ex_iadd dX4_pass_22 ?_
      refine ex_sipush (v := nI 9999) dX4_pass_23 (by decide) ?_
      refine ex_icmp_le (tgt := 32) dX4_pass_26 (by decide) (fun c_26 => ?_) (fun c_26 => ?_)
      · refine ex_aload_n 0 dX4_pass_32 rfl rfl ?_
        refine ex_get (v := .ref (b + 23)) fl_X4_22 S.1.ob rfl dX4_pass_33 ?_
        refine ex_aload_n 0 dX4_pass_36 rfl rfl ?_
        refine ex_get (v := .ref (b + 1)) fl_X4_10 S.1.ob rfl dX4_pass_37 ?_
        refine exX_rec vl_X4_48 S n8 (by decide) (Nat.le_of_ble_eq_true rfl) (Nat.le_refl _) (Nat.le_refl _) rfl dX4_pass_40 (fun h S => ?_)
        have S : XF G h0 h z b ((n, g, t, u, q), (if k < 6 then k + 1 else 6), (recR k L (n, g, t, u, q)), V, len, c) := S
        refine ex_aload_n 0 dX4_pass_43 rfl rfl ?_
        refine ex_get (v := .ref (b + 1)) fl_X4_10 S.1.ob rfl dX4_pass_44 ?_
        refine ex_get (v := .int (u 13)) fl_X4_115 S.1.nob rfl dX4_pass_47 ?_
        refine ex_istore_n (lv' := [(2, .int (u 13)), (0, .ref b), (1, .int (nI j))]) dX4_pass_50 rfl (by decide) rfl ?_
        refine ex_aload_n 1 dX4_pass_51 rfl rfl ?_
        refine ex_get (v := .ref (b + 1)) fl_X4_10 S.1.ob rfl dX4_pass_52 ?_
        refine ex_iload_n 2 dX4_pass_55 rfl rfl ?_
        refine exX_now (As := [.int (nI j)]) (r0 := none) (f := fun π => π) (B := itA j (n, g, t, u, q)) vl_X4_118 rfl S (fun π hN => c_liveDays hN wf m3 (by omega)) rfl (by decide) (Nat.le_of_ble_eq_true rfl) (Nat.le_refl _) (Nat.le_refl _) rfl dX4_pass_56 (fun h S => ?_)
        have S : XF G h0 h z b (itA j (n, g, t, u, q), (if k < 6 then k + 1 else 6), (recR k L (n, g, t, u, q)), V, len, c) := S
        refine ex_aload_n 1 dX4_pass_59 rfl rfl ?_
        refine ex_get (v := .ref (b + 1)) fl_X4_10 S.1.ob rfl dX4_pass_60 ?_
        refine ex_get (v := .int ((itA j (n, g, t, u, q)).2.2.2.1 13)) fl_X4_115 S.1.nob rfl dX4_pass_63 ?_
        refine ex_iload_n 0 dX4_pass_66 rfl rfl ?_
        refine ex_isub dX4_pass_67 ?_
        exact ex_iret hQ rfl (by have hc : ¬ (nI j < nI 1 ∨ nI 99 < nI j) := fun q9 => q9.elim c_2 (fun q9 => absurd c_8 (Int32.not_le.mpr q9)); unfold X_pass; rw [if_neg hc, if_neg (Int32.not_lt.mpr c_26), ixn (by omega)]; exact ⟨rfl, rfl, S⟩) dX4_pass_68
      · refine ex_bipush (v := (-4)) dX4_pass_29 (by decide) ?_
        exact ex_iret hQ rfl (by have hc : ¬ (nI j < nI 1 ∨ nI 99 < nI j) := fun q9 => q9.elim c_2 (fun q9 => absurd c_8 (Int32.not_le.mpr q9)); unfold X_pass; rw [if_neg hc, if_pos (Int32.not_le.mp c_26)]; exact ⟨rfl, rfl, S⟩) dX4_pass_31
    · refine ex_bipush (v := (-2)) dX4_pass_11 (by decide) ?_
      exact ex_iret hQ rfl (by unfold X_pass; rw [if_pos (by first | exact Or.inl c_2 | exact Or.inr (Int32.not_le.mp c_8))]; exact ⟨rfl, rfl, S⟩) dX4_pass_13

set_option maxRecDepth 20000 in
set_option maxHeartbeats 2000000 in
theorem c_person {G : GG} {l : Launch} {h0 : HP} {z b : Nat} {n : Nat} {g : Option Nat} {t : Nat} {u : Nat → Int32} {q : Nat → Nat → Int32} {k len : Nat} {L : Nat → AS} {V : Nat → Option AS} {c : Nat → Nat} (S0 : PP G h0 z b ((n, g, t, u, q), k, L, V, len, c)) (n8 : n ≤ 8) (gw : ∀ i, g = some i → i < n) {p x : Int32} : Ct G l 2 0 0 yX4_person cX4_person 4 (some .int) [.ref b, .int p, .int x] h0 z (pX G (X_person ((n, g, t, u, q), k, L, V, len, c) p x, ((n, g, t, u, q), k, L, V, len, c)) h0 z b) := by
  refine Ct.intro (lv := [(0, .ref b), (1, .int p), (2, .int x)]) (by decide +kernel) (Nat.le_of_ble_eq_true rfl) rfl (fun X Q hQ hnm => ?_)
  have S := S0.xf
  obtain ⟨π, hN⟩ := S.1.2.1
  rcases inR_or p n (by omega) with ⟨i, hp, rfl⟩ | hp
  · refine ex_aload_n 0 dX4_person_0 rfl rfl ?_
    refine ex_get (v := .ref (b + 1)) fl_X4_10 S.1.ob rfl dX4_person_1 ?_
    refine ex_iload_n 1 dX4_person_4 rfl rfl ?_
    refine ex_call0 (As := [.int (nI i)]) (v := .ref (b + 1 + 3 + π i)) (ci := 3) vl_X4_76 rfl (c_at hN (by omega) hp n8) hN.ob rfl (by decide) (Nat.le_of_ble_eq_true rfl) (Nat.le_refl _) (Nat.le_refl _) rfl dX4_person_5 ?_
    refine ex_astore_n (lv' := [(3, .ref (b + 1 + 3 + π i)), (0, .ref b), (1, .int (nI i)), (2, .int x)]) dX4_person_8 rfl (by decide) rfl ?_
    refine ex_aload_n 0 dX4_person_9 rfl rfl ?_
    refine ex_ifnonnull (tgt := 15) dX4_person_10 (by decide) ?_
    rcases inR_or x 9 (by omega) with ⟨m, hx, rfl⟩ | hx
    · rcases (show m = 0 ∨ m = 1 ∨ m = 2 ∨ m = 3 ∨ m = 4 ∨ m = 5 ∨ m = 6 ∨ m = 7 ∨ m = 8 by omega) with rfl | rfl | rfl | rfl | rfl | rfl | rfl | rfl | rfl
      · refine ex_iload_n 3 dX4_person_15 rfl rfl ?_
        refine ex_tableIn (off := 52) (tgt := 68) dX4_person_16 (by decide) (by decide) (by decide) (by decide) ?_
        refine ex_aload_n 0 dX4_person_68 rfl rfl ?_
        refine ex_get (v := .int (q i 0)) fl_X4_121 (hN.pe (by omega) hp) rfl dX4_person_69 ?_
        exact ex_iret hQ rfl (by unfold X_person; dsimp only; rw [if_pos (inR_nI hp (by omega)), if_pos (inR_nI hx (by decide)), ixn (by omega), ixn (by omega)]; exact ⟨rfl, rfl, S⟩) dX4_person_72
      · refine ex_iload_n 3 dX4_person_15 rfl rfl ?_
        refine ex_tableIn (off := 57) (tgt := 73) dX4_person_16 (by decide) (by decide) (by decide) (by decide) ?_
        refine ex_aload_n 0 dX4_person_73 rfl rfl ?_
        refine ex_get (v := .int (q i 1)) fl_X4_126 (hN.pe (by omega) hp) rfl dX4_person_74 ?_
        exact ex_iret hQ rfl (by unfold X_person; dsimp only; rw [if_pos (inR_nI hp (by omega)), if_pos (inR_nI hx (by decide)), ixn (by omega), ixn (by omega)]; exact ⟨rfl, rfl, S⟩) dX4_person_77
      · refine ex_iload_n 3 dX4_person_15 rfl rfl ?_
        refine ex_tableIn (off := 62) (tgt := 78) dX4_person_16 (by decide) (by decide) (by decide) (by decide) ?_
        refine ex_aload_n 0 dX4_person_78 rfl rfl ?_
        refine ex_get (v := .int (q i 2)) fl_X4_129 (hN.pe (by omega) hp) rfl dX4_person_79 ?_
        exact ex_iret hQ rfl (by unfold X_person; dsimp only; rw [if_pos (inR_nI hp (by omega)), if_pos (inR_nI hx (by decide)), ixn (by omega), ixn (by omega)]; exact ⟨rfl, rfl, S⟩) dX4_person_82
      · refine ex_iload_n 3 dX4_person_15 rfl rfl ?_
        refine ex_tableIn (off := 67) (tgt := 83) dX4_person_16 (by decide) (by decide) (by decide) (by decide) ?_
        refine ex_aload_n 0 dX4_person_83 rfl rfl ?_
        refine ex_get (v := .int (q i 3)) fl_X4_132 (hN.pe (by omega) hp) rfl dX4_person_84 ?_
        exact ex_iret hQ rfl (by unfold X_person; dsimp only; rw [if_pos (inR_nI hp (by omega)), if_pos (inR_nI hx (by decide)), ixn (by omega), ixn (by omega)]; exact ⟨rfl, rfl, S⟩) dX4_person_87
      · refine ex_iload_n 3 dX4_person_15 rfl rfl ?_
        refine ex_tableIn (off := 72) (tgt := 88) dX4_person_16 (by decide) (by decide) (by decide) (by decide) ?_
        refine ex_aload_n 1 dX4_person_88 rfl rfl ?_
        refine ex_get (v := .ref (b + 1)) fl_X4_10 S.1.ob rfl dX4_person_89 ?_
        refine ex_aload_n 0 dX4_person_92 rfl rfl ?_
        refine ex_call0 (As := [.ref (b + 1 + 3 + π i)]) (v := .int (bB u q i)) (ci := 3) vl_X4_135 rfl (c_isBarred hN (by omega) hp) hN.ob rfl (by decide) (Nat.le_of_ble_eq_true rfl) (Nat.le_refl _) (Nat.le_refl _) rfl dX4_person_93 ?_
        refine ex_if_eq (tgt := 103) dX4_person_96 (by decide) (fun c_96 => ?_) (fun c_96 => ?_)
        · refine ex_iconst (v := nI 0) dX4_person_103 (by decide) ?_
          exact ex_iret hQ rfl (by unfold X_person; dsimp only; rw [if_pos (inR_nI hp (by omega)), if_pos (inR_nI hx (by decide)), ixn (by omega), ixn (by omega)]; first | exact ⟨congrArg (fun x => some (Value.int x)) c_96.symm, rfl, S⟩ | exact ⟨congrArg (fun x => some (Value.int x)) (bI_e1 c_96).symm, rfl, S⟩) dX4_person_104
        · refine ex_iconst (v := nI 1) dX4_person_99 (by decide) ?_
          refine ex_goto (tgt := 104) dX4_person_100 (by decide) ?_
          exact ex_iret hQ rfl (by unfold X_person; dsimp only; rw [if_pos (inR_nI hp (by omega)), if_pos (inR_nI hx (by decide)), ixn (by omega), ixn (by omega)]; first | exact ⟨congrArg (fun x => some (Value.int x)) c_96.symm, rfl, S⟩ | exact ⟨congrArg (fun x => some (Value.int x)) (bI_e1 c_96).symm, rfl, S⟩) dX4_person_104
      · refine ex_iload_n 3 dX4_person_15 rfl rfl ?_
        refine ex_tableIn (off := 89) (tgt := 105) dX4_person_16 (by decide) (by decide) (by decide) (by decide) ?_
        refine ex_aload_n 1 dX4_person_105 rfl rfl ?_
        refine ex_get (v := .ref (b + 1)) fl_X4_10 S.1.ob rfl dX4_person_106 ?_
        refine ex_aload_n 0 dX4_person_109 rfl rfl ?_
        refine ex_call0 (As := [.ref (b + 1 + 3 + π i)]) (v := .int (scI u q i)) (ci := 3) vl_X4_139 rfl (c_score hN (by omega) hp) hN.ob rfl (by decide) (Nat.le_of_ble_eq_true rfl) (Nat.le_refl _) (Nat.le_refl _) rfl dX4_person_110 ?_
        refine ex_sipush (v := nI 1000) dX4_person_113 (by decide) ?_
        refine ex_iadd dX4_person_116 ?_
        exact ex_iret hQ rfl (by unfold X_person; dsimp only; rw [if_pos (inR_nI hp (by omega)), if_pos (inR_nI hx (by decide)), ixn (by omega), ixn (by omega)]; exact ⟨rfl, rfl, S⟩) dX4_person_117
      · refine ex_iload_n 3 dX4_person_15 rfl rfl ?_
        refine ex_tableIn (off := 102) (tgt := 118) dX4_person_16 (by decide) (by decide) (by decide) (by decide) ?_
        refine ex_aload_n 0 dX4_person_118 rfl rfl ?_
        refine ex_get (v := .int (q i 4)) fl_X4_143 (hN.pe (by omega) hp) rfl dX4_person_119 ?_
        exact ex_iret hQ rfl (by unfold X_person; dsimp only; rw [if_pos (inR_nI hp (by omega)), if_pos (inR_nI hx (by decide)), ixn (by omega), ixn (by omega)]; exact ⟨rfl, rfl, S⟩) dX4_person_122
      · refine ex_iload_n 3 dX4_person_15 rfl rfl ?_
        refine ex_tableIn (off := 107) (tgt := 123) dX4_person_16 (by decide) (by decide) (by decide) (by decide) ?_
        refine ex_aload_n 0 dX4_person_123 rfl rfl ?_
        refine ex_get (v := .int (q i 5)) fl_X4_144 (hN.pe (by omega) hp) rfl dX4_person_124 ?_
        exact ex_iret hQ rfl (by unfold X_person; dsimp only; rw [if_pos (inR_nI hp (by omega)), if_pos (inR_nI hx (by decide)), ixn (by omega), ixn (by omega)]; exact ⟨rfl, rfl, S⟩) dX4_person_127
      · refine ex_iload_n 3 dX4_person_15 rfl rfl ?_
        refine ex_tableIn (off := 112) (tgt := 128) dX4_person_16 (by decide) (by decide) (by decide) (by decide) ?_
        refine ex_aload_n 1 dX4_person_128 rfl rfl ?_
        refine ex_get (v := .ref (b + 1)) fl_X4_10 S.1.ob rfl dX4_person_129 ?_
        refine ex_iload_n 2 dX4_person_132 rfl rfl ?_
        refine ex_call0 (As := [.int (nI i)]) (v := .int (mayI n g u q i)) (ci := 3) vl_X4_99 rfl (c_mayAppeal hN (by omega) hp gw n8) hN.ob rfl (by decide) (Nat.le_of_ble_eq_true rfl) (Nat.le_refl _) (Nat.le_refl _) rfl dX4_person_133 ?_
        refine ex_if_eq (tgt := 143) dX4_person_136 (by decide) (fun c_136 => ?_) (fun c_136 => ?_)
        · refine ex_iconst (v := nI 0) dX4_person_143 (by decide) ?_
          exact ex_iret hQ rfl (by unfold X_person; dsimp only; rw [if_pos (inR_nI hp (by omega)), if_pos (inR_nI hx (by decide)), ixn (by omega), ixn (by omega)]; first | exact ⟨congrArg (fun x => some (Value.int x)) c_136.symm, rfl, S⟩ | exact ⟨congrArg (fun x => some (Value.int x)) (mayI_1 c_136).symm, rfl, S⟩) dX4_person_144
        · refine ex_iconst (v := nI 1) dX4_person_139 (by decide) ?_
          refine ex_goto (tgt := 144) dX4_person_140 (by decide) ?_
          exact ex_iret hQ rfl (by unfold X_person; dsimp only; rw [if_pos (inR_nI hp (by omega)), if_pos (inR_nI hx (by decide)), ixn (by omega), ixn (by omega)]; first | exact ⟨congrArg (fun x => some (Value.int x)) c_136.symm, rfl, S⟩ | exact ⟨congrArg (fun x => some (Value.int x)) (mayI_1 c_136).symm, rfl, S⟩) dX4_person_144
    · refine ex_iload_n 3 dX4_person_15 rfl rfl ?_
      refine ex_tableOut (tgt := 145) dX4_person_16 (tabc hx (by decide)) (by decide) ?_
      refine ex_bipush (v := (-2)) dX4_person_145 (by decide) ?_
      exact ex_iret hQ rfl (by unfold X_person; dsimp only; rw [if_pos (inR_nI hp (by omega)), if_neg hx]; exact ⟨rfl, rfl, S⟩) dX4_person_147
  · refine ex_aload_n 0 dX4_person_0 rfl rfl ?_
    refine ex_get (v := .ref (b + 1)) fl_X4_10 S.1.ob rfl dX4_person_1 ?_
    refine ex_iload_n 1 dX4_person_4 rfl rfl ?_
    refine ex_call0 (As := [.int p]) (v := .null) (ci := 3) vl_X4_76 rfl (c_atN hN (inR_not hp) n8) hN.ob rfl (by decide) (Nat.le_of_ble_eq_true rfl) (Nat.le_refl _) (Nat.le_refl _) rfl dX4_person_5 ?_
    refine ex_astore_nN (lv' := [(3, .null), (0, .ref b), (1, .int p), (2, .int x)]) dX4_person_8 rfl (by decide) rfl ?_
    refine ex_aload_nN 0 dX4_person_9 rfl rfl ?_
    refine ex_ifnonnullN dX4_person_10 ?_
    refine ex_iconst (v := (-1)) dX4_person_13 (by decide) ?_
    exact ex_iret hQ rfl (by unfold X_person; dsimp only; rw [if_neg hp]; exact ⟨rfl, rfl, S⟩) dX4_person_14

set_option maxRecDepth 20000 in
set_option maxHeartbeats 2000000 in
theorem c_count {G : GG} {l : Launch} {h0 : HP} {z b : Nat} {n : Nat} {g : Option Nat} {t : Nat} {u : Nat → Int32} {q : Nat → Nat → Int32} {k len : Nat} {L : Nat → AS} {V : Nat → Option AS} {c : Nat → Nat} (S0 : PP G h0 z b ((n, g, t, u, q), k, L, V, len, c)) (n8 : n ≤ 8) (gw : ∀ i, g = some i → i < n) {x : Int32} : Ct G l 2 0 0 yX4_count cX4_count 2 (some .int) [.ref b, .int x] h0 z (pX G (X_count ((n, g, t, u, q), k, L, V, len, c) x, ((n, g, t, u, q), k, L, V, len, c)) h0 z b) := by
  refine Ct.intro (lv := [(0, .ref b), (1, .int x)]) (by decide +kernel) (Nat.le_of_ble_eq_true rfl) rfl (fun X Q hQ hnm => ?_)
  have S := S0.xf
  obtain ⟨π, hN⟩ := S.1.2.1
  rcases inR_or x 21 (by omega) with ⟨m, hx, rfl⟩ | hx
  · rcases (show m = 0 ∨ m = 1 ∨ m = 2 ∨ m = 3 ∨ m = 4 ∨ m = 5 ∨ m = 6 ∨ m = 7 ∨ m = 8 ∨ m = 9 ∨ m = 10 ∨ m = 11 ∨ m = 12 ∨ m = 13 ∨ m = 14 ∨ m = 15 ∨ m = 16 ∨ m = 17 ∨ m = 18 ∨ m = 19 ∨ m = 20 by omega) with rfl | rfl | rfl | rfl | rfl | rfl | rfl | rfl | rfl | rfl | rfl | rfl | rfl | rfl | rfl | rfl | rfl | rfl | rfl | rfl | rfl
    · refine ex_iload_n 1 dX4_count_0 rfl rfl ?_
      refine ex_callS0 (As := [.int (nI 0)]) (v := .int (nI 1)) vl_X4_37 (c_isSettingT (by decide)) rfl (by decide) (Nat.le_of_ble_eq_true rfl) (Nat.le_refl _) (Nat.le_refl _) rfl dX4_count_1 ?_
      refine ex_if_eq (tgt := 17) dX4_count_4 (by decide) (fun c_4 => absurd c_4 (by decide)) (fun c_4 => ?_)
      refine ex_aload_n 0 dX4_count_7 rfl rfl ?_
      refine ex_get (v := .ref (b + 1)) fl_X4_10 S.1.ob rfl dX4_count_8 ?_
      refine ex_get (v := .ref (b + 1 + 1)) fl_X4_52 S.1.nob rfl dX4_count_11 ?_
      refine ex_iload_n 1 dX4_count_14 rfl rfl ?_
      refine exX_ld (i := 0) (w := u 0) S rfl (by decide) rfl dX4_count_15 ?_
      exact ex_iret hQ rfl (by unfold X_count; rw [if_pos (inR_nI hx (by decide)), ixn (by decide)]; exact ⟨rfl, rfl, S⟩) dX4_count_16
    · refine ex_iload_n 1 dX4_count_0 rfl rfl ?_
      refine ex_callS0 (As := [.int (nI 1)]) (v := .int (nI 1)) vl_X4_37 (c_isSettingT (by decide)) rfl (by decide) (Nat.le_of_ble_eq_true rfl) (Nat.le_refl _) (Nat.le_refl _) rfl dX4_count_1 ?_
      refine ex_if_eq (tgt := 17) dX4_count_4 (by decide) (fun c_4 => absurd c_4 (by decide)) (fun c_4 => ?_)
      refine ex_aload_n 0 dX4_count_7 rfl rfl ?_
      refine ex_get (v := .ref (b + 1)) fl_X4_10 S.1.ob rfl dX4_count_8 ?_
      refine ex_get (v := .ref (b + 1 + 1)) fl_X4_52 S.1.nob rfl dX4_count_11 ?_
      refine ex_iload_n 1 dX4_count_14 rfl rfl ?_
      refine exX_ld (i := 1) (w := u 1) S rfl (by decide) rfl dX4_count_15 ?_
      exact ex_iret hQ rfl (by unfold X_count; rw [if_pos (inR_nI hx (by decide)), ixn (by decide)]; exact ⟨rfl, rfl, S⟩) dX4_count_16
    · refine ex_iload_n 1 dX4_count_0 rfl rfl ?_
      refine ex_callS0 (As := [.int (nI 2)]) (v := .int (nI 1)) vl_X4_37 (c_isSettingT (by decide)) rfl (by decide) (Nat.le_of_ble_eq_true rfl) (Nat.le_refl _) (Nat.le_refl _) rfl dX4_count_1 ?_
      refine ex_if_eq (tgt := 17) dX4_count_4 (by decide) (fun c_4 => absurd c_4 (by decide)) (fun c_4 => ?_)
      refine ex_aload_n 0 dX4_count_7 rfl rfl ?_
      refine ex_get (v := .ref (b + 1)) fl_X4_10 S.1.ob rfl dX4_count_8 ?_
      refine ex_get (v := .ref (b + 1 + 1)) fl_X4_52 S.1.nob rfl dX4_count_11 ?_
      refine ex_iload_n 1 dX4_count_14 rfl rfl ?_
      refine exX_ld (i := 2) (w := u 2) S rfl (by decide) rfl dX4_count_15 ?_
      exact ex_iret hQ rfl (by unfold X_count; rw [if_pos (inR_nI hx (by decide)), ixn (by decide)]; exact ⟨rfl, rfl, S⟩) dX4_count_16
    · refine ex_iload_n 1 dX4_count_0 rfl rfl ?_
      refine ex_callS0 (As := [.int (nI 3)]) (v := .int (nI 1)) vl_X4_37 (c_isSettingT (by decide)) rfl (by decide) (Nat.le_of_ble_eq_true rfl) (Nat.le_refl _) (Nat.le_refl _) rfl dX4_count_1 ?_
      refine ex_if_eq (tgt := 17) dX4_count_4 (by decide) (fun c_4 => absurd c_4 (by decide)) (fun c_4 => ?_)
      refine ex_aload_n 0 dX4_count_7 rfl rfl ?_
      refine ex_get (v := .ref (b + 1)) fl_X4_10 S.1.ob rfl dX4_count_8 ?_
      refine ex_get (v := .ref (b + 1 + 1)) fl_X4_52 S.1.nob rfl dX4_count_11 ?_
      refine ex_iload_n 1 dX4_count_14 rfl rfl ?_
      refine exX_ld (i := 3) (w := u 3) S rfl (by decide) rfl dX4_count_15 ?_
      exact ex_iret hQ rfl (by unfold X_count; rw [if_pos (inR_nI hx (by decide)), ixn (by decide)]; exact ⟨rfl, rfl, S⟩) dX4_count_16
    · refine ex_iload_n 1 dX4_count_0 rfl rfl ?_
      refine ex_callS0 (As := [.int (nI 4)]) (v := .int (nI 1)) vl_X4_37 (c_isSettingT (by decide)) rfl (by decide) (Nat.le_of_ble_eq_true rfl) (Nat.le_refl _) (Nat.le_refl _) rfl dX4_count_1 ?_
      refine ex_if_eq (tgt := 17) dX4_count_4 (by decide) (fun c_4 => absurd c_4 (by decide)) (fun c_4 => ?_)
      refine ex_aload_n 0 dX4_count_7 rfl rfl ?_
      refine ex_get (v := .ref (b + 1)) fl_X4_10 S.1.ob rfl dX4_count_8 ?_
      refine ex_get (v := .ref (b + 1 + 1)) fl_X4_52 S.1.nob rfl dX4_count_11 ?_
      refine ex_iload_n 1 dX4_count_14 rfl rfl ?_
      refine exX_ld (i := 4) (w := u 4) S rfl (by decide) rfl dX4_count_15 ?_
      exact ex_iret hQ rfl (by unfold X_count; rw [if_pos (inR_nI hx (by decide)), ixn (by decide)]; exact ⟨rfl, rfl, S⟩) dX4_count_16
    · refine ex_iload_n 1 dX4_count_0 rfl rfl ?_
      refine ex_callS0 (As := [.int (nI 5)]) (v := .int (nI 1)) vl_X4_37 (c_isSettingT (by decide)) rfl (by decide) (Nat.le_of_ble_eq_true rfl) (Nat.le_refl _) (Nat.le_refl _) rfl dX4_count_1 ?_
      refine ex_if_eq (tgt := 17) dX4_count_4 (by decide) (fun c_4 => absurd c_4 (by decide)) (fun c_4 => ?_)
      refine ex_aload_n 0 dX4_count_7 rfl rfl ?_
      refine ex_get (v := .ref (b + 1)) fl_X4_10 S.1.ob rfl dX4_count_8 ?_
      refine ex_get (v := .ref (b + 1 + 1)) fl_X4_52 S.1.nob rfl dX4_count_11 ?_
      refine ex_iload_n 1 dX4_count_14 rfl rfl ?_
      refine exX_ld (i := 5) (w := u 5) S rfl (by decide) rfl dX4_count_15 ?_
      exact ex_iret hQ rfl (by unfold X_count; rw [if_pos (inR_nI hx (by decide)), ixn (by decide)]; exact ⟨rfl, rfl, S⟩) dX4_count_16
    · refine ex_iload_n 1 dX4_count_0 rfl rfl ?_
      refine ex_callS0 (As := [.int (nI 6)]) (v := .int (nI 0)) vl_X4_37 (c_isSettingF (by decide)) rfl (by decide) (Nat.le_of_ble_eq_true rfl) (Nat.le_refl _) (Nat.le_refl _) rfl dX4_count_1 ?_
      refine ex_if_eq (tgt := 17) dX4_count_4 (by decide) (fun c_4 => ?_) (fun c_4 => absurd (by decide) c_4)
      refine ex_iload_n 1 dX4_count_17 rfl rfl ?_
      refine ex_tableIn (off := 74) (tgt := 92) dX4_count_18 (by decide) (by decide) (by decide) (by decide) ?_
      refine ex_aload_n 0 dX4_count_92 rfl rfl ?_
      refine ex_get (v := .ref (b + 1)) fl_X4_10 S.1.ob rfl dX4_count_93 ?_
      refine ex_get (v := .int (u 6)) fl_X4_112 S.1.nob rfl dX4_count_96 ?_
      exact ex_iret hQ rfl (by unfold X_count; rw [if_pos (inR_nI hx (by decide)), ixn (by decide)]; exact ⟨rfl, rfl, S⟩) dX4_count_99
    · refine ex_iload_n 1 dX4_count_0 rfl rfl ?_
      refine ex_callS0 (As := [.int (nI 7)]) (v := .int (nI 0)) vl_X4_37 (c_isSettingF (by decide)) rfl (by decide) (Nat.le_of_ble_eq_true rfl) (Nat.le_refl _) (Nat.le_refl _) rfl dX4_count_1 ?_
      refine ex_if_eq (tgt := 17) dX4_count_4 (by decide) (fun c_4 => ?_) (fun c_4 => absurd (by decide) c_4)
      refine ex_iload_n 1 dX4_count_17 rfl rfl ?_
      refine ex_tableIn (off := 82) (tgt := 100) dX4_count_18 (by decide) (by decide) (by decide) (by decide) ?_
      refine ex_aload_n 0 dX4_count_100 rfl rfl ?_
      refine ex_get (v := .ref (b + 1)) fl_X4_10 S.1.ob rfl dX4_count_101 ?_
      refine ex_get (v := .int (nI n)) fl_X4_55 S.1.nob rfl dX4_count_104 ?_
      exact ex_iret hQ rfl (by unfold X_count; rw [if_pos (inR_nI hx (by decide)), ixn (by decide)]; exact ⟨rfl, rfl, S⟩) dX4_count_107
    · refine ex_iload_n 1 dX4_count_0 rfl rfl ?_
      refine ex_callS0 (As := [.int (nI 8)]) (v := .int (nI 0)) vl_X4_37 (c_isSettingF (by decide)) rfl (by decide) (Nat.le_of_ble_eq_true rfl) (Nat.le_refl _) (Nat.le_refl _) rfl dX4_count_1 ?_
      refine ex_if_eq (tgt := 17) dX4_count_4 (by decide) (fun c_4 => ?_) (fun c_4 => absurd (by decide) c_4)
      refine ex_iload_n 1 dX4_count_17 rfl rfl ?_
      refine ex_tableIn (off := 90) (tgt := 108) dX4_count_18 (by decide) (by decide) (by decide) (by decide) ?_
      refine ex_aload_n 0 dX4_count_108 rfl rfl ?_
      refine ex_get (v := .ref (b + 1)) fl_X4_10 S.1.ob rfl dX4_count_109 ?_
      refine ex_get (v := .int (u 8)) fl_X4_147 S.1.nob rfl dX4_count_112 ?_
      exact ex_iret hQ rfl (by unfold X_count; rw [if_pos (inR_nI hx (by decide)), ixn (by decide)]; exact ⟨rfl, rfl, S⟩) dX4_count_115
    · refine ex_iload_n 1 dX4_count_0 rfl rfl ?_
      refine ex_callS0 (As := [.int (nI 9)]) (v := .int (nI 0)) vl_X4_37 (c_isSettingF (by decide)) rfl (by decide) (Nat.le_of_ble_eq_true rfl) (Nat.le_refl _) (Nat.le_refl _) rfl dX4_count_1 ?_
      refine ex_if_eq (tgt := 17) dX4_count_4 (by decide) (fun c_4 => ?_) (fun c_4 => absurd (by decide) c_4)
      refine ex_iload_n 1 dX4_count_17 rfl rfl ?_
      refine ex_tableIn (off := 98) (tgt := 116) dX4_count_18 (by decide) (by decide) (by decide) (by decide) ?_
      refine ex_aload_n 0 dX4_count_116 rfl rfl ?_
      refine ex_get (v := .ref (b + 1)) fl_X4_10 S.1.ob rfl dX4_count_117 ?_
      refine ex_get (v := .int (gv g)) fl_X4_89 S.1.nob rfl dX4_count_120 ?_
      exact ex_iret hQ rfl (by unfold X_count; rw [if_pos (inR_nI hx (by decide)), ixn (by decide)]; exact ⟨rfl, rfl, S⟩) dX4_count_123
    · rcases g with _ | i
      · refine ex_iload_n 1 dX4_count_0 rfl rfl ?_
        refine ex_callS0 (As := [.int (nI 10)]) (v := .int (nI 0)) vl_X4_37 (c_isSettingF (by decide)) rfl (by decide) (Nat.le_of_ble_eq_true rfl) (Nat.le_refl _) (Nat.le_refl _) rfl dX4_count_1 ?_
        refine ex_if_eq (tgt := 17) dX4_count_4 (by decide) (fun c_4 => ?_) (fun c_4 => absurd (by decide) c_4)
        refine ex_iload_n 1 dX4_count_17 rfl rfl ?_
        refine ex_tableIn (off := 106) (tgt := 124) dX4_count_18 (by decide) (by decide) (by decide) (by decide) ?_
        refine ex_aload_n 0 dX4_count_124 rfl rfl ?_
        refine ex_get (v := .ref (b + 1)) fl_X4_10 S.1.ob rfl dX4_count_125 ?_
        refine ex_get (v := .int (-6)) fl_X4_89 S.1.nob rfl dX4_count_128 ?_
        refine ex_bipush (v := (-6)) dX4_count_131 (by decide) ?_
        refine ex_icmp_ne (tgt := 146) dX4_count_133 (by decide) (fun c_133 => absurd (rfl) c_133) (fun c_133 => ?_)
        refine ex_aload_n 0 dX4_count_136 rfl rfl ?_
        refine ex_get (v := .ref (b + 1)) fl_X4_10 S.1.ob rfl dX4_count_137 ?_
        refine ex_get (v := .int (nI t)) fl_X4_150 S.1.nob rfl dX4_count_140 ?_
        refine ex_goto (tgt := 148) dX4_count_143 (by decide) ?_
        exact ex_iret hQ rfl (by unfold X_count; rw [if_pos (inR_nI hx (by decide)), ixn (by decide)]; exact ⟨rfl, rfl, S⟩) dX4_count_148
      · have hi : i < n := gw i rfl
        refine ex_iload_n 1 dX4_count_0 rfl rfl ?_
        refine ex_callS0 (As := [.int (nI 10)]) (v := .int (nI 0)) vl_X4_37 (c_isSettingF (by decide)) rfl (by decide) (Nat.le_of_ble_eq_true rfl) (Nat.le_refl _) (Nat.le_refl _) rfl dX4_count_1 ?_
        refine ex_if_eq (tgt := 17) dX4_count_4 (by decide) (fun c_4 => ?_) (fun c_4 => absurd (by decide) c_4)
        refine ex_iload_n 1 dX4_count_17 rfl rfl ?_
        refine ex_tableIn (off := 106) (tgt := 124) dX4_count_18 (by decide) (by decide) (by decide) (by decide) ?_
        refine ex_aload_n 0 dX4_count_124 rfl rfl ?_
        refine ex_get (v := .ref (b + 1)) fl_X4_10 S.1.ob rfl dX4_count_125 ?_
        refine ex_get (v := .int (nI i)) fl_X4_89 S.1.nob rfl dX4_count_128 ?_
        refine ex_bipush (v := (-6)) dX4_count_131 (by decide) ?_
        refine ex_icmp_ne (tgt := 146) dX4_count_133 (by decide) (fun c_133 => ?_) (fun c_133 => absurd c_133 (nI_n6 (by omega)))
        refine ex_bipush (v := (-6)) dX4_count_146 (by decide) ?_
        exact ex_iret hQ rfl (by unfold X_count; rw [if_pos (inR_nI hx (by decide)), ixn (by decide)]; exact ⟨rfl, rfl, S⟩) dX4_count_148
    · refine ex_iload_n 1 dX4_count_0 rfl rfl ?_
      refine ex_callS0 (As := [.int (nI 11)]) (v := .int (nI 0)) vl_X4_37 (c_isSettingF (by decide)) rfl (by decide) (Nat.le_of_ble_eq_true rfl) (Nat.le_refl _) (Nat.le_refl _) rfl dX4_count_1 ?_
      refine ex_if_eq (tgt := 17) dX4_count_4 (by decide) (fun c_4 => ?_) (fun c_4 => absurd (by decide) c_4)
      refine ex_iload_n 1 dX4_count_17 rfl rfl ?_
      refine ex_tableIn (off := 131) (tgt := 149) dX4_count_18 (by decide) (by decide) (by decide) (by decide) ?_
      refine ex_aload_n 0 dX4_count_149 rfl rfl ?_
      refine ex_get (v := .ref (b + 1)) fl_X4_10 S.1.ob rfl dX4_count_150 ?_
      refine ex_get (v := .int (u 11)) fl_X4_105 S.1.nob rfl dX4_count_153 ?_
      exact ex_iret hQ rfl (by unfold X_count; rw [if_pos (inR_nI hx (by decide)), ixn (by decide)]; exact ⟨rfl, rfl, S⟩) dX4_count_156
    · refine ex_iload_n 1 dX4_count_0 rfl rfl ?_
      refine ex_callS0 (As := [.int (nI 12)]) (v := .int (nI 0)) vl_X4_37 (c_isSettingF (by decide)) rfl (by decide) (Nat.le_of_ble_eq_true rfl) (Nat.le_refl _) (Nat.le_refl _) rfl dX4_count_1 ?_
      refine ex_if_eq (tgt := 17) dX4_count_4 (by decide) (fun c_4 => ?_) (fun c_4 => absurd (by decide) c_4)
      refine ex_iload_n 1 dX4_count_17 rfl rfl ?_
      refine ex_tableIn (off := 139) (tgt := 157) dX4_count_18 (by decide) (by decide) (by decide) (by decide) ?_
      refine ex_aload_n 0 dX4_count_157 rfl rfl ?_
      refine ex_get (v := .ref (b + 1)) fl_X4_10 S.1.ob rfl dX4_count_158 ?_
      refine ex_call0 (As := []) (v := .int (sumB u q n)) (ci := 3) vl_X4_153 rfl (c_barredPeople hN n8) hN.ob rfl (by decide) (Nat.le_of_ble_eq_true rfl) (Nat.le_refl _) (Nat.le_refl _) rfl dX4_count_161 ?_
      exact ex_iret hQ rfl (by unfold X_count; rw [if_pos (inR_nI hx (by decide)), ixn (by decide)]; exact ⟨rfl, rfl, S⟩) dX4_count_164
    · refine ex_iload_n 1 dX4_count_0 rfl rfl ?_
      refine ex_callS0 (As := [.int (nI 13)]) (v := .int (nI 0)) vl_X4_37 (c_isSettingF (by decide)) rfl (by decide) (Nat.le_of_ble_eq_true rfl) (Nat.le_refl _) (Nat.le_refl _) rfl dX4_count_1 ?_
      refine ex_if_eq (tgt := 17) dX4_count_4 (by decide) (fun c_4 => ?_) (fun c_4 => absurd (by decide) c_4)
      refine ex_iload_n 1 dX4_count_17 rfl rfl ?_
      refine ex_tableIn (off := 147) (tgt := 165) dX4_count_18 (by decide) (by decide) (by decide) (by decide) ?_
      refine ex_aload_n 0 dX4_count_165 rfl rfl ?_
      refine ex_get (v := .ref (b + 1)) fl_X4_10 S.1.ob rfl dX4_count_166 ?_
      refine ex_get (v := .int (u 12)) fl_X4_156 S.1.nob rfl dX4_count_169 ?_
      exact ex_iret hQ rfl (by unfold X_count; rw [if_pos (inR_nI hx (by decide)), ixn (by decide)]; exact ⟨rfl, rfl, S⟩) dX4_count_172
    · refine ex_iload_n 1 dX4_count_0 rfl rfl ?_
      refine ex_callS0 (As := [.int (nI 14)]) (v := .int (nI 0)) vl_X4_37 (c_isSettingF (by decide)) rfl (by decide) (Nat.le_of_ble_eq_true rfl) (Nat.le_refl _) (Nat.le_refl _) rfl dX4_count_1 ?_
      refine ex_if_eq (tgt := 17) dX4_count_4 (by decide) (fun c_4 => ?_) (fun c_4 => absurd (by decide) c_4)
      refine ex_iload_n 1 dX4_count_17 rfl rfl ?_
      refine ex_tableIn (off := 155) (tgt := 173) dX4_count_18 (by decide) (by decide) (by decide) (by decide) ?_
      refine ex_aload_n 0 dX4_count_173 rfl rfl ?_
      refine ex_get (v := .ref (b + 1)) fl_X4_10 S.1.ob rfl dX4_count_174 ?_
      refine ex_get (v := .int (u 13)) fl_X4_115 S.1.nob rfl dX4_count_177 ?_
      exact ex_iret hQ rfl (by unfold X_count; rw [if_pos (inR_nI hx (by decide)), ixn (by decide)]; exact ⟨rfl, rfl, S⟩) dX4_count_180
    · refine ex_iload_n 1 dX4_count_0 rfl rfl ?_
      refine ex_callS0 (As := [.int (nI 15)]) (v := .int (nI 0)) vl_X4_37 (c_isSettingF (by decide)) rfl (by decide) (Nat.le_of_ble_eq_true rfl) (Nat.le_refl _) (Nat.le_refl _) rfl dX4_count_1 ?_
      refine ex_if_eq (tgt := 17) dX4_count_4 (by decide) (fun c_4 => ?_) (fun c_4 => absurd (by decide) c_4)
      refine ex_iload_n 1 dX4_count_17 rfl rfl ?_
      refine ex_tableIn (off := 163) (tgt := 181) dX4_count_18 (by decide) (by decide) (by decide) (by decide) ?_
      refine ex_aload_n 0 dX4_count_181 rfl rfl ?_
      refine ex_get (v := .ref (b + 1)) fl_X4_10 S.1.ob rfl dX4_count_182 ?_
      refine ex_get (v := .int (u 14)) fl_X4_157 S.1.nob rfl dX4_count_185 ?_
      exact ex_iret hQ rfl (by unfold X_count; rw [if_pos (inR_nI hx (by decide)), ixn (by decide)]; exact ⟨rfl, rfl, S⟩) dX4_count_188
    · refine ex_iload_n 1 dX4_count_0 rfl rfl ?_
      refine ex_callS0 (As := [.int (nI 16)]) (v := .int (nI 0)) vl_X4_37 (c_isSettingF (by decide)) rfl (by decide) (Nat.le_of_ble_eq_true rfl) (Nat.le_refl _) (Nat.le_refl _) rfl dX4_count_1 ?_
      refine ex_if_eq (tgt := 17) dX4_count_4 (by decide) (fun c_4 => ?_) (fun c_4 => absurd (by decide) c_4)
      refine ex_iload_n 1 dX4_count_17 rfl rfl ?_
      refine ex_tableIn (off := 171) (tgt := 189) dX4_count_18 (by decide) (by decide) (by decide) (by decide) ?_
      refine ex_aload_n 0 dX4_count_189 rfl rfl ?_
      refine ex_get (v := .ref (b + 1)) fl_X4_10 S.1.ob rfl dX4_count_190 ?_
      refine ex_get (v := .int (u 15)) fl_X4_160 S.1.nob rfl dX4_count_193 ?_
      exact ex_iret hQ rfl (by unfold X_count; rw [if_pos (inR_nI hx (by decide)), ixn (by decide)]; exact ⟨rfl, rfl, S⟩) dX4_count_196
    · refine ex_iload_n 1 dX4_count_0 rfl rfl ?_
      refine ex_callS0 (As := [.int (nI 17)]) (v := .int (nI 0)) vl_X4_37 (c_isSettingF (by decide)) rfl (by decide) (Nat.le_of_ble_eq_true rfl) (Nat.le_refl _) (Nat.le_refl _) rfl dX4_count_1 ?_
      refine ex_if_eq (tgt := 17) dX4_count_4 (by decide) (fun c_4 => ?_) (fun c_4 => absurd (by decide) c_4)
      refine ex_iload_n 1 dX4_count_17 rfl rfl ?_
      refine ex_tableIn (off := 179) (tgt := 197) dX4_count_18 (by decide) (by decide) (by decide) (by decide) ?_
      refine ex_aload_n 0 dX4_count_197 rfl rfl ?_
      refine ex_get (v := .ref (b + 1)) fl_X4_10 S.1.ob rfl dX4_count_198 ?_
      refine ex_call0 (As := []) (v := .int (sumP q n)) (ci := 3) vl_X4_163 rfl (c_allPurses hN n8) hN.ob rfl (by decide) (Nat.le_of_ble_eq_true rfl) (Nat.le_refl _) (Nat.le_refl _) rfl dX4_count_201 ?_
      exact ex_iret hQ rfl (by unfold X_count; rw [if_pos (inR_nI hx (by decide)), ixn (by decide)]; exact ⟨rfl, rfl, S⟩) dX4_count_204
    · refine ex_iload_n 1 dX4_count_0 rfl rfl ?_
      refine ex_callS0 (As := [.int (nI 18)]) (v := .int (nI 0)) vl_X4_37 (c_isSettingF (by decide)) rfl (by decide) (Nat.le_of_ble_eq_true rfl) (Nat.le_refl _) (Nat.le_refl _) rfl dX4_count_1 ?_
      refine ex_if_eq (tgt := 17) dX4_count_4 (by decide) (fun c_4 => ?_) (fun c_4 => absurd (by decide) c_4)
      refine ex_iload_n 1 dX4_count_17 rfl rfl ?_
      refine ex_tableIn (off := 187) (tgt := 205) dX4_count_18 (by decide) (by decide) (by decide) (by decide) ?_
      refine ex_aload_n 0 dX4_count_205 rfl rfl ?_
      refine ex_get (v := .ref (b + 1)) fl_X4_10 S.1.ob rfl dX4_count_206 ?_
      refine ex_get (v := .int (u 16)) fl_X4_109 S.1.nob rfl dX4_count_209 ?_
      exact ex_iret hQ rfl (by unfold X_count; rw [if_pos (inR_nI hx (by decide)), ixn (by decide)]; exact ⟨rfl, rfl, S⟩) dX4_count_212
    · refine ex_iload_n 1 dX4_count_0 rfl rfl ?_
      refine ex_callS0 (As := [.int (nI 19)]) (v := .int (nI 0)) vl_X4_37 (c_isSettingF (by decide)) rfl (by decide) (Nat.le_of_ble_eq_true rfl) (Nat.le_refl _) (Nat.le_refl _) rfl dX4_count_1 ?_
      refine ex_if_eq (tgt := 17) dX4_count_4 (by decide) (fun c_4 => ?_) (fun c_4 => absurd (by decide) c_4)
      refine ex_iload_n 1 dX4_count_17 rfl rfl ?_
      refine ex_tableIn (off := 195) (tgt := 213) dX4_count_18 (by decide) (by decide) (by decide) (by decide) ?_
      refine ex_aload_n 0 dX4_count_213 rfl rfl ?_
      refine ex_get (v := .ref (b + 92)) fl_X4_33 S.1.ob rfl dX4_count_214 ?_
      refine ex_get (v := .int (nI len)) fl_X4_73 S.1.pob rfl dX4_count_217 ?_
      exact ex_iret hQ rfl (by unfold X_count; rw [if_pos (inR_nI hx (by decide)), ixn (by decide)]; exact ⟨rfl, rfl, S⟩) dX4_count_220
    · refine ex_iload_n 1 dX4_count_0 rfl rfl ?_
      refine ex_callS0 (As := [.int (nI 20)]) (v := .int (nI 0)) vl_X4_37 (c_isSettingF (by decide)) rfl (by decide) (Nat.le_of_ble_eq_true rfl) (Nat.le_refl _) (Nat.le_refl _) rfl dX4_count_1 ?_
      refine ex_if_eq (tgt := 17) dX4_count_4 (by decide) (fun c_4 => ?_) (fun c_4 => absurd (by decide) c_4)
      refine ex_iload_n 1 dX4_count_17 rfl rfl ?_
      refine ex_tableIn (off := 203) (tgt := 221) dX4_count_18 (by decide) (by decide) (by decide) (by decide) ?_
      refine ex_aload_n 0 dX4_count_221 rfl rfl ?_
      refine ex_get (v := .ref (b + 23)) fl_X4_22 S.1.ob rfl dX4_count_222 ?_
      refine ex_get (v := .int (nI k)) fl_X4_166 S.1.hob rfl dX4_count_225 ?_
      exact ex_iret hQ rfl (by unfold X_count; rw [if_pos (inR_nI hx (by decide)), ixn (by decide)]; exact ⟨rfl, rfl, S⟩) dX4_count_228
  · have h6 : ¬ inR x 6 := fun q9 => hx ⟨q9.1, Int32.lt_of_lt_of_le q9.2 (by decide)⟩
    refine ex_iload_n 1 dX4_count_0 rfl rfl ?_
    refine ex_callS0 (As := [.int x]) (v := .int (nI 0)) vl_X4_37 (c_isSettingF h6) rfl (by decide) (Nat.le_of_ble_eq_true rfl) (Nat.le_refl _) (Nat.le_refl _) rfl dX4_count_1 ?_
    refine ex_if_eq (tgt := 17) dX4_count_4 (by decide) (fun c_4 => ?_) (fun c_4 => absurd (by decide) c_4)
    refine ex_iload_n 1 dX4_count_17 rfl rfl ?_
    refine ex_tableOut (tgt := 229) dX4_count_18 ((tabc hx (by decide)).imp (fun q9 => by have : ((0 : Nat) : Int) = 0 := rfl; omega) (fun q9 => q9)) (by decide) ?_
    refine ex_bipush (v := (-2)) dX4_count_229 (by decide) ?_
    exact ex_iret hQ rfl (by unfold X_count; rw [if_neg hx]; exact ⟨rfl, rfl, S⟩) dX4_count_231

set_option maxRecDepth 20000 in
set_option maxHeartbeats 2000000 in
theorem c_next {G : GG} {l : Launch} {h0 : HP} {z b : Nat} {n : Nat} {g : Option Nat} {t : Nat} {u : Nat → Int32} {q : Nat → Nat → Int32} {k len : Nat} {L : Nat → AS} {V : Nat → Option AS} {c : Nat → Nat} (S0 : PP G h0 z b ((n, g, t, u, q), k, L, V, len, c)) (wf : wfA (n, g, t, u, q)) (m3 : 0 < u 3) {x : Int32} : Ct G l 4 0 0 yX4_next cX4_next 4 (some .int) [.ref b, .int x] h0 z (pX G (X_next ((n, g, t, u, q), k, L, V, len, c) x, ((n, g, t, u, q), k, L, V, len, c)) h0 z b) := by
  refine Ct.intro (lv := [(0, .ref b), (1, .int x)]) (by decide +kernel) (Nat.le_of_ble_eq_true rfl) rfl (fun X Q hQ hnm => ?_)
  have S := S0.xf
  have n8 : n ≤ 8 := wf.1
  by_cases hx : x = 0 ∨ x = nI 1
  · have TL : ex G l X Q 4 0 0 0 0 cX4_next yX4_next.cls 4 (some .int) h0 z 12 [(0, .ref b), (1, .int x)] [] := by
      refine ex_aload_n 0 dX4_next_12 rfl rfl ?_
      refine ex_get (v := .ref (b + 12)) fl_X4_16 S.1.ob rfl dX4_next_13 ?_
      refine ex_aload_n 0 dX4_next_16 rfl rfl ?_
      refine ex_get (v := .ref (b + 1)) fl_X4_10 S.1.ob rfl dX4_next_17 ?_
      refine exX_copyT vl_X4_167 S n8 (by decide) (Nat.le_of_ble_eq_true rfl) (Nat.le_refl _) (Nat.le_refl _) rfl dX4_next_20 (fun h π S T => ?_)
      refine ex_iconst (v := nI 1) dX4_next_23 (by decide) ?_
      refine ex_istore_n (lv' := [(2, .int (nI 1)), (0, .ref b), (1, .int x)]) dX4_next_24 rfl (by decide) rfl ?_
      suffices H : ∀ (k2 d : Nat) (h : HP), d + k2 = 500 → XF G h0 h z b ((n, g, t, u, q), k, L, V, len, c) → SP G h (b + 12) π (itA d (n, g, t, u, q)) → nxG (n, g, t, u, q) x k2 d = nxG (n, g, t, u, q) x 500 0 → ex G l X Q 4 0 0 0 0 cX4_next yX4_next.cls 4 (some .int) h z 25 [(2, .int (nI (d + 1))), (1, .int x), (0, .ref b)] [] from by
        have e2 := H 500 0 h (by omega) S T rfl
        refine ex_lv (lv2 := [(2, .int (nI 1)), (1, .int x), (0, .ref b)]) [0, 2, 1] rfl ?_
        exact e2
      intro k2
      induction k2 with
      | zero =>
        intro d h hd S T hh
        refine ex_iload_n 0 dX4_next_25 rfl rfl ?_
        refine ex_sipush (v := nI 500) dX4_next_26 (by decide) ?_
        refine ex_icmp_gt (tgt := 62) dX4_next_29 (by decide) (fun c_29 => ?_) (fun c_29 => absurd ((nI_ltI (by omega) (by omega)).mpr (by omega)) c_29)
        refine ex_bipush (v := (-6)) dX4_next_62 (by decide) ?_
        exact ex_iret hQ rfl (by unfold X_next; rw [if_pos hx]; exact ⟨congrArg (fun x => some (Value.int x)) hh, rfl, S⟩) dX4_next_64
      | succ k2 ih =>
        intro d h hd S T hh
        rw [nxG] at hh
        refine ex_iload_n 0 dX4_next_25 rfl rfl ?_
        refine ex_sipush (v := nI 500) dX4_next_26 (by decide) ?_
        refine ex_icmp_gt (tgt := 62) dX4_next_29 (by decide) (fun c_29 => absurd c_29 (fun q9 => absurd ((nI_ltI (by omega) (by omega)).mp q9) (by omega))) (fun c_29 => ?_)
        refine ex_aload_n 2 dX4_next_32 rfl rfl ?_
        refine ex_get (v := .ref (b + 12)) fl_X4_16 S.1.ob rfl dX4_next_33 ?_
        refine exX_trial (As := []) (r0 := (some (.int (gv (dayR (itA d (n, g, t, u, q))))))) (π1 := π) (B := itA (d + 1) (n, g, t, u, q)) vl_X4_170 rfl S T (c_liveDay T (itA_wf wf d) (by rw [itA_u (by decide)]; exact m3)) rfl (by decide) (Nat.le_of_ble_eq_true rfl) (Nat.le_refl _) (Nat.le_refl _) rfl dX4_next_36 (fun h S T => ?_)
        rcases hr : dayR (itA d (n, g, t, u, q)) with _ | j
        · rw [hr] at hh
          refine ex_istore_n (lv' := [(3, .int (-6)), (2, .int (nI (d + 1))), (1, .int x), (0, .ref b)]) dX4_next_39 rfl (by decide) rfl ?_
          refine ex_iload_n 0 dX4_next_40 rfl rfl ?_
          refine ex_bipush (v := (-6)) dX4_next_41 (by decide) ?_
          refine ex_icmp_eq (tgt := 56) dX4_next_43 (by decide) (fun c_43 => ?_) (fun c_43 => absurd (rfl) c_43)
          refine ex_iinc (v := nI (d + 1 + 1)) (lv' := [(2, .int (nI (d + 1 + 1))), (3, .int (-6)), (1, .int x), (0, .ref b)]) 1 dX4_next_56 rfl (nI_1 (d + 1)) (by decide) rfl ?_
          refine ex_goto (tgt := 25) dX4_next_59 (by decide) ?_
          have e2 := ih (d + 1) h (by omega) S T hh
          refine ex_lv (lv2 := [(2, .int (nI (d + 1 + 1))), (1, .int x), (0, .ref b)]) [0, 2, 3] rfl ?_
          exact e2
        · rw [hr] at hh
          have hj : j < n := by have := dayR_lt (itA_wf wf d) hr; rw [itA_1] at this; exact this
          refine ex_istore_n (lv' := [(3, .int (nI j)), (2, .int (nI (d + 1))), (1, .int x), (0, .ref b)]) dX4_next_39 rfl (by decide) rfl ?_
          refine ex_iload_n 0 dX4_next_40 rfl rfl ?_
          refine ex_bipush (v := (-6)) dX4_next_41 (by decide) ?_
          refine ex_icmp_eq (tgt := 56) dX4_next_43 (by decide) (fun c_43 => absurd c_43 (nI_n6 (by omega))) (fun c_43 => ?_)
          refine ex_iload_n 2 dX4_next_46 rfl rfl ?_
          refine ex_if_ne (tgt := 54) dX4_next_47 (by decide) (fun c_47 => ?_) (fun c_47 => ?_)
          · refine ex_iload_n 1 dX4_next_54 rfl rfl ?_
            exact ex_iret hQ rfl (by unfold X_next; rw [if_pos hx, ← hh]; dsimp only; first | (rw [if_pos c_47]; exact ⟨rfl, rfl, S⟩) | (rw [if_neg c_47]; exact ⟨rfl, rfl, S⟩)) dX4_next_55
          · refine ex_iload_n 0 dX4_next_50 rfl rfl ?_
            refine ex_goto (tgt := 55) dX4_next_51 (by decide) ?_
            exact ex_iret hQ rfl (by unfold X_next; rw [if_pos hx, ← hh]; dsimp only; first | (rw [if_pos c_47]; exact ⟨rfl, rfl, S⟩) | (rw [if_neg c_47]; exact ⟨rfl, rfl, S⟩)) dX4_next_55
    refine ex_iload_n 1 dX4_next_0 rfl rfl ?_
    refine ex_if_eq (tgt := 12) dX4_next_1 (by decide) (fun c_1 => ?_) (fun c_1 => ?_)
    · exact TL
    · refine ex_iload_n 1 dX4_next_4 rfl rfl ?_
      refine ex_iconst (v := nI 1) dX4_next_5 (by decide) ?_
      refine ex_icmp_eq (tgt := 12) dX4_next_6 (by decide) (fun c_6 => ?_) (fun c_6 => ?_)
      · exact TL
      · exact absurd hx (fun q9 => q9.elim c_1 c_6)
  · refine ex_iload_n 1 dX4_next_0 rfl rfl ?_
    refine ex_if_eq (tgt := 12) dX4_next_1 (by decide) (fun c_1 => ?_) (fun c_1 => ?_)
    · exact absurd (by first | exact Or.inl c_1 | exact Or.inr c_6) hx
    · refine ex_iload_n 1 dX4_next_4 rfl rfl ?_
      refine ex_iconst (v := nI 1) dX4_next_5 (by decide) ?_
      refine ex_icmp_eq (tgt := 12) dX4_next_6 (by decide) (fun c_6 => ?_) (fun c_6 => ?_)
      · exact absurd (by first | exact Or.inl c_1 | exact Or.inr c_6) hx
      · refine ex_bipush (v := (-2)) dX4_next_9 (by decide) ?_
        exact ex_iret hQ rfl (by unfold X_next; rw [if_neg hx]; exact ⟨rfl, rfl, S⟩) dX4_next_11

set_option maxRecDepth 20000 in
set_option maxHeartbeats 2000000 in
theorem c_untilEmpty {G : GG} {l : Launch} {h0 : HP} {z b : Nat} {n : Nat} {g : Option Nat} {t : Nat} {u : Nat → Int32} {q : Nat → Nat → Int32} {k len : Nat} {L : Nat → AS} {V : Nat → Option AS} {c : Nat → Nat} (S0 : PP G h0 z b ((n, g, t, u, q), k, L, V, len, c)) (wf : wfA (n, g, t, u, q)) (m3 : 0 < u 3) : Ct G l 4 0 0 yX4_untilEmpty cX4_untilEmpty 2 (some .int) [.ref b] h0 z (pX G (X_untilEmpty ((n, g, t, u, q), k, L, V, len, c), ((n, g, t, u, q), k, L, V, len, c)) h0 z b) := by
  refine Ct.intro (lv := [(0, .ref b)]) (by decide +kernel) (Nat.le_of_ble_eq_true rfl) rfl (fun X Q hQ hnm => ?_)
  have S := S0.xf
  have n8 : n ≤ 8 := wf.1
  refine ex_aload_n 0 dX4_untilEmpty_0 rfl rfl ?_
  refine ex_get (v := .ref (b + 12)) fl_X4_16 S.1.ob rfl dX4_untilEmpty_1 ?_
  refine ex_aload_n 0 dX4_untilEmpty_4 rfl rfl ?_
  refine ex_get (v := .ref (b + 1)) fl_X4_10 S.1.ob rfl dX4_untilEmpty_5 ?_
  refine exX_copyT vl_X4_167 S n8 (by decide) (Nat.le_of_ble_eq_true rfl) (Nat.le_refl _) (Nat.le_refl _) rfl dX4_untilEmpty_8 (fun h π S T => ?_)
  refine ex_iconst (v := nI 0) dX4_untilEmpty_11 (by decide) ?_
  refine ex_istore_n (lv' := [(1, .int (nI 0)), (0, .ref b)]) dX4_untilEmpty_12 rfl (by decide) rfl ?_
  suffices H : ∀ (k2 d : Nat) (h : HP), d + k2 = 2001 → XF G h0 h z b ((n, g, t, u, q), k, L, V, len, c) → SP G h (b + 12) π (itA d (n, g, t, u, q)) → ueG (n, g, t, u, q) k2 d = ueG (n, g, t, u, q) 2001 0 → ex G l X Q 4 0 0 0 0 cX4_untilEmpty yX4_untilEmpty.cls 2 (some .int) h z 13 [(1, .int (nI d)), (0, .ref b)] [] from by
    have e2 := H 2001 0 h (by omega) S T rfl
    refine ex_lv (lv2 := [(1, .int (nI 0)), (0, .ref b)]) [0, 1] rfl ?_
    exact e2
  intro k2
  induction k2 with
  | zero =>
    intro d h hd S T hh
    refine ex_iload_n 0 dX4_untilEmpty_13 rfl rfl ?_
    refine ex_sipush (v := nI 2000) dX4_untilEmpty_14 (by decide) ?_
    refine ex_icmp_gt (tgt := 46) dX4_untilEmpty_17 (by decide) (fun c_17 => ?_) (fun c_17 => absurd ((nI_ltI (by omega) (by omega)).mpr (by omega)) c_17)
    refine ex_bipush (v := (-6)) dX4_untilEmpty_46 (by decide) ?_
    exact ex_iret hQ rfl (by exact ⟨congrArg (fun x => some (Value.int x)) hh, rfl, S⟩) dX4_untilEmpty_48
  | succ k2 ih =>
    intro d h hd S T hh
    rw [ueG] at hh
    refine ex_iload_n 0 dX4_untilEmpty_13 rfl rfl ?_
    refine ex_sipush (v := nI 2000) dX4_untilEmpty_14 (by decide) ?_
    refine ex_icmp_gt (tgt := 46) dX4_untilEmpty_17 (by decide) (fun c_17 => absurd c_17 (fun q9 => absurd ((nI_ltI (by omega) (by omega)).mp q9) (by omega))) (fun c_17 => ?_)
    refine ex_aload_n 1 dX4_untilEmpty_20 rfl rfl ?_
    refine ex_get (v := .ref (b + 12)) fl_X4_16 S.1.ob rfl dX4_untilEmpty_21 ?_
    refine ex_get (v := .int ((itA d (n, g, t, u, q)).2.2.2.1 11)) fl_X4_105 T.ob rfl dX4_untilEmpty_24 ?_
    refine ex_if_ne (tgt := 32) dX4_untilEmpty_27 (by decide) (fun c_27 => ?_) (fun c_27 => ?_)
    · refine ex_aload_n 1 dX4_untilEmpty_32 rfl rfl ?_
      refine ex_get (v := .ref (b + 12)) fl_X4_16 S.1.ob rfl dX4_untilEmpty_33 ?_
      refine exX_trial (As := []) (r0 := (some (.int (gv (dayR (itA d (n, g, t, u, q))))))) (π1 := π) (B := itA (d + 1) (n, g, t, u, q)) vl_X4_170 rfl S T (c_liveDay T (itA_wf wf d) (by rw [itA_u (by decide)]; exact m3)) rfl (by decide) (Nat.le_of_ble_eq_true rfl) (Nat.le_refl _) (Nat.le_refl _) rfl dX4_untilEmpty_36 (fun h S T => ?_)
      refine ex_pop dX4_untilEmpty_39 rfl ?_
      refine ex_iinc (v := nI (d + 1)) (lv' := [(1, .int (nI (d + 1))), (0, .ref b)]) 0 dX4_untilEmpty_40 rfl (nI_1 d) (by decide) rfl ?_
      refine ex_goto (tgt := 13) dX4_untilEmpty_43 (by decide) ?_
      have e2 := ih (d + 1) h (by omega) S T (by rw [← hh, if_neg c_27])
      refine ex_lv (lv2 := [(1, .int (nI (d + 1))), (0, .ref b)]) [0, 1] rfl ?_
      exact e2
    · refine ex_iload_n 0 dX4_untilEmpty_30 rfl rfl ?_
      exact ex_iret hQ rfl (by rw [if_pos c_27] at hh; exact ⟨congrArg (fun x => some (Value.int x)) hh, rfl, S⟩) dX4_untilEmpty_31

set_option maxRecDepth 20000 in
set_option maxHeartbeats 2000000 in
theorem c_ifPassed {G : GG} {l : Launch} {h0 : HP} {z b : Nat} {n : Nat} {g : Option Nat} {t : Nat} {u : Nat → Int32} {q : Nat → Nat → Int32} {k len : Nat} {L : Nat → AS} {V : Nat → Option AS} {c : Nat → Nat} (S0 : PP G h0 z b ((n, g, t, u, q), k, L, V, len, c)) (wf : wfA (n, g, t, u, q)) (m3 : 0 < u 3) {v x : Int32} : Ct G l 5 0 0 yX4_ifPassed cX4_ifPassed 3 (some .int) [.ref b, .int v, .int x] h0 z (pX G (X_ifPassed ((n, g, t, u, q), k, L, V, len, c) v x, ((n, g, t, u, q), k, L, V, len, c)) h0 z b) := by
  refine Ct.intro (lv := [(0, .ref b), (1, .int v), (2, .int x)]) (by decide +kernel) (Nat.le_of_ble_eq_true rfl) rfl (fun X Q hQ hnm => ?_)
  have S := S0.xf
  have n8 : n ≤ 8 := wf.1
  refine ex_iload_n 1 dX4_ifPassed_0 rfl rfl ?_
  refine ex_iconst (v := nI 1) dX4_ifPassed_1 (by decide) ?_
  refine ex_icmp_lt (tgt := 21) dX4_ifPassed_2 (by decide) (fun c_2 => ?_) (fun c_2 => ?_)
  · refine ex_bipush (v := (-2)) dX4_ifPassed_21 (by decide) ?_
    exact ex_iret hQ rfl (by unfold X_ifPassed; rw [if_pos (by first | exact Or.inl c_2 | exact Or.inr (Or.inl c_9) | exact Or.inr (Or.inr (Or.inl c_13)) | exact Or.inr (Or.inr (Or.inr (Int32.not_le.mp c_18))))]; exact ⟨rfl, rfl, S⟩) dX4_ifPassed_23
  · refine ex_iload_n 1 dX4_ifPassed_5 rfl rfl ?_
    refine ex_sipush (v := nI 500) dX4_ifPassed_6 (by decide) ?_
    refine ex_icmp_gt (tgt := 21) dX4_ifPassed_9 (by decide) (fun c_9 => ?_) (fun c_9 => ?_)
    · refine ex_bipush (v := (-2)) dX4_ifPassed_21 (by decide) ?_
      exact ex_iret hQ rfl (by unfold X_ifPassed; rw [if_pos (by first | exact Or.inl c_2 | exact Or.inr (Or.inl c_9) | exact Or.inr (Or.inr (Or.inl c_13)) | exact Or.inr (Or.inr (Or.inr (Int32.not_le.mp c_18))))]; exact ⟨rfl, rfl, S⟩) dX4_ifPassed_23
    · refine ex_iload_n 2 dX4_ifPassed_12 rfl rfl ?_
      refine ex_if_lt (tgt := 21) dX4_ifPassed_13 (by decide) (fun c_13 => ?_) (fun c_13 => ?_)
      · refine ex_bipush (v := (-2)) dX4_ifPassed_21 (by decide) ?_
        exact ex_iret hQ rfl (by unfold X_ifPassed; rw [if_pos (by first | exact Or.inl c_2 | exact Or.inr (Or.inl c_9) | exact Or.inr (Or.inr (Or.inl c_13)) | exact Or.inr (Or.inr (Or.inr (Int32.not_le.mp c_18))))]; exact ⟨rfl, rfl, S⟩) dX4_ifPassed_23
      · refine ex_iload_n 2 dX4_ifPassed_16 rfl rfl ?_
        refine ex_iconst (v := nI 4) dX4_ifPassed_17 (by decide) ?_
        refine ex_icmp_le (tgt := 24) dX4_ifPassed_18 (by decide) (fun c_18 => ?_) (fun c_18 => ?_)
        · have hc : ¬ (v < nI 1 ∨ nI 500 < v ∨ x < 0 ∨ nI 4 < x) := fun q9 => q9.elim c_2 (fun q9 => q9.elim c_9 (fun q9 => q9.elim c_13 (fun q9 => absurd c_18 (Int32.not_le.mpr q9))))
          obtain ⟨j, j1, j2, rfl⟩ := rngI (by omega) (by omega) c_2 (Int32.not_lt.mp c_9)
          obtain ⟨m, m1, m2, rfl⟩ := rngI (a := 0) (by omega) (by omega) c_13 c_18
          rcases (show m = 0 ∨ m = 1 ∨ m = 2 ∨ m = 3 ∨ m = 4 by omega) with rfl | rfl | rfl | rfl | rfl
          · refine ex_aload_n 0 dX4_ifPassed_24 rfl rfl ?_
            refine ex_get (v := .ref (b + 12)) fl_X4_16 S.1.ob rfl dX4_ifPassed_25 ?_
            refine ex_aload_n 0 dX4_ifPassed_28 rfl rfl ?_
            refine ex_get (v := .ref (b + 1)) fl_X4_10 S.1.ob rfl dX4_ifPassed_29 ?_
            refine exX_copyT vl_X4_167 S n8 (by decide) (Nat.le_of_ble_eq_true rfl) (Nat.le_refl _) (Nat.le_refl _) rfl dX4_ifPassed_32 (fun h π S T => ?_)
            refine ex_aload_n 0 dX4_ifPassed_35 rfl rfl ?_
            refine ex_get (v := .ref (b + 12)) fl_X4_16 S.1.ob rfl dX4_ifPassed_36 ?_
            refine ex_iload_n 1 dX4_ifPassed_39 rfl rfl ?_
            refine exX_trial (As := [.int (nI j)]) (r0 := none) (π1 := π) (B := itA j (n, g, t, u, q)) vl_X4_118 rfl S T (c_liveDays T wf m3 (by omega)) rfl (by decide) (Nat.le_of_ble_eq_true rfl) (Nat.le_refl _) (Nat.le_refl _) rfl dX4_ifPassed_40 (fun h S T => ?_)
            refine ex_iload_n 2 dX4_ifPassed_43 rfl rfl ?_
            refine ex_tableIn (off := 32) (tgt := 76) dX4_ifPassed_44 (by decide) (by decide) (by decide) (by decide) ?_
            refine ex_aload_n 0 dX4_ifPassed_76 rfl rfl ?_
            refine ex_get (v := .ref (b + 12)) fl_X4_16 S.1.ob rfl dX4_ifPassed_77 ?_
            refine ex_get (v := .int ((itA j (n, g, t, u, q)).2.2.2.1 13)) fl_X4_115 T.ob rfl dX4_ifPassed_80 ?_
            refine ex_aload_n 0 dX4_ifPassed_83 rfl rfl ?_
            refine ex_get (v := .ref (b + 1)) fl_X4_10 S.1.ob rfl dX4_ifPassed_84 ?_
            refine ex_get (v := .int (u 13)) fl_X4_115 S.1.nob rfl dX4_ifPassed_87 ?_
            refine ex_isub dX4_ifPassed_90 ?_
            exact ex_iret hQ rfl (by unfold X_ifPassed; rw [if_neg hc, ixn (by omega), ixn (by decide)]; exact ⟨rfl, rfl, S⟩) dX4_ifPassed_91
          · refine ex_aload_n 0 dX4_ifPassed_24 rfl rfl ?_
            refine ex_get (v := .ref (b + 12)) fl_X4_16 S.1.ob rfl dX4_ifPassed_25 ?_
            refine ex_aload_n 0 dX4_ifPassed_28 rfl rfl ?_
            refine ex_get (v := .ref (b + 1)) fl_X4_10 S.1.ob rfl dX4_ifPassed_29 ?_
            refine exX_copyT vl_X4_167 S n8 (by decide) (Nat.le_of_ble_eq_true rfl) (Nat.le_refl _) (Nat.le_refl _) rfl dX4_ifPassed_32 (fun h π S T => ?_)
            refine ex_aload_n 0 dX4_ifPassed_35 rfl rfl ?_
            refine ex_get (v := .ref (b + 12)) fl_X4_16 S.1.ob rfl dX4_ifPassed_36 ?_
            refine ex_iload_n 1 dX4_ifPassed_39 rfl rfl ?_
            refine exX_trial (As := [.int (nI j)]) (r0 := none) (π1 := π) (B := itA j (n, g, t, u, q)) vl_X4_118 rfl S T (c_liveDays T wf m3 (by omega)) rfl (by decide) (Nat.le_of_ble_eq_true rfl) (Nat.le_refl _) (Nat.le_refl _) rfl dX4_ifPassed_40 (fun h S T => ?_)
            refine ex_iload_n 2 dX4_ifPassed_43 rfl rfl ?_
            refine ex_tableIn (off := 48) (tgt := 92) dX4_ifPassed_44 (by decide) (by decide) (by decide) (by decide) ?_
            refine ex_aload_n 0 dX4_ifPassed_92 rfl rfl ?_
            refine ex_get (v := .ref (b + 12)) fl_X4_16 S.1.ob rfl dX4_ifPassed_93 ?_
            refine ex_get (v := .int ((itA j (n, g, t, u, q)).2.2.2.1 12)) fl_X4_156 T.ob rfl dX4_ifPassed_96 ?_
            refine ex_aload_n 0 dX4_ifPassed_99 rfl rfl ?_
            refine ex_get (v := .ref (b + 1)) fl_X4_10 S.1.ob rfl dX4_ifPassed_100 ?_
            refine ex_get (v := .int (u 12)) fl_X4_156 S.1.nob rfl dX4_ifPassed_103 ?_
            refine ex_isub dX4_ifPassed_106 ?_
            exact ex_iret hQ rfl (by unfold X_ifPassed; rw [if_neg hc, ixn (by omega), ixn (by decide)]; exact ⟨rfl, rfl, S⟩) dX4_ifPassed_107
          · refine ex_aload_n 0 dX4_ifPassed_24 rfl rfl ?_
            refine ex_get (v := .ref (b + 12)) fl_X4_16 S.1.ob rfl dX4_ifPassed_25 ?_
            refine ex_aload_n 0 dX4_ifPassed_28 rfl rfl ?_
            refine ex_get (v := .ref (b + 1)) fl_X4_10 S.1.ob rfl dX4_ifPassed_29 ?_
            refine exX_copyT vl_X4_167 S n8 (by decide) (Nat.le_of_ble_eq_true rfl) (Nat.le_refl _) (Nat.le_refl _) rfl dX4_ifPassed_32 (fun h π S T => ?_)
            refine ex_aload_n 0 dX4_ifPassed_35 rfl rfl ?_
            refine ex_get (v := .ref (b + 12)) fl_X4_16 S.1.ob rfl dX4_ifPassed_36 ?_
            refine ex_iload_n 1 dX4_ifPassed_39 rfl rfl ?_
            refine exX_trial (As := [.int (nI j)]) (r0 := none) (π1 := π) (B := itA j (n, g, t, u, q)) vl_X4_118 rfl S T (c_liveDays T wf m3 (by omega)) rfl (by decide) (Nat.le_of_ble_eq_true rfl) (Nat.le_refl _) (Nat.le_refl _) rfl dX4_ifPassed_40 (fun h S T => ?_)
            refine ex_iload_n 2 dX4_ifPassed_43 rfl rfl ?_
            refine ex_tableIn (off := 64) (tgt := 108) dX4_ifPassed_44 (by decide) (by decide) (by decide) (by decide) ?_
            refine ex_aload_n 0 dX4_ifPassed_108 rfl rfl ?_
            refine ex_get (v := .ref (b + 12)) fl_X4_16 S.1.ob rfl dX4_ifPassed_109 ?_
            refine ex_get (v := .int ((itA j (n, g, t, u, q)).2.2.2.1 15)) fl_X4_160 T.ob rfl dX4_ifPassed_112 ?_
            refine ex_aload_n 0 dX4_ifPassed_115 rfl rfl ?_
            refine ex_get (v := .ref (b + 1)) fl_X4_10 S.1.ob rfl dX4_ifPassed_116 ?_
            refine ex_get (v := .int (u 15)) fl_X4_160 S.1.nob rfl dX4_ifPassed_119 ?_
            refine ex_isub dX4_ifPassed_122 ?_
            exact ex_iret hQ rfl (by unfold X_ifPassed; rw [if_neg hc, ixn (by omega), ixn (by decide)]; exact ⟨rfl, rfl, S⟩) dX4_ifPassed_123
          · refine ex_aload_n 0 dX4_ifPassed_24 rfl rfl ?_
            refine ex_get (v := .ref (b + 12)) fl_X4_16 S.1.ob rfl dX4_ifPassed_25 ?_
            refine ex_aload_n 0 dX4_ifPassed_28 rfl rfl ?_
            refine ex_get (v := .ref (b + 1)) fl_X4_10 S.1.ob rfl dX4_ifPassed_29 ?_
            refine exX_copyT vl_X4_167 S n8 (by decide) (Nat.le_of_ble_eq_true rfl) (Nat.le_refl _) (Nat.le_refl _) rfl dX4_ifPassed_32 (fun h π S T => ?_)
            refine ex_aload_n 0 dX4_ifPassed_35 rfl rfl ?_
            refine ex_get (v := .ref (b + 12)) fl_X4_16 S.1.ob rfl dX4_ifPassed_36 ?_
            refine ex_iload_n 1 dX4_ifPassed_39 rfl rfl ?_
            refine exX_trial (As := [.int (nI j)]) (r0 := none) (π1 := π) (B := itA j (n, g, t, u, q)) vl_X4_118 rfl S T (c_liveDays T wf m3 (by omega)) rfl (by decide) (Nat.le_of_ble_eq_true rfl) (Nat.le_refl _) (Nat.le_refl _) rfl dX4_ifPassed_40 (fun h S T => ?_)
            refine ex_iload_n 2 dX4_ifPassed_43 rfl rfl ?_
            refine ex_tableIn (off := 80) (tgt := 124) dX4_ifPassed_44 (by decide) (by decide) (by decide) (by decide) ?_
            refine ex_aload_n 0 dX4_ifPassed_124 rfl rfl ?_
            refine ex_get (v := .ref (b + 12)) fl_X4_16 S.1.ob rfl dX4_ifPassed_125 ?_
            refine ex_get (v := .int ((itA j (n, g, t, u, q)).2.2.2.1 8)) fl_X4_147 T.ob rfl dX4_ifPassed_128 ?_
            exact ex_iret hQ rfl (by unfold X_ifPassed; rw [if_neg hc, ixn (by omega), ixn (by decide)]; exact ⟨rfl, rfl, S⟩) dX4_ifPassed_131
          · refine ex_aload_n 0 dX4_ifPassed_24 rfl rfl ?_
            refine ex_get (v := .ref (b + 12)) fl_X4_16 S.1.ob rfl dX4_ifPassed_25 ?_
            refine ex_aload_n 0 dX4_ifPassed_28 rfl rfl ?_
            refine ex_get (v := .ref (b + 1)) fl_X4_10 S.1.ob rfl dX4_ifPassed_29 ?_
            refine exX_copyT vl_X4_167 S n8 (by decide) (Nat.le_of_ble_eq_true rfl) (Nat.le_refl _) (Nat.le_refl _) rfl dX4_ifPassed_32 (fun h π S T => ?_)
            refine ex_aload_n 0 dX4_ifPassed_35 rfl rfl ?_
            refine ex_get (v := .ref (b + 12)) fl_X4_16 S.1.ob rfl dX4_ifPassed_36 ?_
            refine ex_iload_n 1 dX4_ifPassed_39 rfl rfl ?_
            refine exX_trial (As := [.int (nI j)]) (r0 := none) (π1 := π) (B := itA j (n, g, t, u, q)) vl_X4_118 rfl S T (c_liveDays T wf m3 (by omega)) rfl (by decide) (Nat.le_of_ble_eq_true rfl) (Nat.le_refl _) (Nat.le_refl _) rfl dX4_ifPassed_40 (fun h S T => ?_)
            refine ex_iload_n 2 dX4_ifPassed_43 rfl rfl ?_
            refine ex_tableOut (tgt := 132) dX4_ifPassed_44 (by decide) (by decide) ?_
            refine ex_aload_n 0 dX4_ifPassed_132 rfl rfl ?_
            refine ex_get (v := .ref (b + 12)) fl_X4_16 S.1.ob rfl dX4_ifPassed_133 ?_
            refine ex_get (v := .int (gv (itA j (n, g, t, u, q)).2.1)) fl_X4_89 T.ob rfl dX4_ifPassed_136 ?_
            exact ex_iret hQ rfl (by unfold X_ifPassed; rw [if_neg hc, ixn (by omega), ixn (by decide)]; exact ⟨rfl, rfl, S⟩) dX4_ifPassed_139
        · refine ex_bipush (v := (-2)) dX4_ifPassed_21 (by decide) ?_
          exact ex_iret hQ rfl (by unfold X_ifPassed; rw [if_pos (by first | exact Or.inl c_2 | exact Or.inr (Or.inl c_9) | exact Or.inr (Or.inr (Or.inl c_13)) | exact Or.inr (Or.inr (Or.inr (Int32.not_le.mp c_18))))]; exact ⟨rfl, rfl, S⟩) dX4_ifPassed_23

set_option maxRecDepth 20000 in
set_option maxHeartbeats 2000000 in
theorem c_dgM {G : GG} {l : Launch} {h0 : HP} {z b : Nat} {n : Nat} {g : Option Nat} {t : Nat} {u : Nat → Int32} {q : Nat → Nat → Int32} {k len : Nat} {L : Nat → AS} {V : Nat → Option AS} {c : Nat → Nat} (S0 : PP G h0 z b ((n, g, t, u, q), k, L, V, len, c)) (wf : wfA (n, g, t, u, q)) (m3 : 0 < u 3) {i p : Nat} (hi : i < n) (hp : p < n) : Ct G l 5 0 0 yX4_daysAsGuardianIfMoved cX4_daysAsGuardianIfMoved 5 (some .int) [.ref b, .int (nI i), .int (nI p)] h0 z (pX G (dgM (n, g, t, u, q) i p, ((n, g, t, u, q), k, L, V, len, c)) h0 z b) := by
  refine Ct.intro (lv := [(0, .ref b), (1, .int (nI i)), (2, .int (nI p))]) (by decide +kernel) (Nat.le_of_ble_eq_true rfl) rfl (fun X Q hQ hnm => ?_)
  have S := S0.xf
  have n8 : n ≤ 8 := wf.1
  have gw : ∀ i, g = some i → i < n := wf.2.1
  refine ex_aload_n 0 dX4_daysAsGuardianIfMoved_0 rfl rfl ?_
  refine ex_get (v := .ref (b + 12)) fl_X4_16 S.1.ob rfl dX4_daysAsGuardianIfMoved_1 ?_
  refine ex_aload_n 0 dX4_daysAsGuardianIfMoved_4 rfl rfl ?_
  refine ex_get (v := .ref (b + 1)) fl_X4_10 S.1.ob rfl dX4_daysAsGuardianIfMoved_5 ?_
  refine exX_copyT vl_X4_167 S n8 (by decide) (Nat.le_of_ble_eq_true rfl) (Nat.le_refl _) (Nat.le_refl _) rfl dX4_daysAsGuardianIfMoved_8 (fun h π S T => ?_)
  refine ex_aload_n 0 dX4_daysAsGuardianIfMoved_11 rfl rfl ?_
  refine ex_get (v := .ref (b + 12)) fl_X4_16 S.1.ob rfl dX4_daysAsGuardianIfMoved_12 ?_
  refine ex_iload_n 1 dX4_daysAsGuardianIfMoved_15 rfl rfl ?_
  refine ex_iload_n 2 dX4_daysAsGuardianIfMoved_16 rfl rfl ?_
  refine exX_trial (As := [.int (nI i), .int (nI p)]) (r0 := none) (π1 := fun j => π (mvI i p j)) (B := moveA (n, g, t, u, q) i p) vl_X4_80 rfl S T (c_relocate T gw wf.2.2 n8 hi hp) rfl (by decide) (Nat.le_of_ble_eq_true rfl) (Nat.le_refl _) (Nat.le_refl _) rfl dX4_daysAsGuardianIfMoved_17 (fun h S T => ?_)
  refine ex_aload_n 0 dX4_daysAsGuardianIfMoved_20 rfl rfl ?_
  refine ex_get (v := .ref (b + 12)) fl_X4_16 S.1.ob rfl dX4_daysAsGuardianIfMoved_21 ?_
  refine ex_iload_n 2 dX4_daysAsGuardianIfMoved_24 rfl rfl ?_
  refine ex_call0 (As := [.int (nI p)]) (v := .ref (b + 12 + 3 + (fun j => π (mvI i p j)) p)) (ci := 3) vl_X4_76 rfl (c_at T (by omega) hp n8) T.ob rfl (by decide) (Nat.le_of_ble_eq_true rfl) (Nat.le_refl _) (Nat.le_refl _) rfl dX4_daysAsGuardianIfMoved_25 ?_
  refine ex_astore_n (lv' := [(3, .ref (b + 12 + 3 + (fun j => π (mvI i p j)) p)), (0, .ref b), (1, .int (nI i)), (2, .int (nI p))]) dX4_daysAsGuardianIfMoved_28 rfl (by decide) rfl ?_
  refine ex_aload_n 0 dX4_daysAsGuardianIfMoved_29 rfl rfl ?_
  refine ex_ifnonnull (tgt := 35) dX4_daysAsGuardianIfMoved_30 (by decide) ?_
  refine ex_aload_n 0 dX4_daysAsGuardianIfMoved_35 rfl rfl ?_
  refine ex_get (v := .int ((moveA (n, g, t, u, q) i p).2.2.2.2 p 5)) fl_X4_144 (T.pe (by omega) hp) rfl dX4_daysAsGuardianIfMoved_36 ?_
  refine ex_istore (lv' := [(4, .int ((moveA (n, g, t, u, q) i p).2.2.2.2 p 5)), (3, .ref (b + 12 + 3 + (fun j => π (mvI i p j)) p)), (0, .ref b), (1, .int (nI i)), (2, .int (nI p))]) dX4_daysAsGuardianIfMoved_39 (by decide) rfl ?_
  refine ex_aload_n 2 dX4_daysAsGuardianIfMoved_41 rfl rfl ?_
  refine ex_get (v := .ref (b + 12)) fl_X4_16 S.1.ob rfl dX4_daysAsGuardianIfMoved_42 ?_
  refine ex_bipush (v := nI 100) dX4_daysAsGuardianIfMoved_45 (by decide) ?_
  refine exX_trial (As := [.int (nI 100)]) (r0 := none) (π1 := fun j => π (mvI i p j)) (B := itA 100 (moveA (n, g, t, u, q) i p)) vl_X4_118 rfl S T (c_liveDays T (moveA_wf wf hi hp) m3 (by omega)) rfl (by decide) (Nat.le_of_ble_eq_true rfl) (Nat.le_refl _) (Nat.le_refl _) rfl dX4_daysAsGuardianIfMoved_47 (fun h S T => ?_)
  refine ex_aload_n 1 dX4_daysAsGuardianIfMoved_50 rfl rfl ?_
  refine ex_get (v := .int ((itA 100 (moveA (n, g, t, u, q) i p)).2.2.2.2 p 5)) fl_X4_144 (T.pe (by omega) (by rw [itA_1]; exact hp)) rfl dX4_daysAsGuardianIfMoved_51 ?_
  refine ex_iload 0 dX4_daysAsGuardianIfMoved_54 rfl ?_
  refine ex_isub dX4_daysAsGuardianIfMoved_56 ?_
  exact ex_iret hQ rfl (by exact ⟨rfl, rfl, S⟩) dX4_daysAsGuardianIfMoved_57

set_option maxRecDepth 20000 in
set_option maxHeartbeats 2000000 in
theorem c_bestPlace {G : GG} {l : Launch} {h0 : HP} {z b : Nat} {n : Nat} {g : Option Nat} {t : Nat} {u : Nat → Int32} {q : Nat → Nat → Int32} {k len : Nat} {L : Nat → AS} {V : Nat → Option AS} {c : Nat → Nat} (S0 : PP G h0 z b ((n, g, t, u, q), k, L, V, len, c)) (wf : wfA (n, g, t, u, q)) (m3 : 0 < u 3) {y x : Int32} : Ct G l 6 0 0 yX4_bestPlace cX4_bestPlace 7 (some .int) [.ref b, .int y, .int x] h0 z (pX G (X_bestPlace ((n, g, t, u, q), k, L, V, len, c) y x, ((n, g, t, u, q), k, L, V, len, c)) h0 z b) := by
  refine Ct.intro (lv := [(0, .ref b), (1, .int y), (2, .int x)]) (by decide +kernel) (Nat.le_of_ble_eq_true rfl) rfl (fun X Q hQ hnm => ?_)
  have S := S0.xf
  have n8 : n ≤ 8 := wf.1
  obtain ⟨π, hN⟩ := S.1.2.1
  rcases inR_or y n (by omega) with ⟨i, hp, rfl⟩ | hp
  · refine ex_aload_n 0 dX4_bestPlace_0 rfl rfl ?_
    refine ex_get (v := .ref (b + 1)) fl_X4_10 S.1.ob rfl dX4_bestPlace_1 ?_
    refine ex_iload_n 1 dX4_bestPlace_4 rfl rfl ?_
    refine ex_call0 (As := [.int (nI i)]) (v := .ref (b + 1 + 3 + π i)) (ci := 3) vl_X4_76 rfl (c_at hN (by omega) hp n8) hN.ob rfl (by decide) (Nat.le_of_ble_eq_true rfl) (Nat.le_refl _) (Nat.le_refl _) rfl dX4_bestPlace_5 ?_
    refine ex_ifnonnull (tgt := 13) dX4_bestPlace_8 (by decide) ?_
    by_cases hx : x = 0 ∨ x = nI 1
    · have TL : ex G l X Q 6 0 0 0 0 cX4_bestPlace yX4_bestPlace.cls 7 (some .int) h0 z 25 [(0, .ref b), (1, .int (nI i)), (2, .int x)] [] := by
        refine ex_iconst (v := nI 0) dX4_bestPlace_25 (by decide) ?_
        refine ex_istore_n (lv' := [(3, .int (nI 0)), (0, .ref b), (1, .int (nI i)), (2, .int x)]) dX4_bestPlace_26 rfl (by decide) rfl ?_
        refine ex_iconst (v := (-1)) dX4_bestPlace_27 (by decide) ?_
        refine ex_istore (lv' := [(4, .int (-1)), (3, .int (nI 0)), (0, .ref b), (1, .int (nI i)), (2, .int x)]) dX4_bestPlace_28 (by decide) rfl ?_
        refine ex_iconst (v := nI 0) dX4_bestPlace_30 (by decide) ?_
        refine ex_istore (lv' := [(5, .int (nI 0)), (4, .int (-1)), (3, .int (nI 0)), (0, .ref b), (1, .int (nI i)), (2, .int x)]) dX4_bestPlace_31 (by decide) rfl ?_
        suffices H : ∀ (k2 p best : Nat) (most : Int32) (h : HP), p + k2 = n → XF G h0 h z b ((n, g, t, u, q), k, L, V, len, c) → bpG (n, g, t, u, q) i k2 p best most = bpG (n, g, t, u, q) i n 0 0 (-1) → ex G l X Q 6 0 0 0 0 cX4_bestPlace yX4_bestPlace.cls 7 (some .int) h z 33 [(5, .int (nI p)), (4, .int most), (3, .int (nI best)), (2, .int x), (1, .int (nI i)), (0, .ref b)] [] from by
          have e2 := H n 0 0 (-1) h0 (by omega) S rfl
          refine ex_lv (lv2 := [(5, .int (nI 0)), (4, .int (-1)), (3, .int (nI 0)), (2, .int x), (1, .int (nI i)), (0, .ref b)]) [0, 1, 2, 5, 4, 3] rfl ?_
          exact e2
        intro k2
        induction k2 with
        | zero =>
          intro p best most h hd S hh
          refine ex_iload 0 dX4_bestPlace_33 rfl ?_
          refine ex_aload_n 5 dX4_bestPlace_35 rfl rfl ?_
          refine ex_get (v := .ref (b + 1)) fl_X4_10 S.1.ob rfl dX4_bestPlace_36 ?_
          refine ex_get (v := .int (nI n)) fl_X4_55 S.1.nob rfl dX4_bestPlace_39 ?_
          refine ex_icmp_ge (tgt := 74) dX4_bestPlace_42 (by decide) (fun c_42 => ?_) (fun c_42 => absurd ((nI_leI (by omega) (by omega)).mpr (by omega)) c_42)
          refine ex_iload_n 3 dX4_bestPlace_74 rfl rfl ?_
          refine ex_if_ne (tgt := 82) dX4_bestPlace_75 (by decide) (fun c_75 => ?_) (fun c_75 => ?_)
          · refine ex_iload 1 dX4_bestPlace_82 rfl ?_
            exact ex_iret hQ rfl (by unfold X_bestPlace; dsimp only; rw [if_pos (inR_nI hp (by omega)), if_pos hx, ixn (by omega), ← hh]; first | (rw [if_pos c_75]; exact ⟨rfl, rfl, S⟩) | (rw [if_neg c_75]; exact ⟨rfl, rfl, S⟩)) dX4_bestPlace_84
          · refine ex_iload_n 2 dX4_bestPlace_78 rfl rfl ?_
            refine ex_goto (tgt := 84) dX4_bestPlace_79 (by decide) ?_
            exact ex_iret hQ rfl (by unfold X_bestPlace; dsimp only; rw [if_pos (inR_nI hp (by omega)), if_pos hx, ixn (by omega), ← hh]; first | (rw [if_pos c_75]; exact ⟨rfl, rfl, S⟩) | (rw [if_neg c_75]; exact ⟨rfl, rfl, S⟩)) dX4_bestPlace_84
        | succ k2 ih =>
          intro p best most h hd S hh
          rw [bpG] at hh
          refine ex_iload 0 dX4_bestPlace_33 rfl ?_
          refine ex_aload_n 5 dX4_bestPlace_35 rfl rfl ?_
          refine ex_get (v := .ref (b + 1)) fl_X4_10 S.1.ob rfl dX4_bestPlace_36 ?_
          refine ex_get (v := .int (nI n)) fl_X4_55 S.1.nob rfl dX4_bestPlace_39 ?_
          refine ex_icmp_ge (tgt := 74) dX4_bestPlace_42 (by decide) (fun c_42 => absurd c_42 (fun q9 => absurd ((nI_leI (by omega) (by omega)).mp q9) (by omega))) (fun c_42 => ?_)
          refine ex_aload_n 5 dX4_bestPlace_45 rfl rfl ?_
          refine ex_iload_n 4 dX4_bestPlace_46 rfl rfl ?_
          refine ex_iload 0 dX4_bestPlace_47 rfl ?_
          refine ex_callV (As := [.int (nI i), .int (nI p)]) (ci := 4) vl_X4_173 rfl (c_dgM S.1 wf m3 hp (by omega)) S.1.ob rfl (by decide) (Nat.le_of_ble_eq_true rfl) (Nat.le_refl _) (Nat.le_refl _) rfl dX4_bestPlace_49 (fun r1 h1 z1 hp1 => ?_)
          obtain ⟨rfl, rfl, S9⟩ := hp1
          have S := S.trans S9
          refine ex_istore (lv' := [(6, .int (dgM (n, g, t, u, q) i p)), (5, .int (nI p)), (4, .int most), (3, .int (nI best)), (2, .int x), (1, .int (nI i)), (0, .ref b)]) dX4_bestPlace_52 (by decide) rfl ?_
          refine ex_iload 0 dX4_bestPlace_54 rfl ?_
          refine ex_iload 2 dX4_bestPlace_56 rfl ?_
          refine ex_icmp_le (tgt := 68) dX4_bestPlace_58 (by decide) (fun c_58 => ?_) (fun c_58 => ?_)
          · refine ex_iinc (v := nI (p + 1)) (lv' := [(5, .int (nI (p + 1))), (6, .int (dgM (n, g, t, u, q) i p)), (4, .int most), (3, .int (nI best)), (2, .int x), (1, .int (nI i)), (0, .ref b)]) 1 dX4_bestPlace_68 rfl (nI_1 p) (by decide) rfl ?_
            refine ex_goto (tgt := 33) dX4_bestPlace_71 (by decide) ?_
            have e2 := ih (p + 1) best most h1 (by omega) S (by rw [← hh, if_neg (Int32.not_lt.mpr c_58)])
            refine ex_lv (lv2 := [(5, .int (nI (p + 1))), (4, .int most), (3, .int (nI best)), (2, .int x), (1, .int (nI i)), (0, .ref b)]) [0, 2, 3, 4, 5, 6] rfl ?_
            exact e2
          · refine ex_iload 1 dX4_bestPlace_61 rfl ?_
            refine ex_istore_n (lv' := [(3, .int (nI p)), (6, .int (dgM (n, g, t, u, q) i p)), (5, .int (nI p)), (4, .int most), (2, .int x), (1, .int (nI i)), (0, .ref b)]) dX4_bestPlace_63 rfl (by decide) rfl ?_
            refine ex_iload 1 dX4_bestPlace_64 rfl ?_
            refine ex_istore (lv' := [(4, .int (dgM (n, g, t, u, q) i p)), (3, .int (nI p)), (6, .int (dgM (n, g, t, u, q) i p)), (5, .int (nI p)), (2, .int x), (1, .int (nI i)), (0, .ref b)]) dX4_bestPlace_66 (by decide) rfl ?_
            refine ex_iinc (v := nI (p + 1)) (lv' := [(5, .int (nI (p + 1))), (4, .int (dgM (n, g, t, u, q) i p)), (3, .int (nI p)), (6, .int (dgM (n, g, t, u, q) i p)), (2, .int x), (1, .int (nI i)), (0, .ref b)]) 3 dX4_bestPlace_68 rfl (nI_1 p) (by decide) rfl ?_
            refine ex_goto (tgt := 33) dX4_bestPlace_71 (by decide) ?_
            have e2 := ih (p + 1) p (dgM (n, g, t, u, q) i p) h1 (by omega) S (by rw [← hh, if_pos (Int32.not_le.mp c_58)])
            refine ex_lv (lv2 := [(5, .int (nI (p + 1))), (4, .int (dgM (n, g, t, u, q) i p)), (3, .int (nI p)), (2, .int x), (1, .int (nI i)), (0, .ref b)]) [0, 1, 2, 4, 5, 6] rfl ?_
            exact e2
      refine ex_iload_n 2 dX4_bestPlace_13 rfl rfl ?_
      refine ex_if_eq (tgt := 25) dX4_bestPlace_14 (by decide) (fun c_14 => ?_) (fun c_14 => ?_)
      · exact TL
      · refine ex_iload_n 2 dX4_bestPlace_17 rfl rfl ?_
        refine ex_iconst (v := nI 1) dX4_bestPlace_18 (by decide) ?_
        refine ex_icmp_eq (tgt := 25) dX4_bestPlace_19 (by decide) (fun c_19 => ?_) (fun c_19 => ?_)
        · exact TL
        · exact absurd hx (fun q9 => q9.elim c_14 c_19)
    · refine ex_iload_n 2 dX4_bestPlace_13 rfl rfl ?_
      refine ex_if_eq (tgt := 25) dX4_bestPlace_14 (by decide) (fun c_14 => ?_) (fun c_14 => ?_)
      · exact absurd (by first | exact Or.inl c_14 | exact Or.inr c_19) hx
      · refine ex_iload_n 2 dX4_bestPlace_17 rfl rfl ?_
        refine ex_iconst (v := nI 1) dX4_bestPlace_18 (by decide) ?_
        refine ex_icmp_eq (tgt := 25) dX4_bestPlace_19 (by decide) (fun c_19 => ?_) (fun c_19 => ?_)
        · exact absurd (by first | exact Or.inl c_14 | exact Or.inr c_19) hx
        · refine ex_bipush (v := (-2)) dX4_bestPlace_22 (by decide) ?_
          exact ex_iret hQ rfl (by unfold X_bestPlace; dsimp only; rw [if_pos (inR_nI hp (by omega)), if_neg hx]; exact ⟨rfl, rfl, S⟩) dX4_bestPlace_24
  · refine ex_aload_n 0 dX4_bestPlace_0 rfl rfl ?_
    refine ex_get (v := .ref (b + 1)) fl_X4_10 S.1.ob rfl dX4_bestPlace_1 ?_
    refine ex_iload_n 1 dX4_bestPlace_4 rfl rfl ?_
    refine ex_call0 (As := [.int y]) (v := .null) (ci := 3) vl_X4_76 rfl (c_atN hN (inR_not hp) n8) hN.ob rfl (by decide) (Nat.le_of_ble_eq_true rfl) (Nat.le_refl _) (Nat.le_refl _) rfl dX4_bestPlace_5 ?_
    refine ex_ifnonnullN dX4_bestPlace_8 ?_
    refine ex_iconst (v := (-1)) dX4_bestPlace_11 (by decide) ?_
    exact ex_iret hQ rfl (by unfold X_bestPlace; dsimp only; rw [if_neg hp]; exact ⟨rfl, rfl, S⟩) dX4_bestPlace_12

set_option maxRecDepth 20000 in
set_option maxHeartbeats 2000000 in
theorem c_wipe {G : GG} {l : Launch} {h0 : HP} {z b : Nat} {n : Nat} {g : Option Nat} {t : Nat} {u : Nat → Int32} {q : Nat → Nat → Int32} {k len : Nat} {L : Nat → AS} {V : Nat → Option AS} {c : Nat → Nat} (S0 : PP G h0 z b ((n, g, t, u, q), k, L, V, len, c)) : Ct G l 0 0 0 yX4_wipe cX4_wipe 2 (some .int) [.ref b] h0 z (pX G (X_wipe ((n, g, t, u, q), k, L, V, len, c)) h0 z b) := by
  refine Ct.intro (lv := [(0, .ref b)]) (by decide +kernel) (Nat.le_of_ble_eq_true rfl) rfl (fun X Q hQ hnm => ?_)
  have S := S0.xf
  refine ex_aload_n 0 dX4_wipe_0 rfl rfl ?_
  refine ex_get (v := .ref (b + 92)) fl_X4_33 S.1.ob rfl dX4_wipe_1 ?_
  refine ex_get (v := .int (nI len)) fl_X4_73 S.1.pob rfl dX4_wipe_4 ?_
  refine ex_istore_n (lv' := [(1, .int (nI len)), (0, .ref b)]) dX4_wipe_7 rfl (by decide) rfl ?_
  refine ex_aload_n 1 dX4_wipe_8 rfl rfl ?_
  refine ex_get (v := .ref (b + 92)) fl_X4_33 S.1.ob rfl dX4_wipe_9 ?_
  refine ex_iconst (v := nI 0) dX4_wipe_12 (by decide) ?_
  refine exX_padL (l2 := 0) S fl_X4_73 rfl (Nat.zero_le _) dX4_wipe_13 (fun h S => ?_)
  have S : XF G h0 h z b ((n, g, t, u, q), k, L, V, 0, c) := S
  refine ex_iload_n 0 dX4_wipe_16 rfl rfl ?_
  exact ex_iret hQ rfl (by exact ⟨rfl, rfl, S⟩) dX4_wipe_17

set_option maxRecDepth 20000 in
set_option maxHeartbeats 2000000 in
theorem c_fault {G : GG} {l : Launch} {h0 : HP} {z b : Nat} {n : Nat} {g : Option Nat} {t : Nat} {u : Nat → Int32} {q : Nat → Nat → Int32} {k len : Nat} {L : Nat → AS} {V : Nat → Option AS} {c : Nat → Nat} (S0 : PP G h0 z b ((n, g, t, u, q), k, L, V, len, c)) (hc : ∀ i, i < len → c i < 65536) : Ct G l 3 0 0 yX4_fault cX4_fault 1 (some .int) [.ref b] h0 z (pX G (X_fault ((n, g, t, u, q), k, L, V, len, c), ((n, g, t, u, q), k, L, V, len, c)) h0 z b) := by
  refine Ct.intro (lv := [(0, .ref b)]) (by decide +kernel) (Nat.le_of_ble_eq_true rfl) rfl (fun X Q hQ hnm => ?_)
  have S := S0.xf
  refine ex_aload_n 0 dX4_fault_0 rfl rfl ?_
  refine ex_get (v := .ref (b + 92)) fl_X4_33 S.1.ob rfl dX4_fault_1 ?_
  refine ex_call0 (As := []) (v := .int (ffV (ffA len c))) (ci := 1) vl_X4_63 rfl (c_firstFault S.1.2.2.2.2.2.1 hc) S.1.pob rfl (by decide) (Nat.le_of_ble_eq_true rfl) (Nat.le_refl _) (Nat.le_refl _) rfl dX4_fault_4 ?_
  exact ex_iret hQ rfl (by exact ⟨rfl, rfl, S⟩) dX4_fault_7

set_option maxRecDepth 20000 in
set_option maxHeartbeats 2000000 in
theorem c_undo {G : GG} {l : Launch} {h0 : HP} {z b : Nat} {n : Nat} {g : Option Nat} {t : Nat} {u : Nat → Int32} {q : Nat → Nat → Int32} {k len : Nat} {L : Nat → AS} {V : Nat → Option AS} {c : Nat → Nat} (S0 : PP G h0 z b ((n, g, t, u, q), k, L, V, len, c)) (nL : ∀ j, j < k → (L j).1 ≤ 8) (k6 : k ≤ 6) : Ct G l 3 0 0 yX4_undo cX4_undo 1 (some .int) [.ref b] h0 z (pX G (X_undo ((n, g, t, u, q), k, L, V, len, c)) h0 z b) := by
  refine Ct.intro (lv := [(0, .ref b)]) (by decide +kernel) (Nat.le_of_ble_eq_true rfl) rfl (fun X Q hQ hnm => ?_)
  have S := S0.xf
  refine ex_aload_n 0 dX4_undo_0 rfl rfl ?_
  refine ex_get (v := .ref (b + 23)) fl_X4_22 S.1.ob rfl dX4_undo_1 ?_
  refine ex_get (v := .int (nI k)) fl_X4_166 S.1.hob rfl dX4_undo_4 ?_
  refine ex_if_ne (tgt := 13) dX4_undo_7 (by decide) (fun c_7 => ?_) (fun c_7 => ?_)
  · have n_7 : ¬ (k = 0) := fun q9 => c_7 ((nI_eq (b := 0) (by omega) (by omega)).mpr q9)
    refine ex_aload_n 0 dX4_undo_13 rfl rfl ?_
    refine ex_get (v := .ref (b + 23)) fl_X4_22 S.1.ob rfl dX4_undo_14 ?_
    refine ex_aload_n 0 dX4_undo_17 rfl rfl ?_
    refine ex_get (v := .ref (b + 1)) fl_X4_10 S.1.ob rfl dX4_undo_18 ?_
    refine exX_back vl_X4_187 S (show 1 ≤ k by omega) (nL (k - 1) (by omega)) (by decide) (Nat.le_of_ble_eq_true rfl) (Nat.le_refl _) (Nat.le_refl _) rfl dX4_undo_21 (fun h S => ?_)
    have S : XF G h0 h z b (L (k - 1), k - 1, L, V, len, c) := S
    refine ex_aload_n 0 dX4_undo_24 rfl rfl ?_
    refine ex_get (v := .ref (b + 23)) fl_X4_22 S.1.ob rfl dX4_undo_25 ?_
    refine ex_get (v := .int (nI (k - 1))) fl_X4_166 S.1.hob rfl dX4_undo_28 ?_
    exact ex_iret hQ rfl (by unfold X_undo; dsimp only; rw [if_neg n_7]; exact ⟨rfl, rfl, S⟩) dX4_undo_31
  · have n_7 : k = 0 := (nI_eq (b := 0) (by omega) (by omega)).mp c_7
    refine ex_bipush (v := (-5)) dX4_undo_10 (by decide) ?_
    exact ex_iret hQ rfl (by unfold X_undo; dsimp only; rw [if_pos n_7]; exact ⟨rfl, rfl, S⟩) dX4_undo_12
end
section
/-! the characters in a long -/
def l64 (c : Int64) : Nat := c.toUInt64.toNat
def rsN (c : Int64) (i : Nat) : Nat := l64 c >>> (8 * i)
def cdN (c : Int64) (i : Nat) : Nat := rsN c i % 256
def rI (c : Int64) (i : Nat) : Int64 := (UInt64.ofNat (rsN c i)).toInt64
def cI (m : Nat) : Int64 := (UInt64.ofNat m).toInt64
theorem cdN_lt {c : Int64} {i : Nat} : cdN c i < 256 := Nat.mod_lt _ (by decide)
theorem rsN_lt {c : Int64} {i : Nat} : rsN c i < 2 ^ 64 := by
  have h : l64 c < 2 ^ 64 := c.toUInt64.toNat_lt
  have h2 : rsN c i ≤ l64 c := by
    unfold rsN
    rw [Nat.shiftRight_eq_div_pow]
    exact Nat.div_le_self _ _
  omega
theorem rI_0 {c : Int64} : rI c 0 = c := by
  unfold rI rsN l64
  rw [Nat.mul_zero, Nat.shiftRight_zero, UInt64.ofNat_toNat]
  rfl
theorem shA {a : Nat} (h : a < 8) : ((nI (8 * a)).toInt64.toUInt64 &&& Int64.toUInt64 63) = UInt64.ofNat (8 * a) := by
  rcases (show a = 0 ∨ a = 1 ∨ a = 2 ∨ a = 3 ∨ a = 4 ∨ a = 5 ∨ a = 6 ∨ a = 7 by omega) with rfl | rfl | rfl | rfl | rfl | rfl | rfl | rfl <;> decide
theorem rI_sh {c : Int64} {a : Nat} (h : a < 8) : (c.toUInt64 >>> ((nI (8 * a)).toInt64.toUInt64 &&& Int64.toUInt64 63)).toInt64 = rI c a := by
  rw [shA h]
  unfold rI
  congr 1
  apply UInt64.toNat_inj.mp
  rw [UInt64.toNat_shiftRight, UInt64.toNat_ofNat_of_lt' (show 8 * a < UInt64.size by have : UInt64.size = 2 ^ 64 := rfl; omega), UInt64.toNat_ofNat_of_lt' (show rsN c a < UInt64.size from rsN_lt), Nat.mod_eq_of_lt (by omega)]
  rfl
theorem rI_next {c : Int64} {i : Nat} : ((rI c i).toUInt64 >>> ((nI 8).toInt64.toUInt64 &&& Int64.toUInt64 63)).toInt64 = rI c (i + 1) := by
  have e := rI_sh (c := rI c i) (a := 1) (by decide)
  refine e.trans ?_
  unfold rI rsN l64
  congr 2
  show (UInt64.ofNat (rsN c i)).toNat >>> (8 * 1) = _
  rw [UInt64.toNat_ofNat_of_lt' (show rsN c i < UInt64.size from rsN_lt)]
  unfold rsN l64
  rw [← Nat.shiftRight_add]
  rfl
theorem rI_and {c : Int64} {i : Nat} : (rI c i &&& 255) = cI (cdN c i) := by
  have e : (rI c i &&& 255).toUInt64 = (cI (cdN c i)).toUInt64 := by
    apply UInt64.toNat_inj.mp
    show ((UInt64.ofNat (rsN c i)) &&& (255 : Int64).toUInt64).toNat = (UInt64.ofNat (cdN c i)).toNat
    rw [UInt64.toNat_and, UInt64.toNat_ofNat_of_lt' (show rsN c i < UInt64.size from rsN_lt), UInt64.toNat_ofNat_of_lt' (show cdN c i < UInt64.size from Nat.lt_trans cdN_lt (by decide))]
    exact Nat.and_two_pow_sub_one_eq_mod _ 8
  exact congrArg UInt64.toInt64 e
theorem cI_z : ∀ m, m < 256 → (lg_cmp (cI m) 0 = 0 ↔ m = 0) := by decide +kernel
theorem cI_33 : ∀ m, m < 256 → (lg_cmp (cI m) 33 < 0 ↔ m < 33) := by decide +kernel
theorem cI_126 : ∀ m, m < 256 → (lg_cmp (cI m) 126 ≤ 0 ↔ m ≤ 126) := by decide +kernel
theorem cI_int : ∀ m, m < 256 → (cI m).toInt32 = nI m := by decide +kernel
theorem cI_chr : ∀ m, m < 256 → ((nI m).toUInt32 % 65536).toInt32 = nI m := by decide +kernel
theorem rI_z {c : Int64} {i : Nat} : lg_cmp (rI c i) 0 = 0 ↔ rsN c i = 0 := by
  have e : rI c i = 0 ↔ rsN c i = 0 := by
    constructor
    · intro h
      have h2 : (rI c i).toUInt64.toNat = (0 : Int64).toUInt64.toNat := congrArg (fun x => x.toUInt64.toNat) h
      rw [show (rI c i).toUInt64 = UInt64.ofNat (rsN c i) from rfl, UInt64.toNat_ofNat_of_lt' (show rsN c i < UInt64.size from rsN_lt)] at h2
      exact h2
    · intro h
      unfold rI
      rw [h]
      rfl
  rw [← e]
  unfold lg_cmp
  constructor
  · intro h
    split at h
    · exact absurd h (by decide)
    · split at h
      · assumption
      · exact absurd h (by decide)
  · intro h
    rw [h, if_neg (by decide), if_pos rfl]
/-- how many characters the long has, 0 if they aren't right -/
def pcG (c : Int64) (k i : Nat) : Nat := match k with
  | 0 => if rsN c i = 0 then i else 0
  | k + 1 => if cdN c i = 0 then (if rsN c i = 0 then i else 0) else if cdN c i < 33 ∨ 126 < cdN c i then 0 else pcG c k (i + 1)
theorem pcG_le {c : Int64} : ∀ (k i : Nat), pcG c k i ≤ i + k
  | 0, i => by
    rw [pcG]
    split <;> omega
  | k + 1, i => by
    have := pcG_le (c := c) k (i + 1)
    rw [pcG]
    split
    · split <;> omega
    · split <;> omega
def pcs (c : Int64) : Nat := pcG c 8 0
/-- the pad behind it -/
def putC (len : Nat) (p : Nat → Nat) (c : Int64) (m : Nat) : Nat → Nat := fun i => if i < len then p i else cdN c (m - 1 - (i - len))
def X_put (x : CX) (c : Int64) : Int32 × CX := if pcs c = 0 then (-2, x) else if x.2.2.2.2.1 + pcs c ≤ 60 then (nI (x.2.2.2.2.1 + pcs c), (x.1, x.2.1, x.2.2.1, x.2.2.2.1, x.2.2.2.2.1 + pcs c, putC x.2.2.2.2.1 x.2.2.2.2.2 c (pcs c))) else (-4, x)
theorem PD.congr {G : GG} {h0 h : HP} {b len : Nat} {c c2 : Nat → Nat} (S : PD G h0 h b len c) (e : ∀ i, i < len → c2 i = c i) : PD G h0 h b len c2 := by
  obtain ⟨s1, ⟨f, s2, s3⟩, s4, s5⟩ := S
  exact ⟨s1, ⟨f, s2, fun i hi => by rw [s3 i hi, e i hi]⟩, s4, s5⟩
theorem nI_p1 {m : Nat} (h : m < 1000) : nI (m + 1) - nI 1 = nI m := by
  have := nI_1 m
  rw [show nI (m + 1) = nI m + 1 from by rw [← this]]
  exact Int32.add_sub_cancel _ _
section EX5
variable {G : GG} {l : Launch} {X : CT} {Q : State → Prop} {d mc ms cs sl : Nat} {cc : ByteArray} {own : String} {nL : Nat} {ret : Option FieldType} {h h0 : HP} {z pc : Nat} {lv : List (Nat × Value)} {st : List Value} {b : Nat}
/-- history.record(now), and what it leaves alone -/
theorem exX_rec2 {idx : Nat} {x : CX} {st0 : List Value} (V : VV own idx yX0_record cX0_record 2 none 1) (S : XF G h0 h z b x) (n8 : x.1.1 ≤ 8) (hd : 3 ≤ d) (hst : (st.map fun v => v.category).sum ≤ 8) (hc : cs ≤ mc) (hs : sl ≤ ms) (stk : st0 = .ref (b + 1) :: .ref (b + 23) :: st) (dg : decode cc pc = .ok (.invokevirtual idx, 3)) (k1 : ∀ h1 : HP, XF G h0 h1 z b (recX x x.1) → (∀ a, b + 91 ≤ a → h1 a = h a) → ex G l X Q d mc ms cs sl cc own nL ret h1 z (pc + 3) lv st) : ex G l X Q d mc ms cs sl cc own nL ret h z pc lv st0 := by
  obtain ⟨π2, hN⟩ := S.1.2.1
  obtain ⟨σ, P, ⟨r, hA, hr, hσ, hi, k6⟩, hL⟩ := S.1.2.2.2.1
  refine ex_callV V (As := [.ref (b + 1)]) (ci := 0) rfl (c_record hA hr hσ hi k6 hN (by omega) n8) hA.1 rfl hd hst hc hs stk dg (fun r1 h1 z1 hp => ?_)
  obtain ⟨rfl, rfl, σ1, P1, H1, H2⟩ := hp
  have fr : ∀ a, b + 91 ≤ a → h1 a = h a := by
    obtain ⟨r9, g1, -⟩ := H1
    exact fun a ha => g1.2.2.2 a (by omega)
  refine k1 h1 (S.hist H1 (fun j hj => ?_)) fr
  rw [H2 j hj]
  unfold recR
  have k6' : x.2.1 ≤ 6 := k6
  split
  · rename_i c
    rw [if_pos c] at hj
    split
    · rfl
    · exact hL j (by omega)
  · rename_i c
    rw [if_neg c] at hj
    split
    · rfl
    · exact hL (j + 1) (by omega)
end EX5
/-- a new State comes into an empty slot -/
theorem XF.newS {G : GG} {h0 h h1 : HP} {z b i : Nat} {x : CX} {e : va_E} {r : Nat → Option Nat} (S : XF G h0 h z b x) (hr : h (b + 91) = some (aQ G 4 2 r)) (hi : i < 2) (hV : x.2.2.2.1 i = none) (N : SF G (hu h z e) h1 z (fun j => j) A0) : XF G h0 (hu h1 (b + 91) (aQ G 4 2 (va_up r i (some z)))) (z + 11) b (x.1, x.2.1, x.2.2.1, (fun j => if j = i then some A0 else x.2.2.2.1 j), x.2.2.2.2) := by
  obtain ⟨⟨s1, ⟨π2, s2⟩, ⟨π3, T, s3⟩, ⟨σ, P, s4, s4'⟩, ⟨r', s5, s5', s5''⟩, s6, s7⟩, s8⟩ := S
  obtain rfl : r = r' := by rw [hr] at s5; simpa using s5
  have q : ∀ a, a < z → a ≠ b + 91 → (hu h1 (b + 91) (aQ G 4 2 (va_up r i (some z)))) a = h a := fun a g1 g2 => by rw [hu_n g2, N.2 a (by omega), hu_n (by omega)]
  refine ⟨⟨by rw [q _ (by omega) (by omega)]; exact s1, ⟨π2, s2.kept (fun a g1 g2 => q a (by omega) (by omega))⟩, ⟨π3, T, s3.kept (fun a g1 g2 => q a (by omega) (by omega))⟩, ⟨σ, P, s4.kept (fun a g1 g2 => q a (by omega) (by omega)), s4'⟩, ⟨_, hu_s, fun j hj => ?_, fun a0 a1 f0 f1 => ?_⟩, s6.kept (fun a g1 g2 => q a (by omega) (by omega)), by omega⟩, fun a g1 g2 => by rw [q a (by omega) (by omega)]; exact s8 a g1 g2⟩
  · show slA G _ (z + 11) b (if j = i then some A0 else x.2.2.2.1 j) (if j = i then some z else r j)
    by_cases ej : j = i
    · rw [if_pos ej, if_pos ej]
      exact ⟨z, fun j => j, rfl, by omega, by omega, N.1.kept (fun a g1 g2 => by rw [hu_n (by omega)])⟩
    · rw [if_neg ej, if_neg ej]
      have hj2 := s5' j hj
      cases hv : x.2.2.2.1 j with
      | none => rw [hv] at hj2; exact hj2
      | some B2 =>
        rw [hv] at hj2
        obtain ⟨a2, π4, f1, f2, f3, f4⟩ := hj2
        exact ⟨a2, π4, f1, f2, by omega, f4.kept (fun y g1 g2 => q y (by omega) (by omega))⟩
  · have key : ∀ j a, j < 2 → j ≠ i → r j = some a → a + 11 ≤ z := fun j a hj hne ha => by
      have hj2 := s5' j hj
      cases hv : x.2.2.2.1 j with
      | none =>
        rw [hv] at hj2
        have hj3 : r j = none := hj2
        rw [ha] at hj3
        cases hj3
      | some B2 =>
        rw [hv] at hj2
        obtain ⟨a2, π4, f1, f2, f3, f4⟩ := hj2
        rw [ha] at f1
        cases f1
        exact f3
    have f0' : (if 0 = i then some z else r 0) = some a0 := f0
    have f1' : (if 1 = i then some z else r 1) = some a1 := f1
    rcases (show i = 0 ∨ i = 1 by omega) with rfl | rfl
    · rw [if_pos rfl] at f0'
      rw [if_neg (by decide)] at f1'
      cases f0'
      exact Or.inr (key 1 a1 (by decide) (by decide) f1')
    · rw [if_neg (by decide)] at f0'
      rw [if_pos rfl] at f1'
      cases f1'
      exact Or.inl (key 0 a0 (by decide) (by decide) f0')
end
section
set_option maxRecDepth 20000 in
set_option maxHeartbeats 2000000 in
theorem c_codesIn {G : GG} {l : Launch} {h0 : HP} {z : Nat} {c : Int64} : Ct G l 0 0 0 yX4_codesIn cX4_codesIn 7 (some .int) [.long c] h0 z (p0 (.int (nI (pcs c))) h0 z) := by
  refine Ct.intro (lv := [(0, .long c)]) (by decide +kernel) (Nat.le_of_ble_eq_true rfl) rfl (fun X Q hQ hnm => ?_)
  refine ex_lload_n 0 dX4_codesIn_0 rfl rfl ?_
  refine ex_lstore_n (lv' := [(2, .long c), (0, .long c)]) dX4_codesIn_1 rfl (by decide) rfl ?_
  refine ex_iconst (v := nI 0) dX4_codesIn_2 (by decide) ?_
  refine ex_istore (lv' := [(4, .int (nI 0)), (2, .long c), (0, .long c)]) dX4_codesIn_3 (by decide) rfl ?_
  suffices H : ∀ (k2 i : Nat), i + k2 = 8 → pcG c k2 i = pcG c 8 0 → ex G l X Q 0 0 0 0 0 cX4_codesIn yX4_codesIn.cls 7 (some .int) h0 z 5 [(4, .int (nI i)), (2, .long (rI c i)), (0, .long c)] [] from by
    have e2 := H 8 0 (by omega) rfl
    rw [rI_0] at e2
    refine ex_lv (lv2 := [(4, .int (nI 0)), (2, .long c), (0, .long c)]) [0, 1, 2] rfl ?_
    exact e2
  intro k2
  induction k2 with
  | zero =>
    intro i hi hh
    obtain rfl : i = 8 := by omega
    rw [pcG] at hh
    refine ex_iload 0 dX4_codesIn_5 rfl ?_
    refine ex_bipush (v := nI 8) dX4_codesIn_7 (by decide) ?_
    refine ex_icmp_ge (tgt := 60) dX4_codesIn_9 (by decide) (fun c_9 => ?_) (fun c_9 => absurd ((nI_leI (by omega) (by omega)).mpr (by omega)) c_9)
    refine ex_lload_n 1 dX4_codesIn_60 rfl rfl ?_
    refine ex_lconst (v := 0) dX4_codesIn_61 (by decide) ?_
    refine ex_lcmp dX4_codesIn_62 ?_
    refine ex_if_ne (tgt := 71) dX4_codesIn_63 (by decide) (fun c_63 => ?_) (fun c_63 => ?_)
    · refine ex_iconst (v := nI 0) dX4_codesIn_71 (by decide) ?_
      exact ex_iret hQ rfl (by unfold pcs; rw [← hh]; first | (rw [if_pos (rI_z.mp c_63)]; exact ⟨rfl, rfl, rfl⟩) | (rw [if_neg (fun q9 => c_63 (rI_z.mpr q9))]; exact ⟨rfl, rfl, rfl⟩)) dX4_codesIn_72
    · refine ex_iload 0 dX4_codesIn_66 rfl ?_
      refine ex_goto (tgt := 72) dX4_codesIn_68 (by decide) ?_
      exact ex_iret hQ rfl (by unfold pcs; rw [← hh]; first | (rw [if_pos (rI_z.mp c_63)]; exact ⟨rfl, rfl, rfl⟩) | (rw [if_neg (fun q9 => c_63 (rI_z.mpr q9))]; exact ⟨rfl, rfl, rfl⟩)) dX4_codesIn_72
  | succ k2 ih =>
    intro i hi hh
    rw [pcG] at hh
    refine ex_iload 0 dX4_codesIn_5 rfl ?_
    refine ex_bipush (v := nI 8) dX4_codesIn_7 (by decide) ?_
    refine ex_icmp_ge (tgt := 60) dX4_codesIn_9 (by decide) (fun c_9 => absurd c_9 (fun q9 => absurd ((nI_leI (by omega) (by omega)).mp q9) (by omega))) (fun c_9 => ?_)
    refine ex_lload_n 1 dX4_codesIn_12 rfl rfl ?_
    refine ex_ldc2 (v := 255) dX4_codesIn_13 kl_X4_181 ?_
    refine ex_land dX4_codesIn_16 ?_
    rw [rI_and]
    refine ex_lconst (v := 0) dX4_codesIn_17 (by decide) ?_
    refine ex_lcmp dX4_codesIn_18 ?_
    refine ex_if_eq (tgt := 60) dX4_codesIn_19 (by decide) (fun c_19 => ?_) (fun c_19 => ?_)
    · have hz : cdN c i = 0 := (cI_z _ cdN_lt).mp c_19
      refine ex_lload_n 1 dX4_codesIn_60 rfl rfl ?_
      refine ex_lconst (v := 0) dX4_codesIn_61 (by decide) ?_
      refine ex_lcmp dX4_codesIn_62 ?_
      refine ex_if_ne (tgt := 71) dX4_codesIn_63 (by decide) (fun c_63 => ?_) (fun c_63 => ?_)
      · refine ex_iconst (v := nI 0) dX4_codesIn_71 (by decide) ?_
        exact ex_iret hQ rfl (by unfold pcs; rw [← hh, if_pos hz]; first | (rw [if_pos (rI_z.mp c_63)]; exact ⟨rfl, rfl, rfl⟩) | (rw [if_neg (fun q9 => c_63 (rI_z.mpr q9))]; exact ⟨rfl, rfl, rfl⟩)) dX4_codesIn_72
      · refine ex_iload 0 dX4_codesIn_66 rfl ?_
        refine ex_goto (tgt := 72) dX4_codesIn_68 (by decide) ?_
        exact ex_iret hQ rfl (by unfold pcs; rw [← hh, if_pos hz]; first | (rw [if_pos (rI_z.mp c_63)]; exact ⟨rfl, rfl, rfl⟩) | (rw [if_neg (fun q9 => c_63 (rI_z.mpr q9))]; exact ⟨rfl, rfl, rfl⟩)) dX4_codesIn_72
    · have hz : ¬ cdN c i = 0 := fun q9 => c_19 ((cI_z _ cdN_lt).mpr q9)
      refine ex_lload_n 1 dX4_codesIn_22 rfl rfl ?_
      refine ex_ldc2 (v := 255) dX4_codesIn_23 kl_X4_181 ?_
      refine ex_land dX4_codesIn_26 ?_
      rw [rI_and]
      refine ex_lstore (lv' := [(5, .long (cI (cdN c i))), (4, .int (nI i)), (2, .long (rI c i)), (0, .long c)]) dX4_codesIn_27 (by decide) rfl ?_
      refine ex_lload 0 dX4_codesIn_29 rfl ?_
      refine ex_ldc2 (v := 33) dX4_codesIn_31 kl_X4_196 ?_
      refine ex_lcmp dX4_codesIn_34 ?_
      refine ex_if_lt (tgt := 47) dX4_codesIn_35 (by decide) (fun c_35 => ?_) (fun c_35 => ?_)
      · refine ex_iconst (v := nI 0) dX4_codesIn_47 (by decide) ?_
        exact ex_iret hQ rfl (by unfold pcs; rw [← hh, if_neg hz, if_pos (by first | exact Or.inl ((cI_33 _ cdN_lt).mp c_35) | exact Or.inr (Nat.not_le.mp (fun q9 => c_44 ((cI_126 _ cdN_lt).mpr q9))))]; exact ⟨rfl, rfl, rfl⟩) dX4_codesIn_48
      · refine ex_lload 0 dX4_codesIn_38 rfl ?_
        refine ex_ldc2 (v := 126) dX4_codesIn_40 kl_X4_198 ?_
        refine ex_lcmp dX4_codesIn_43 ?_
        refine ex_if_le (tgt := 49) dX4_codesIn_44 (by decide) (fun c_44 => ?_) (fun c_44 => ?_)
        · refine ex_lload_n 2 dX4_codesIn_49 rfl rfl ?_
          refine ex_bipush (v := nI 8) dX4_codesIn_50 (by decide) ?_
          refine ex_lushr (v := rI c (i + 1)) dX4_codesIn_52 (rI_next) ?_
          refine ex_lstore_n (lv' := [(2, .long (rI c (i + 1))), (5, .long (cI (cdN c i))), (4, .int (nI i)), (0, .long c)]) dX4_codesIn_53 rfl (by decide) rfl ?_
          refine ex_iinc (v := nI (i + 1)) (lv' := [(4, .int (nI (i + 1))), (2, .long (rI c (i + 1))), (5, .long (cI (cdN c i))), (0, .long c)]) 2 dX4_codesIn_54 rfl (nI_1 i) (by decide) rfl ?_
          refine ex_goto (tgt := 5) dX4_codesIn_57 (by decide) ?_
          have e2 := ih (i + 1) (by omega) (by rw [← hh, if_neg hz, if_neg (fun q9 => q9.elim (fun q9 => c_35 ((cI_33 _ cdN_lt).mpr q9)) (fun q9 => absurd ((cI_126 _ cdN_lt).mp c_44) (Nat.not_le.mpr q9)))])
          refine ex_lv (lv2 := [(4, .int (nI (i + 1))), (2, .long (rI c (i + 1))), (0, .long c)]) [0, 1, 3] rfl ?_
          exact e2
        · refine ex_iconst (v := nI 0) dX4_codesIn_47 (by decide) ?_
          exact ex_iret hQ rfl (by unfold pcs; rw [← hh, if_neg hz, if_pos (by first | exact Or.inl ((cI_33 _ cdN_lt).mp c_35) | exact Or.inr (Nat.not_le.mp (fun q9 => c_44 ((cI_126 _ cdN_lt).mpr q9))))]; exact ⟨rfl, rfl, rfl⟩) dX4_codesIn_48

set_option maxRecDepth 20000 in
set_option maxHeartbeats 2000000 in
theorem c_put {G : GG} {l : Launch} {h0 : HP} {z b : Nat} {n : Nat} {g : Option Nat} {t : Nat} {u : Nat → Int32} {q : Nat → Nat → Int32} {k len : Nat} {L : Nat → AS} {V : Nat → Option AS} {c : Nat → Nat} (S0 : PP G h0 z b ((n, g, t, u, q), k, L, V, len, c)) {y : Int64} : Ct G l 1 0 0 yX4_put cX4_put 5 (some .int) [.ref b, .long y] h0 z (pX G (X_put ((n, g, t, u, q), k, L, V, len, c) y) h0 z b) := by
  refine Ct.intro (lv := [(0, .ref b), (1, .long y)]) (by decide +kernel) (Nat.le_of_ble_eq_true rfl) rfl (fun X Q hQ hnm => ?_)
  have S := S0.xf
  have l60 : len ≤ 60 := S0.2.2.2.2.2.1.2.2.1
  have p8 : pcs y ≤ 8 := pcG_le 8 0
  refine ex_lload_n 1 dX4_put_0 rfl rfl ?_
  refine ex_callS0 (As := [.long y]) (v := .int (nI (pcs y))) vl_X4_177 (c_codesIn) rfl (by decide) (Nat.le_of_ble_eq_true rfl) (Nat.le_refl _) (Nat.le_refl _) rfl dX4_put_1 ?_
  refine ex_istore_n (lv' := [(3, .int (nI (pcs y))), (0, .ref b), (1, .long y)]) dX4_put_4 rfl (by decide) rfl ?_
  refine ex_iload_n 0 dX4_put_5 rfl rfl ?_
  refine ex_if_ne (tgt := 12) dX4_put_6 (by decide) (fun c_6 => ?_) (fun c_6 => ?_)
  · have n_6 : ¬ ((pcs y) = 0) := fun q9 => c_6 ((nI_eq (b := 0) (by omega) (by omega)).mpr q9)
    have hz : ¬ pcs y = 0 := n_6
    refine ex_aload_n 1 dX4_put_12 rfl rfl ?_
    refine ex_get (v := .ref (b + 92)) fl_X4_33 S.1.ob rfl dX4_put_13 ?_
    refine ex_get (v := .int (nI len)) fl_X4_73 S.1.pob rfl dX4_put_16 ?_
    refine ex_iload_n 0 dX4_put_19 rfl rfl ?_
    refine ex_iaddN dX4_put_20 ?_
    refine ex_bipush (v := nI 60) dX4_put_21 (by decide) ?_
    refine ex_icmp_le (tgt := 29) dX4_put_23 (by decide) (fun c_23 => ?_) (fun c_23 => ?_)
    · have n_23 : (len + (pcs y)) ≤ 60 := (nI_leI (by omega) (by omega)).mp c_23
      refine ex_iload_n 0 dX4_put_29 rfl rfl ?_
      refine ex_iconst (v := nI 1) dX4_put_30 (by decide) ?_
      refine ex_isub dX4_put_31 ?_
      refine ex_istore (lv' := [(4, .int ((nI (pcs y)) - (nI 1))), (3, .int (nI (pcs y))), (0, .ref b), (1, .long y)]) dX4_put_32 (by decide) rfl ?_
      suffices H : ∀ (m : Nat) (v : Int32) (h : HP), m ≤ pcs y → v = nI m - nI 1 → XF G h0 h z b ((n, g, t, u, q), k, L, V, len + (pcs y - m), putC len c y (pcs y)) → ex G l X Q 1 0 0 0 0 cX4_put yX4_put.cls 5 (some .int) h z 34 [(4, .int v), (3, .int (nI (pcs y))), (1, .long y), (0, .ref b)] [] from by
        have S1 : XF G h0 h0 z b ((n, g, t, u, q), k, L, V, len + (pcs y - pcs y), putC len c y (pcs y)) := by
          rw [Nat.sub_self]
          exact S.pad (S.1.2.2.2.2.2.1.congr (fun i (hi : i < len + 0) => by unfold putC; rw [if_pos (by omega)]))
        have e2 := H (pcs y) _ h0 (Nat.le_refl _) rfl S1
        refine ex_lv (lv2 := [(4, .int ((nI (pcs y)) - (nI 1))), (3, .int (nI (pcs y))), (1, .long y), (0, .ref b)]) [0, 1, 3, 2] rfl ?_
        exact e2
      intro m
      induction m with
      | zero =>
        intro v h hm hv S
        refine ex_iload 0 dX4_put_34 rfl ?_
        refine ex_if_lt (tgt := 65) dX4_put_36 (by decide) (fun c_36 => ?_) (fun c_36 => absurd (by rw [hv]; decide) c_36)
        refine ex_aload_n 3 dX4_put_65 rfl rfl ?_
        refine ex_get (v := .ref (b + 92)) fl_X4_33 S.1.ob rfl dX4_put_66 ?_
        refine ex_get (v := .int (nI (len + (pcs y - 0)))) fl_X4_73 S.1.pob rfl dX4_put_69 ?_
        exact ex_iret hQ rfl (by unfold X_put; rw [if_neg hz, if_pos n_23]; exact ⟨rfl, rfl, S⟩) dX4_put_72
      | succ m ih =>
        intro v h hm hv S
        obtain rfl : v = nI m := by rw [hv]; exact nI_p1 (by omega)
        refine ex_iload 0 dX4_put_34 rfl ?_
        refine ex_if_lt (tgt := 65) dX4_put_36 (by decide) (fun c_36 => absurd c_36 (nI_pos (by omega))) (fun c_36 => ?_)
        refine ex_aload_n 3 dX4_put_39 rfl rfl ?_
        refine ex_get (v := .ref (b + 92)) fl_X4_33 S.1.ob rfl dX4_put_40 ?_
        refine ex_lload_n 2 dX4_put_43 rfl rfl ?_
        refine ex_bipush (v := nI 8) dX4_put_44 (by decide) ?_
        refine ex_iload 0 dX4_put_46 rfl ?_
        refine ex_imulN dX4_put_48 ?_
        refine ex_lushr (v := rI y m) dX4_put_49 (rI_sh (by omega)) ?_
        refine ex_ldc2 (v := 255) dX4_put_50 kl_X4_181 ?_
        refine ex_land dX4_put_53 ?_
        rw [rI_and]
        refine ex_l2i (v := nI (cdN y m)) dX4_put_54 (cI_int _ cdN_lt) ?_
        refine ex_i2c (v := nI (cdN y m)) dX4_put_55 (cI_chr _ cdN_lt) ?_
        refine exX_pad (As := [.int (nI (cdN y m))]) vl_X4_183 rfl S (fun hP => c_append hP (Nat.lt_trans cdN_lt (by decide)) (show len + (pcs y - (m + 1)) < 60 by omega)) rfl (by decide) (Nat.le_of_ble_eq_true rfl) (Nat.le_refl _) (Nat.le_refl _) rfl dX4_put_56 (fun h S => ?_)
        refine ex_iinc (v := (nI m) + (-1)) (lv' := [(4, .int ((nI m) + (-1))), (3, .int (nI (pcs y))), (1, .long y), (0, .ref b)]) 0 dX4_put_59 rfl rfl (by decide) rfl ?_
        refine ex_goto (tgt := 34) dX4_put_62 (by decide) ?_
        have S1 : XF G h0 h z b ((n, g, t, u, q), k, L, V, len + (pcs y - m), putC len c y (pcs y)) := by
          have e : len + (pcs y - m) = len + (pcs y - (m + 1)) + 1 := by omega
          rw [e]
          refine S.pad (S.1.2.2.2.2.2.1.congr (fun i hi => ?_))
          have hi2 : i < len + (pcs y - (m + 1)) + 1 := hi
          show putC len c y (pcs y) i = if i = len + (pcs y - (m + 1)) then cdN y m else putC len c y (pcs y) i
          split
          · rename_i ei
            unfold putC
            rw [if_neg (by omega), show pcs y - 1 - (i - len) = m by omega]
          · rfl
        have e2 := ih _ h (by omega) rfl S1
        rw [show nI m - nI 1 = nI m + (-1) from (by rw [Int32.sub_eq_add_neg]; rfl)] at e2
        refine ex_lv (lv2 := [(4, .int ((nI m) + (-1))), (3, .int (nI (pcs y))), (1, .long y), (0, .ref b)]) [0, 1, 2, 3] rfl ?_
        exact e2
    · have n_23 : ¬ ((len + (pcs y)) ≤ 60) := fun q9 => c_23 ((nI_leI (by omega) (by omega)).mpr q9)
      refine ex_bipush (v := (-4)) dX4_put_26 (by decide) ?_
      exact ex_iret hQ rfl (by unfold X_put; rw [if_neg hz, if_neg n_23]; exact ⟨rfl, rfl, S⟩) dX4_put_28
  · have n_6 : (pcs y) = 0 := (nI_eq (b := 0) (by omega) (by omega)).mp c_6
    refine ex_bipush (v := (-2)) dX4_put_9 (by decide) ?_
    exact ex_iret hQ rfl (by unfold X_put; rw [if_pos n_6]; exact ⟨rfl, rfl, S⟩) dX4_put_11

set_option maxRecDepth 20000 in
set_option maxHeartbeats 2000000 in
theorem c_restore {G : GG} {l : Launch} {h0 : HP} {z b : Nat} {n : Nat} {g : Option Nat} {t : Nat} {u : Nat → Int32} {q : Nat → Nat → Int32} {k len : Nat} {L : Nat → AS} {V : Nat → Option AS} {c : Nat → Nat} (S0 : PP G h0 z b ((n, g, t, u, q), k, L, V, len, c)) (n8 : n ≤ 8) {s : Int32} (nV : ∀ i B, V i = some B → B.1 ≤ 8) : Ct G l 3 0 0 yX4_restore cX4_restore 3 (some .int) [.ref b, .int s] h0 z (pX G (X_restore ((n, g, t, u, q), k, L, V, len, c) s) h0 z b) := by
  refine Ct.intro (lv := [(0, .ref b), (1, .int s)]) (by decide +kernel) (Nat.le_of_ble_eq_true rfl) rfl (fun X Q hQ hnm => ?_)
  have S := S0.xf
  rcases inR_or s 2 (by omega) with ⟨i, hs, rfl⟩ | hs
  · refine ex_iload_n 1 dX4_restore_0 rfl rfl ?_
    refine ex_callS0 (As := [.int (nI i)]) (v := .int (nI 1)) vl_X4_190 (c_isSlotT hs) rfl (by decide) (Nat.le_of_ble_eq_true rfl) (Nat.le_refl _) (Nat.le_refl _) rfl dX4_restore_1 ?_
    refine ex_if_ne (tgt := 10) dX4_restore_4 (by decide) (fun c_4 => ?_) (fun c_4 => absurd c_4 (by decide))
    refine ex_aload_n 0 dX4_restore_10 rfl rfl ?_
    refine ex_get (v := .ref (b + 91)) fl_X4_26 S.1.ob rfl dX4_restore_11 ?_
    refine ex_iload_n 1 dX4_restore_14 rfl rfl ?_
    refine exX_sl (i := i) S rfl hs dX4_restore_15 (fun r hr => ?_)
    change slA G h0 z b (V i) r at hr
    rcases hV : V i with _ | B
    · rw [hV] at hr
      obtain rfl : r = none := hr
      refine ex_astore_nN (lv' := [(2, .null), (0, .ref b), (1, .int (nI i))]) dX4_restore_16 rfl (by decide) rfl ?_
      refine ex_aload_nN 0 dX4_restore_17 rfl rfl ?_
      refine ex_ifnonnullN dX4_restore_18 ?_
      refine ex_bipush (v := (-5)) dX4_restore_21 (by decide) ?_
      exact ex_iret hQ rfl (by unfold X_restore; dsimp only; rw [if_pos (inR_nI hs (by decide)), ixn (by omega), hV]; exact ⟨rfl, rfl, S⟩) dX4_restore_23
    · rw [hV] at hr
      obtain ⟨a, π1, rfl, ha, ha2, hB⟩ := hr
      refine ex_astore_n (lv' := [(2, .ref a), (0, .ref b), (1, .int (nI i))]) dX4_restore_16 rfl (by decide) rfl ?_
      refine ex_aload_n 0 dX4_restore_17 rfl rfl ?_
      refine ex_ifnonnull (tgt := 24) dX4_restore_18 (by decide) ?_
      refine ex_aload_n 1 dX4_restore_24 rfl rfl ?_
      refine ex_get (v := .ref (b + 23)) fl_X4_22 S.1.ob rfl dX4_restore_25 ?_
      refine ex_aload_n 1 dX4_restore_28 rfl rfl ?_
      refine ex_get (v := .ref (b + 1)) fl_X4_10 S.1.ob rfl dX4_restore_29 ?_
      refine exX_rec2 vl_X4_48 S n8 (by decide) (Nat.le_of_ble_eq_true rfl) (Nat.le_refl _) (Nat.le_refl _) rfl dX4_restore_32 (fun h S fr => ?_)
      have S : XF G h0 h z b ((n, g, t, u, q), (if k < 6 then k + 1 else 6), (recR k L (n, g, t, u, q)), V, len, c) := S
      have hB := hB.kept (h1 := h) (fun y g1 g2 => fr y (by omega))
      refine ex_aload_n 1 dX4_restore_35 rfl rfl ?_
      refine ex_get (v := .ref (b + 1)) fl_X4_10 S.1.ob rfl dX4_restore_36 ?_
      refine ex_aload_n 0 dX4_restore_39 rfl rfl ?_
      refine exX_fromS vl_X4_167 S ⟨a, π1, rfl, ha, ha2, hB⟩ (nV i B hV) (by decide) (Nat.le_of_ble_eq_true rfl) (Nat.le_refl _) (Nat.le_refl _) rfl dX4_restore_40 (fun h S => ?_)
      have S : XF G h0 h z b (B, (if k < 6 then k + 1 else 6), (recR k L (n, g, t, u, q)), V, len, c) := S
      refine ex_aload_n 1 dX4_restore_43 rfl rfl ?_
      refine ex_get (v := .ref (b + 1)) fl_X4_10 S.1.ob rfl dX4_restore_44 ?_
      refine ex_get (v := .int ((B).2.2.2.1 6)) fl_X4_112 S.1.nob rfl dX4_restore_47 ?_
      exact ex_iret hQ rfl (by unfold X_restore; dsimp only; rw [if_pos (inR_nI hs (by decide)), ixn (by omega), hV]; exact ⟨rfl, rfl, S⟩) dX4_restore_50
  · refine ex_iload_n 1 dX4_restore_0 rfl rfl ?_
    refine ex_callS0 (As := [.int s]) (v := .int (nI 0)) vl_X4_190 (c_isSlotF hs) rfl (by decide) (Nat.le_of_ble_eq_true rfl) (Nat.le_refl _) (Nat.le_refl _) rfl dX4_restore_1 ?_
    refine ex_if_ne (tgt := 10) dX4_restore_4 (by decide) (fun c_4 => absurd (by decide) c_4) (fun c_4 => ?_)
    refine ex_bipush (v := (-2)) dX4_restore_7 (by decide) ?_
    exact ex_iret hQ rfl (by unfold X_restore; rw [if_neg hs]; exact ⟨rfl, rfl, S⟩) dX4_restore_9

set_option maxRecDepth 20000 in
set_option maxHeartbeats 2000000 in
theorem c_save {G : GG} {l : Launch} {h0 : HP} {z b : Nat} {n : Nat} {g : Option Nat} {t : Nat} {u : Nat → Int32} {q : Nat → Nat → Int32} {k len : Nat} {L : Nat → AS} {V : Nat → Option AS} {c : Nat → Nat} (S0 : PP G h0 z b ((n, g, t, u, q), k, L, V, len, c)) (n8 : n ≤ 8) {s : Int32} : Ct G l 3 11 75 yX4_save cX4_save 2 (some .int) [.ref b, .int s] h0 z (fun r h1 z1 => r = some (.int (X_save ((n, g, t, u, q), k, L, V, len, c) s).1) ∧ z ≤ z1 ∧ z1 ≤ z + 11 ∧ XF G h0 h1 z1 b (X_save ((n, g, t, u, q), k, L, V, len, c) s).2) := by
  refine Ct.intro (lv := [(0, .ref b), (1, .int s)]) (by decide +kernel) (Nat.le_of_ble_eq_true rfl) rfl (fun X Q hQ hnm => ?_)
  have S := S0.xf
  rcases inR_or s 2 (by omega) with ⟨i, hs, rfl⟩ | hs
  · refine ex_iload_n 1 dX4_save_0 rfl rfl ?_
    refine ex_callS0 (As := [.int (nI i)]) (v := .int (nI 1)) vl_X4_190 (c_isSlotT hs) rfl (by decide) (Nat.le_of_ble_eq_true rfl) (Nat.zero_le _) (Nat.zero_le _) rfl dX4_save_1 ?_
    refine ex_if_ne (tgt := 10) dX4_save_4 (by decide) (fun c_4 => ?_) (fun c_4 => absurd c_4 (by decide))
    refine ex_aload_n 0 dX4_save_10 rfl rfl ?_
    refine ex_get (v := .ref (b + 91)) fl_X4_26 S.1.ob rfl dX4_save_11 ?_
    refine ex_iload_n 1 dX4_save_14 rfl rfl ?_
    obtain ⟨r, s5, s5a, s5b⟩ := S.1.2.2.2.2.1
    have hr := s5a i hs
    change slA G h0 z b (V i) (r i) at hr
    refine ex_aald4 s5 rfl hs (by decide) dX4_save_15 ?_
    rcases hV : V i with _ | B
    · rw [hV] at hr
      have ea : r i = none := hr
      rw [ea]
      refine ex_ifnonnullN dX4_save_16 ?_
      refine ex_aload_n 0 dX4_save_19 rfl rfl ?_
      refine ex_get (v := .ref (b + 91)) fl_X4_26 S.1.ob rfl dX4_save_20 ?_
      refine ex_iload_n 1 dX4_save_23 rfl rfl ?_
      refine ex_new nl_X4_7 (by decide) (by decide) dX4_save_24 ?_
      refine ex_dup dX4_save_27 rfl ?_
      refine ex_callI (As := []) vl_X4_9 (c_Sinit hu_s) rfl (by decide) (Nat.le_of_ble_eq_true rfl) (by decide) (by decide) rfl dX4_save_28 (fun r1 h1 z1 hp => ?_)
      obtain ⟨rfl, rfl, S1⟩ := hp
      have zb : b + 100 ≤ z := S0.2.2.2.2.2.2
      refine ex_aast (t := 4) (ci := 3) (r := (RX3, TX3, 13)) (n := 2) (f := r) (j := i) rfl rfl (by rw [S1.2 _ (by omega), hu_n (by omega)]; exact s5) S1.ob rfl hs (by decide) dX4_save_31 ?_
      have S := S.newS s5 hs hV S1
      refine ex_aload_n 0 dX4_save_32 rfl rfl ?_
      refine ex_get (v := .ref (b + 91)) fl_X4_26 S.1.ob rfl dX4_save_33 ?_
      refine ex_iload_n 1 dX4_save_36 rfl rfl ?_
      refine ex_aald4 hu_s rfl hs (by decide) dX4_save_37 ?_
      rw [show va_up r i (some z) i = some z from if_pos rfl]
      refine ex_aload_n 0 dX4_save_38 rfl rfl ?_
      refine ex_get (v := .ref (b + 1)) fl_X4_10 S.1.ob rfl dX4_save_39 ?_
      refine exX_toS vl_X4_167 S hu_s hs (if_pos rfl) (if_pos rfl) n8 (by decide) (Nat.le_of_ble_eq_true rfl) (Nat.le_of_ble_eq_true rfl) (Nat.le_of_ble_eq_true rfl) rfl dX4_save_42 (fun h S => ?_)
      refine ex_aload_n 0 dX4_save_45 rfl rfl ?_
      refine ex_get (v := .ref (b + 1)) fl_X4_10 S.1.ob rfl dX4_save_46 ?_
      refine ex_get (v := .int (u 6)) fl_X4_112 S.1.nob rfl dX4_save_49 ?_
      exact ex_iret hQ rfl (by unfold X_save; rw [if_pos (inR_nI hs (by decide)), ixn (by omega)]; refine ⟨rfl, Nat.le_add_right _ _, Nat.le_refl _, ?_⟩; have eV : (fun j => if j = i then some (n, g, t, u, q) else (if j = i then some A0 else V j)) = (fun j => if j = i then some (n, g, t, u, q) else V j) := funext (fun j => by split <;> rfl); rw [← eV]; exact S) dX4_save_52
    · rw [hV] at hr
      obtain ⟨a, π1, ea, ha, ha2, hB⟩ := hr
      rw [ea]
      refine ex_ifnonnull (tgt := 32) dX4_save_16 (by decide) ?_
      refine ex_aload_n 0 dX4_save_32 rfl rfl ?_
      refine ex_get (v := .ref (b + 91)) fl_X4_26 S.1.ob rfl dX4_save_33 ?_
      refine ex_iload_n 1 dX4_save_36 rfl rfl ?_
      refine ex_aald4 s5 rfl hs (by decide) dX4_save_37 ?_
      rw [ea]
      refine ex_aload_n 0 dX4_save_38 rfl rfl ?_
      refine ex_get (v := .ref (b + 1)) fl_X4_10 S.1.ob rfl dX4_save_39 ?_
      refine exX_toS vl_X4_167 S s5 hs ea hV n8 (by decide) (Nat.le_of_ble_eq_true rfl) (Nat.zero_le _) (Nat.zero_le _) rfl dX4_save_42 (fun h S => ?_)
      refine ex_aload_n 0 dX4_save_45 rfl rfl ?_
      refine ex_get (v := .ref (b + 1)) fl_X4_10 S.1.ob rfl dX4_save_46 ?_
      refine ex_get (v := .int (u 6)) fl_X4_112 S.1.nob rfl dX4_save_49 ?_
      refine ex_widen (c2 := 11) (s2 := 75) (by decide) (by decide) ?_
      exact ex_iret hQ rfl (by unfold X_save; rw [if_pos (inR_nI hs (by decide)), ixn (by omega)]; exact ⟨rfl, Nat.le_refl _, Nat.le_add_right _ _, S⟩) dX4_save_52
  · refine ex_iload_n 1 dX4_save_0 rfl rfl ?_
    refine ex_callS0 (As := [.int s]) (v := .int (nI 0)) vl_X4_190 (c_isSlotF hs) rfl (by decide) (Nat.le_of_ble_eq_true rfl) (Nat.zero_le _) (Nat.zero_le _) rfl dX4_save_1 ?_
    refine ex_if_ne (tgt := 10) dX4_save_4 (by decide) (fun c_4 => absurd (by decide) c_4) (fun c_4 => ?_)
    refine ex_bipush (v := (-2)) dX4_save_7 (by decide) ?_
    refine ex_widen (c2 := 11) (s2 := 75) (by decide) (by decide) ?_
    exact ex_iret hQ rfl (by unfold X_save; rw [if_neg hs]; exact ⟨rfl, Nat.le_refl _, Nat.le_add_right _ _, S⟩) dX4_save_9
end
section
/-- the object as it is made -/
def CI (G : GG) (h0 h : HP) (b : Nat) : Prop := h b = some (.inr (4, ppF b)) ∧ SP G h (b + 1) (fun j => j) A0 ∧ SP G h (b + 12) (fun j => j) A0 ∧ HS G h h (b + 23) (fun j => j) 0 (fun _ => A0) ∧ h (b + 91) = some (aQ G 4 2 (fun _ => none)) ∧ PD G h h (b + 92) 0 (fun _ => 0) ∧ ∀ a, (a < b ∨ b + 94 ≤ a) → h a = h0 a
/-- what the object is at first -/
def x0 : CX := (A0, 0, (fun _ => A0), (fun _ => none), 0, fun _ => 0)
theorem CI.pp {G : GG} {h0 h h1 : HP} {b : Nat} (S : CI G h0 h b) (q : ∀ a, b ≤ a → a < b + 94 → h1 a = h a) : PP G h1 (b + 100) b x0 := by
  obtain ⟨s1, s2, s3, s4, s5, s6, -⟩ := S
  exact ⟨by rw [q _ (by omega) (by omega)]; exact s1, ⟨_, s2.kept (fun a g1 g2 => q a (by omega) (by omega))⟩, ⟨_, A0, s3.kept (fun a g1 g2 => q a (by omega) (by omega))⟩, ⟨fun j => j, fun _ => A0, s4.kept (fun a g1 g2 => q a (by omega) (by omega)), fun j hj => rfl⟩, ⟨fun _ => none, by rw [q _ (by omega) (by omega)]; exact s5, fun i hi => rfl, fun a0 a1 f0 => by cases f0⟩, s6.kept (fun a g1 g2 => q a (by omega) (by omega)), Nat.le_refl _⟩

set_option maxRecDepth 20000 in
set_option maxHeartbeats 2000000 in
theorem c_Xinit {G : GG} {l : Launch} {h0 : HP} {b : Nat} (H0 : h0 b = some (.inr (4, [.null, .null, .null, .null, .null]))) : Ct G l 4 93 672 yX4_init cX4_init 1 none [.ref b] h0 (b + 1) (fun r h1 z1 => r = none ∧ z1 = b + 94 ∧ CI G h0 h1 b) := by
  refine Ct.intro (lv := [(0, .ref b)]) (by decide +kernel) (Nat.le_of_ble_eq_true rfl) rfl (fun X Q hQ hnm => ?_)
  refine ex_aload_n 0 dX4_init_0 rfl rfl ?_
  refine ex_objInit oi_X4_1 oi_2 oi_3 (by decide) (Nat.le_of_ble_eq_true rfl) dX4_init_1 ?_
  refine ex_aload_n 0 dX4_init_4 rfl rfl ?_
  refine ex_new nl_X4_7 (by decide) (by decide) dX4_init_5 ?_
  refine ex_dup dX4_init_8 rfl ?_
  refine ex_callI (As := []) vl_X4_9 (c_Sinit hu_s) rfl (by decide) (Nat.le_of_ble_eq_true rfl) (by decide) (by decide) rfl dX4_init_9 (fun r1 h1 z1 hp => ?_)
  obtain ⟨rfl, rfl, S1⟩ := hp
  refine ex_putF hnm rfl fl_X4_10 (by rw [S1.2 _ (by omega), hu_n (by omega)]; exact H0) rfl rfl (Nat.le_of_ble_eq_true rfl) dX4_init_12 ?_
  refine ex_aload_n 0 dX4_init_15 rfl rfl ?_
  refine ex_new nl_X4_7 (by decide) (by decide) dX4_init_16 ?_
  refine ex_dup dX4_init_19 rfl ?_
  refine ex_callI (As := []) vl_X4_9 (c_Sinit hu_s) rfl (by decide) (Nat.le_of_ble_eq_true rfl) (by decide) (by decide) rfl dX4_init_20 (fun r2 h2 z2 hp => ?_)
  obtain ⟨rfl, rfl, S2⟩ := hp
  refine ex_putF hnm rfl fl_X4_16 (by rw [S2.2 _ (by omega), hu_n (by omega)]; exact hu_s) rfl rfl (Nat.le_of_ble_eq_true rfl) dX4_init_23 ?_
  refine ex_aload_n 0 dX4_init_26 rfl rfl ?_
  refine ex_new nl_X4_19 (by decide) (by decide) dX4_init_27 ?_
  refine ex_dup dX4_init_30 rfl ?_
  refine ex_callI (As := []) vl_X4_21 (c_Hinit hu_s) rfl (by decide) (Nat.le_of_ble_eq_true rfl) (by decide) (by decide) rfl dX4_init_31 (fun r3 h3 z3 hp => ?_)
  obtain ⟨rfl, rfl, HH⟩ := hp
  obtain ⟨r3, S3a, S3b⟩ := HH
  have S3 := And.intro S3a.1 S3a.2.2.2
  refine ex_putF hnm rfl fl_X4_22 (by rw [S3.2 _ (by omega), hu_n (by omega)]; exact hu_s) rfl rfl (Nat.le_of_ble_eq_true rfl) dX4_init_34 ?_
  refine ex_aload_n 0 dX4_init_37 rfl rfl ?_
  refine ex_iconst (v := nI 2) dX4_init_38 (by decide) ?_
  refine ex_anew (t := 4) rfl cl_X4_7 (Or.inr rfl) (by decide) (by decide) (by decide) dX4_init_39 ?_
  refine ex_putF hnm rfl fl_X4_26 (by rw [hu_n (by omega)]; exact hu_s) rfl rfl (Nat.le_of_ble_eq_true rfl) dX4_init_42 ?_
  refine ex_aload_n 0 dX4_init_45 rfl rfl ?_
  refine ex_new nl_X4_30 (by decide) (by decide) dX4_init_46 ?_
  refine ex_dup dX4_init_49 rfl ?_
  refine ex_callIN (As := []) (fun K => K.2.2.2.2.2.1) vn_X4_32 (c_Dinit hu_s) rfl (by decide) (Nat.le_of_ble_eq_true rfl) (by decide) (by decide) rfl dX4_init_50 (fun r5 h5 z5 hp => ?_)
  obtain ⟨rfl, rfl, S5⟩ := hp
  refine ex_putF hnm rfl fl_X4_33 (by rw [S5.2.2.2 _ (by omega), hu_n (by omega)]; exact hu_s) rfl rfl (Nat.le_of_ble_eq_true rfl) dX4_init_53 ?_
  have q5 : ∀ a, a ≠ b → a < b + 92 ∨ b + 94 ≤ a → hu h5 b (.inr (4, ppF b)) a = h5 a := fun a g1 _ => hu_n g1
  have q5b : ∀ a, a < b + 92 ∨ b + 94 ≤ a → a ≠ b → a ≠ b + 91 → h5 a = h3 a := fun a g1 g2 g3 => by rw [S5.2.2.2 _ (by omega), hu_n (by omega), hu_n g2, hu_n g3, hu_n g2]
  have q3 : ∀ a, a < b + 23 ∨ b + 91 ≤ a → a ≠ b → h3 a = h2 a := fun a g1 g2 => by rw [S3.2 _ (by omega), hu_n (by omega), hu_n g2]
  have q2 : ∀ a, a < b + 12 ∨ b + 23 ≤ a → a ≠ b → h2 a = h1 a := fun a g1 g2 => by rw [S2.2 _ (by omega), hu_n (by omega), hu_n g2]
  have q1 : ∀ a, a < b + 1 ∨ b + 12 ≤ a → h1 a = h0 a := fun a g1 => by rw [S1.2 _ (by omega), hu_n (by omega)]
  exact ex_vret hQ rfl ⟨rfl, rfl, hu_s,
      S1.1.kept (fun a g1 g2 => by rw [hu_n (by omega), q5b a (by omega) (by omega) (by omega), q3 a (by omega) (by omega), q2 a (by omega) (by omega)]),
      S2.1.kept (fun a g1 g2 => by rw [hu_n (by omega), q5b a (by omega) (by omega) (by omega), q3 a (by omega) (by omega)]),
      HS.kept ⟨r3, S3a.kept (fun _ _ _ => rfl), S3b⟩ (fun a g1 g2 => by rw [hu_n (by omega), q5b a (by omega) (by omega) (by omega)]),
      by rw [hu_n (by omega), S5.2.2.2 _ (by omega), hu_n (by omega), hu_n (by omega)]; exact hu_s,
      S5.kept (fun a g1 g2 => by rw [hu_n (by omega)]),
      fun a ha => by rw [hu_n (by omega), q5b a (by omega) (by omega) (by omega), q3 a (by omega) (by omega), q2 a (by omega) (by omega), q1 a (by omega)]⟩ dX4_init_56
end
