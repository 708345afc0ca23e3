-- ===== PART A: goes FIRST, ahead of the names: the tables' words, and 'selects' of the private methods out of them =====
/-- a private method of a class that the tables say can be made, by its rows of tables_1 -/
def lw_okq (q : MethodName × Nat) : Prop := (q.1.cls ≠ "java/lang/invoke/MethodHandle" ∧ q.1.cls ≠ "java/lang/invoke/VarHandle") ∧ Cond.instantiable q.1.cls q.2 ∈ tables_1 ∧ Cond.privateMethod q.1 ∈ tables_1 ∧ Cond.instanceMethod q.1 ∈ tables_1
theorem lw_p0 : lw_okq (⟨"PurrProbates", "daysAsGuardianIfMoved", "(II)I"⟩, 5) := ⟨⟨by decide +kernel, by decide +kernel⟩, List.mem_of_getElem? (i := 11) (by decide +kernel), List.mem_of_getElem? (i := 393) (by decide +kernel), List.mem_of_getElem? (i := 394) (by decide +kernel)⟩
theorem lw_p1 : lw_okq (⟨"PurrProbatesModel", "remembers", "()V"⟩, 7) := ⟨⟨by decide +kernel, by decide +kernel⟩, List.mem_of_getElem? (i := 438) (by decide +kernel), List.mem_of_getElem? (i := 480) (by decide +kernel), List.mem_of_getElem? (i := 481) (by decide +kernel)⟩
theorem lw_p2 : lw_okq (⟨"PurrProbatesModel", "comes", "(II)V"⟩, 7) := ⟨⟨by decide +kernel, by decide +kernel⟩, List.mem_of_getElem? (i := 438) (by decide +kernel), List.mem_of_getElem? (i := 488) (by decide +kernel), List.mem_of_getElem? (i := 489) (by decide +kernel)⟩
theorem lw_p3 : lw_okq (⟨"PurrProbatesModel", "isPerson", "(I)Z"⟩, 7) := ⟨⟨by decide +kernel, by decide +kernel⟩, List.mem_of_getElem? (i := 438) (by decide +kernel), List.mem_of_getElem? (i := 499) (by decide +kernel), List.mem_of_getElem? (i := 500) (by decide +kernel)⟩
theorem lw_p4 : lw_okq (⟨"PurrProbatesModel", "moves", "(III)V"⟩, 7) := ⟨⟨by decide +kernel, by decide +kernel⟩, List.mem_of_getElem? (i := 438) (by decide +kernel), List.mem_of_getElem? (i := 503) (by decide +kernel), List.mem_of_getElem? (i := 504) (by decide +kernel)⟩
theorem lw_p5 : lw_okq (⟨"PurrProbatesModel", "changesPlaces", "(III)V"⟩, 7) := ⟨⟨by decide +kernel, by decide +kernel⟩, List.mem_of_getElem? (i := 438) (by decide +kernel), List.mem_of_getElem? (i := 507) (by decide +kernel), List.mem_of_getElem? (i := 508) (by decide +kernel)⟩
theorem lw_p6 : lw_okq (⟨"PurrProbatesModel", "behind", "(II)I"⟩, 7) := ⟨⟨by decide +kernel, by decide +kernel⟩, List.mem_of_getElem? (i := 438) (by decide +kernel), List.mem_of_getElem? (i := 518) (by decide +kernel), List.mem_of_getElem? (i := 519) (by decide +kernel)⟩
theorem lw_p7 : lw_okq (⟨"PurrProbatesModel", "canAppeal", "(I)Z"⟩, 7) := ⟨⟨by decide +kernel, by decide +kernel⟩, List.mem_of_getElem? (i := 438) (by decide +kernel), List.mem_of_getElem? (i := 526) (by decide +kernel), List.mem_of_getElem? (i := 527) (by decide +kernel)⟩
theorem lw_p8 : lw_okq (⟨"PurrProbatesModel", "isBarred", "(II)Z"⟩, 7) := ⟨⟨by decide +kernel, by decide +kernel⟩, List.mem_of_getElem? (i := 438) (by decide +kernel), List.mem_of_getElem? (i := 530) (by decide +kernel), List.mem_of_getElem? (i := 531) (by decide +kernel)⟩
theorem lw_p9 : lw_okq (⟨"PurrProbatesModel", "score", "(II)I"⟩, 7) := ⟨⟨by decide +kernel, by decide +kernel⟩, List.mem_of_getElem? (i := 438) (by decide +kernel), List.mem_of_getElem? (i := 534) (by decide +kernel), List.mem_of_getElem? (i := 535) (by decide +kernel)⟩
theorem lw_p10 : lw_okq (⟨"PurrProbatesModel", "deposes", "(II)V"⟩, 7) := ⟨⟨by decide +kernel, by decide +kernel⟩, List.mem_of_getElem? (i := 438) (by decide +kernel), List.mem_of_getElem? (i := 538) (by decide +kernel), List.mem_of_getElem? (i := 539) (by decide +kernel)⟩
theorem lw_p11 : lw_okq (⟨"PurrProbatesModel", "scratches", "(II)V"⟩, 7) := ⟨⟨by decide +kernel, by decide +kernel⟩, List.mem_of_getElem? (i := 438) (by decide +kernel), List.mem_of_getElem? (i := 542) (by decide +kernel), List.mem_of_getElem? (i := 543) (by decide +kernel)⟩
theorem lw_p12 : lw_okq (⟨"PurrProbatesModel", "passes", "(II)I"⟩, 7) := ⟨⟨by decide +kernel, by decide +kernel⟩, List.mem_of_getElem? (i := 438) (by decide +kernel), List.mem_of_getElem? (i := 555) (by decide +kernel), List.mem_of_getElem? (i := 556) (by decide +kernel)⟩
theorem lw_p13 : lw_okq (⟨"PurrProbatesModel", "passesOne", "(I)Z"⟩, 7) := ⟨⟨by decide +kernel, by decide +kernel⟩, List.mem_of_getElem? (i := 438) (by decide +kernel), List.mem_of_getElem? (i := 559) (by decide +kernel), List.mem_of_getElem? (i := 560) (by decide +kernel)⟩
theorem lw_p14 : lw_okq (⟨"PurrProbatesModel", "purrs", "(I)Z"⟩, 7) := ⟨⟨by decide +kernel, by decide +kernel⟩, List.mem_of_getElem? (i := 438) (by decide +kernel), List.mem_of_getElem? (i := 563) (by decide +kernel), List.mem_of_getElem? (i := 564) (by decide +kernel)⟩
theorem lw_p15 : lw_okq (⟨"PurrProbatesModel", "hand", "(I)I"⟩, 7) := ⟨⟨by decide +kernel, by decide +kernel⟩, List.mem_of_getElem? (i := 438) (by decide +kernel), List.mem_of_getElem? (i := 567) (by decide +kernel), List.mem_of_getElem? (i := 568) (by decide +kernel)⟩
def lw_privs_1 : List (MethodName × Nat) := [(⟨"PurrProbates", "daysAsGuardianIfMoved", "(II)I"⟩, 5), (⟨"PurrProbatesModel", "remembers", "()V"⟩, 7), (⟨"PurrProbatesModel", "comes", "(II)V"⟩, 7), (⟨"PurrProbatesModel", "isPerson", "(I)Z"⟩, 7), (⟨"PurrProbatesModel", "moves", "(III)V"⟩, 7), (⟨"PurrProbatesModel", "changesPlaces", "(III)V"⟩, 7), (⟨"PurrProbatesModel", "behind", "(II)I"⟩, 7), (⟨"PurrProbatesModel", "canAppeal", "(I)Z"⟩, 7), (⟨"PurrProbatesModel", "isBarred", "(II)Z"⟩, 7), (⟨"PurrProbatesModel", "score", "(II)I"⟩, 7), (⟨"PurrProbatesModel", "deposes", "(II)V"⟩, 7), (⟨"PurrProbatesModel", "scratches", "(II)V"⟩, 7), (⟨"PurrProbatesModel", "passes", "(II)I"⟩, 7), (⟨"PurrProbatesModel", "passesOne", "(I)Z"⟩, 7), (⟨"PurrProbatesModel", "purrs", "(I)Z"⟩, 7), (⟨"PurrProbatesModel", "hand", "(I)I"⟩, 7)]
theorem lw_r1 : ∀ q ∈ lw_privs_1, lw_okq q := List.forall_mem_cons.mpr ⟨lw_p0, List.forall_mem_cons.mpr ⟨lw_p1, List.forall_mem_cons.mpr ⟨lw_p2, List.forall_mem_cons.mpr ⟨lw_p3, List.forall_mem_cons.mpr ⟨lw_p4, List.forall_mem_cons.mpr ⟨lw_p5, List.forall_mem_cons.mpr ⟨lw_p6, List.forall_mem_cons.mpr ⟨lw_p7, List.forall_mem_cons.mpr ⟨lw_p8, List.forall_mem_cons.mpr ⟨lw_p9, List.forall_mem_cons.mpr ⟨lw_p10, List.forall_mem_cons.mpr ⟨lw_p11, List.forall_mem_cons.mpr ⟨lw_p12, List.forall_mem_cons.mpr ⟨lw_p13, List.forall_mem_cons.mpr ⟨lw_p14, List.forall_mem_cons.mpr ⟨lw_p15, fun _ h => absurd h List.not_mem_nil⟩⟩⟩⟩⟩⟩⟩⟩⟩⟩⟩⟩⟩⟩⟩⟩
theorem lw_p16 : lw_okq (⟨"PurrProbatesModel", "pays", "(I)V"⟩, 7) := ⟨⟨by decide +kernel, by decide +kernel⟩, List.mem_of_getElem? (i := 438) (by decide +kernel), List.mem_of_getElem? (i := 571) (by decide +kernel), List.mem_of_getElem? (i := 572) (by decide +kernel)⟩
theorem lw_p17 : lw_okq (⟨"PurrProbatesModel", "ofAll", "(I)I"⟩, 7) := ⟨⟨by decide +kernel, by decide +kernel⟩, List.mem_of_getElem? (i := 438) (by decide +kernel), List.mem_of_getElem? (i := 586) (by decide +kernel), List.mem_of_getElem? (i := 587) (by decide +kernel)⟩
theorem lw_p18 : lw_okq (⟨"PurrProbatesModel", "copies", "()V"⟩, 7) := ⟨⟨by decide +kernel, by decide +kernel⟩, List.mem_of_getElem? (i := 438) (by decide +kernel), List.mem_of_getElem? (i := 594) (by decide +kernel), List.mem_of_getElem? (i := 595) (by decide +kernel)⟩
theorem lw_p19 : lw_okq (⟨"PurrProbatesModel", "personEnd", "(I)I"⟩, 7) := ⟨⟨by decide +kernel, by decide +kernel⟩, List.mem_of_getElem? (i := 438) (by decide +kernel), List.mem_of_getElem? (i := 623) (by decide +kernel), List.mem_of_getElem? (i := 624) (by decide +kernel)⟩
theorem lw_p20 : lw_okq (⟨"PurrProbatesModel", "digit", "(I)I"⟩, 7) := ⟨⟨by decide +kernel, by decide +kernel⟩, List.mem_of_getElem? (i := 438) (by decide +kernel), List.mem_of_getElem? (i := 627) (by decide +kernel), List.mem_of_getElem? (i := 628) (by decide +kernel)⟩
theorem lw_p21 : lw_okq (⟨"PurrProbatesModel", "sign", "(I)I"⟩, 7) := ⟨⟨by decide +kernel, by decide +kernel⟩, List.mem_of_getElem? (i := 438) (by decide +kernel), List.mem_of_getElem? (i := 631) (by decide +kernel), List.mem_of_getElem? (i := 632) (by decide +kernel)⟩
theorem lw_p22 : lw_okq (⟨"PurrProbatesModel", "shareEnd", "(I)I"⟩, 7) := ⟨⟨by decide +kernel, by decide +kernel⟩, List.mem_of_getElem? (i := 438) (by decide +kernel), List.mem_of_getElem? (i := 635) (by decide +kernel), List.mem_of_getElem? (i := 636) (by decide +kernel)⟩
theorem lw_p23 : lw_okq (⟨"PurrProbatesModel", "peopleOfPad", "()I"⟩, 7) := ⟨⟨by decide +kernel, by decide +kernel⟩, List.mem_of_getElem? (i := 438) (by decide +kernel), List.mem_of_getElem? (i := 644) (by decide +kernel), List.mem_of_getElem? (i := 645) (by decide +kernel)⟩
theorem lw_p24 : lw_okq (⟨"PurrProbatesModel", "shareAt", "(I)I"⟩, 7) := ⟨⟨by decide +kernel, by decide +kernel⟩, List.mem_of_getElem? (i := 438) (by decide +kernel), List.mem_of_getElem? (i := 648) (by decide +kernel), List.mem_of_getElem? (i := 649) (by decide +kernel)⟩
def lw_privs_2 : List (MethodName × Nat) := [(⟨"PurrProbatesModel", "pays", "(I)V"⟩, 7), (⟨"PurrProbatesModel", "ofAll", "(I)I"⟩, 7), (⟨"PurrProbatesModel", "copies", "()V"⟩, 7), (⟨"PurrProbatesModel", "personEnd", "(I)I"⟩, 7), (⟨"PurrProbatesModel", "digit", "(I)I"⟩, 7), (⟨"PurrProbatesModel", "sign", "(I)I"⟩, 7), (⟨"PurrProbatesModel", "shareEnd", "(I)I"⟩, 7), (⟨"PurrProbatesModel", "peopleOfPad", "()I"⟩, 7), (⟨"PurrProbatesModel", "shareAt", "(I)I"⟩, 7)]
theorem lw_r2 : ∀ q ∈ lw_privs_2, lw_okq q := List.forall_mem_cons.mpr ⟨lw_p16, List.forall_mem_cons.mpr ⟨lw_p17, List.forall_mem_cons.mpr ⟨lw_p18, List.forall_mem_cons.mpr ⟨lw_p19, List.forall_mem_cons.mpr ⟨lw_p20, List.forall_mem_cons.mpr ⟨lw_p21, List.forall_mem_cons.mpr ⟨lw_p22, List.forall_mem_cons.mpr ⟨lw_p23, List.forall_mem_cons.mpr ⟨lw_p24, fun _ h => absurd h List.not_mem_nil⟩⟩⟩⟩⟩⟩⟩⟩⟩
def lw_privs : List (MethodName × Nat) := lw_privs_1 ++ (lw_privs_2)
def lw_tbl : List Cond := k2_sels lw_privs ++ tables_1
theorem lw_privs_ok : ∀ q ∈ lw_privs, lw_okq q := by
  show ∀ q ∈ lw_privs_1 ++ (lw_privs_2), lw_okq q
  exact List.forall_mem_append.mpr ⟨lw_r1, lw_r2⟩
/-! ===== BEGIN words of one list among another's, by their places ===== -/
theorem goodIn_r {big : List Cond} (ws : List Cond) (ps : List Nat) (hp : ws = ps.filterMap (fun i => big[i]?)) (h : ws.all goodWord = true) : GoodIn big ws := by
  intro w hw
  have h1 := List.all_eq_true.mp h w hw
  rw [hp] at hw
  obtain ⟨i, -, hi⟩ := List.mem_filterMap.mp hw
  have hm : w ∈ big := by first | exact List.mem_of_getElem? hi | exact List.getElem?_mem hi
  exact ⟨hm, good_of_word h1⟩
theorem goodIn_app {big a b : List Cond} (ha : GoodIn big a) (hb : GoodIn big b) : GoodIn big (a ++ b) := fun w h => (List.mem_append.mp h).elim (ha w) (hb w)
theorem goodIn_ca {big a b : List Cond} {c : Cond} (ha : GoodIn big (c :: a)) (hb : GoodIn big b) : GoodIn big (c :: (a ++ b)) := fun w h => (List.mem_cons.mp h).elim (fun e => ha w (List.mem_cons.mpr (Or.inl e))) (fun h => (List.mem_append.mp h).elim (fun h => ha w (List.mem_cons.mpr (Or.inr h))) (hb w))
theorem goodIn_sub {big ws : List Cond} (hm : ∀ w ∈ ws, w ∈ big) (h : ws.all goodWord = true) : GoodIn big ws := fun w hw => ⟨hm w hw, good_of_word (List.all_eq_true.mp h w hw)⟩
/-! ===== END ===== -/

/-! ===== BEGIN printed: names, fields, word lists, decode rows ===== -/
def RX0 : String := "PurrProbates$History"
def TX0 : u_T := fun k => match k with
  | 0 => ("PurrProbates$History", "states", "[LPurrProbates$State;", true)
  | _ => ("PurrProbates$History", "length", "I", false)
def tyX0 : Nat → FieldType := fun k => match k with
  | 0 => .array (.object "PurrProbates$State")
  | _ => .int
abbrev wsX00 : List Cond := u_ws RX0 TX0 2
theorem nmX0 : ∀ a, a < 2 → ∀ b, b < 2 → a ≠ b → (TX0 a).2.1 ≠ (TX0 b).2.1 := by decide +kernel
theorem tyX0_ok : ∀ k, k < 2 → parseFieldDescriptor (TX0 k).2.2.1 = some (tyX0 k) := by decide +kernel
abbrev cX0_init : ByteArray := prog_2_method_1_code
def yX0_init : MethodName := ⟨RX0, "<init>", "()V"⟩
abbrev cX0_record : ByteArray := prog_2_method_2_code
def yX0_record : MethodName := ⟨RX0, "record", "(LPurrProbates$State;)V"⟩
abbrev cX0_dropOldest : ByteArray := prog_2_method_3_code
def yX0_dropOldest : MethodName := ⟨RX0, "dropOldest", "()V"⟩
abbrev cX0_takeBack : ByteArray := prog_2_method_4_code
def yX0_takeBack : MethodName := ⟨RX0, "takeBack", "(LPurrProbates$State;)V"⟩
def RX1 : String := "PurrProbates$Pad"
def TX1 : u_T := fun k => match k with
  | 0 => ("PurrProbates$Pad", "characters", "[C", true)
  | _ => ("PurrProbates$Pad", "length", "I", false)
def tyX1 : Nat → FieldType := fun k => match k with
  | 0 => .array .char
  | _ => .int
abbrev wsX10 : List Cond := u_ws RX1 TX1 2
theorem nmX1 : ∀ a, a < 2 → ∀ b, b < 2 → a ≠ b → (TX1 a).2.1 ≠ (TX1 b).2.1 := by decide +kernel
theorem tyX1_ok : ∀ k, k < 2 → parseFieldDescriptor (TX1 k).2.2.1 = some (tyX1 k) := by decide +kernel
abbrev cX1_init : ByteArray := prog_3_method_1_code
def yX1_init : MethodName := ⟨RX1, "<init>", "()V"⟩
abbrev cX1_append : ByteArray := prog_3_method_2_code
def yX1_append : MethodName := ⟨RX1, "append", "(C)V"⟩
abbrev cX1_character : ByteArray := prog_3_method_3_code
def yX1_character : MethodName := ⟨RX1, "character", "(I)C"⟩
abbrev cX1_firstFault : ByteArray := prog_3_method_4_code
def yX1_firstFault : MethodName := ⟨RX1, "firstFault", "()I"⟩
abbrev cX1_canStand : ByteArray := prog_3_method_5_code
def yX1_canStand : MethodName := ⟨RX1, "canStand", "(IIC)Z"⟩
abbrev cX1_dueBehind : ByteArray := prog_3_method_6_code
def yX1_dueBehind : MethodName := ⟨RX1, "dueBehind", "(IC)I"⟩
abbrev cX1_isDigit : ByteArray := prog_3_method_7_code
def yX1_isDigit : MethodName := ⟨RX1, "isDigit", "(C)Z"⟩
abbrev cX1_shareWith : ByteArray := prog_3_method_8_code
def yX1_shareWith : MethodName := ⟨RX1, "shareWith", "(IC)I"⟩
abbrev cX1_people : ByteArray := prog_3_method_9_code
def yX1_people : MethodName := ⟨RX1, "people", "()I"⟩
abbrev cX1_admitPeopleTo : ByteArray := prog_3_method_10_code
def yX1_admitPeopleTo : MethodName := ⟨RX1, "admitPeopleTo", "(LPurrProbates$State;)V"⟩
def RX2 : String := "PurrProbates$Person"
def TX2 : u_T := fun k => match k with
  | 0 => ("PurrProbates$Person", "warmth", "I", false)
  | 1 => ("PurrProbates$Person", "share", "I", false)
  | 2 => ("PurrProbates$Person", "scratches", "I", false)
  | 3 => ("PurrProbates$Person", "purse", "I", false)
  | 4 => ("PurrProbates$Person", "purrs", "I", false)
  | _ => ("PurrProbates$Person", "daysAsGuardian", "I", false)
def tyX2 : Nat → FieldType := fun k => match k with
  | 0 => .int
  | 1 => .int
  | 2 => .int
  | 3 => .int
  | 4 => .int
  | _ => .int
abbrev wsX20 : List Cond := u_ws RX2 TX2 6
theorem nmX2 : ∀ a, a < 6 → ∀ b, b < 6 → a ≠ b → (TX2 a).2.1 ≠ (TX2 b).2.1 := by decide +kernel
theorem tyX2_ok : ∀ k, k < 6 → parseFieldDescriptor (TX2 k).2.2.1 = some (tyX2 k) := by decide +kernel
abbrev cX2_init : ByteArray := prog_4_method_1_code
def yX2_init : MethodName := ⟨RX2, "<init>", "()V"⟩
abbrev cX2_copyFrom : ByteArray := prog_4_method_2_code
def yX2_copyFrom : MethodName := ⟨RX2, "copyFrom", "(LPurrProbates$Person;)V"⟩
abbrev cX2_begin : ByteArray := prog_4_method_3_code
def yX2_begin : MethodName := ⟨RX2, "begin", "(II)V"⟩
def RX3 : String := "PurrProbates$State"
def TX3 : u_T := fun k => match k with
  | 0 => ("PurrProbates$State", "settings", "[I", true)
  | 1 => ("PurrProbates$State", "people", "[LPurrProbates$Person;", true)
  | 2 => ("PurrProbates$State", "size", "I", false)
  | 3 => ("PurrProbates$State", "mood", "I", false)
  | 4 => ("PurrProbates$State", "guardian", "I", false)
  | 5 => ("PurrProbates$State", "turn", "I", false)
  | 6 => ("PurrProbates$State", "estate", "I", false)
  | 7 => ("PurrProbates$State", "days", "I", false)
  | 8 => ("PurrProbates$State", "scratches", "I", false)
  | 9 => ("PurrProbates$State", "purrs", "I", false)
  | 10 => ("PurrProbates$State", "deposed", "I", false)
  | 11 => ("PurrProbates$State", "fed", "I", false)
  | _ => ("PurrProbates$State", "given", "I", false)
def tyX3 : Nat → FieldType := fun k => match k with
  | 0 => .array .int
  | 1 => .array (.object "PurrProbates$Person")
  | 2 => .int
  | 3 => .int
  | 4 => .int
  | 5 => .int
  | 6 => .int
  | 7 => .int
  | 8 => .int
  | 9 => .int
  | 10 => .int
  | 11 => .int
  | _ => .int
abbrev wsX30 : List Cond := u_ws RX3 TX3 13
theorem nmX3 : ∀ a, a < 13 → ∀ b, b < 13 → a ≠ b → (TX3 a).2.1 ≠ (TX3 b).2.1 := by decide +kernel
theorem tyX3_ok : ∀ k, k < 13 → parseFieldDescriptor (TX3 k).2.2.1 = some (tyX3 k) := by decide +kernel
abbrev cX3_init : ByteArray := prog_5_method_1_code
def yX3_init : MethodName := ⟨RX3, "<init>", "()V"⟩
abbrev cX3_copyFrom : ByteArray := prog_5_method_2_code
def yX3_copyFrom : MethodName := ⟨RX3, "copyFrom", "(LPurrProbates$State;)V"⟩
abbrev cX3_at : ByteArray := prog_5_method_3_code
def yX3_at : MethodName := ⟨RX3, "at", "(I)LPurrProbates$Person;"⟩
abbrev cX3_behind : ByteArray := prog_5_method_4_code
def yX3_behind : MethodName := ⟨RX3, "behind", "(I)I"⟩
abbrev cX3_isBarred : ByteArray := prog_5_method_5_code
def yX3_isBarred : MethodName := ⟨RX3, "isBarred", "(LPurrProbates$Person;)Z"⟩
abbrev cX3_score : ByteArray := prog_5_method_6_code
def yX3_score : MethodName := ⟨RX3, "score", "(LPurrProbates$Person;)I"⟩
abbrev cX3_barredPeople : ByteArray := prog_5_method_7_code
def yX3_barredPeople : MethodName := ⟨RX3, "barredPeople", "()I"⟩
abbrev cX3_allPurses : ByteArray := prog_5_method_8_code
def yX3_allPurses : MethodName := ⟨RX3, "allPurses", "()I"⟩
abbrev cX3_admit : ByteArray := prog_5_method_9_code
def yX3_admit : MethodName := ⟨RX3, "\x61dmit", "(II)V"⟩
abbrev cX3_relocate : ByteArray := prog_5_method_10_code
def yX3_relocate : MethodName := ⟨RX3, "relocate", "(II)V"⟩
abbrev cX3_placeAfterMove : ByteArray := prog_5_method_11_code
def yX3_placeAfterMove : MethodName := ⟨RX3, "placeAfterMove", "(III)I"⟩
abbrev cX3_leaveWithoutGuardian : ByteArray := prog_5_method_12_code
def yX3_leaveWithoutGuardian : MethodName := ⟨RX3, "leaveWithoutGuardian", "(I)V"⟩
abbrev cX3_depose : ByteArray := prog_5_method_13_code
def yX3_depose : MethodName := ⟨RX3, "depose", "(I)V"⟩
abbrev cX3_scratch : ByteArray := prog_5_method_14_code
def yX3_scratch : MethodName := ⟨RX3, "scratch", "(LPurrProbates$Person;)V"⟩
abbrev cX3_mayAppeal : ByteArray := prog_5_method_15_code
def yX3_mayAppeal : MethodName := ⟨RX3, "mayAppeal", "(I)Z"⟩
abbrev cX3_hearAppeal : ByteArray := prog_5_method_16_code
def yX3_hearAppeal : MethodName := ⟨RX3, "hearAppeal", "(I)Z"⟩
abbrev cX3_liveDays : ByteArray := prog_5_method_17_code
def yX3_liveDays : MethodName := ⟨RX3, "liveDays", "(I)V"⟩
abbrev cX3_liveDay : ByteArray := prog_5_method_18_code
def yX3_liveDay : MethodName := ⟨RX3, "liveDay", "()I"⟩
abbrev cX3_holdOutHand : ByteArray := prog_5_method_19_code
def yX3_holdOutHand : MethodName := ⟨RX3, "holdOutHand", "()I"⟩
abbrev cX3_nextHand : ByteArray := prog_5_method_20_code
def yX3_nextHand : MethodName := ⟨RX3, "nextHand", "()I"⟩
abbrev cX3_endMonth : ByteArray := prog_5_method_21_code
def yX3_endMonth : MethodName := ⟨RX3, "endMonth", "()V"⟩
abbrev cX3_draw : ByteArray := prog_5_method_22_code
def yX3_draw : MethodName := ⟨RX3, "draw", "(I)I"⟩
def RX4 : String := "PurrProbates"
def TX4 : u_T := fun k => match k with
  | 0 => ("PurrProbates", "now", "LPurrProbates$State;", true)
  | 1 => ("PurrProbates", "trial", "LPurrProbates$State;", true)
  | 2 => ("PurrProbates", "history", "LPurrProbates$History;", true)
  | 3 => ("PurrProbates", "slots", "[LPurrProbates$State;", true)
  | _ => ("PurrProbates", "pad", "LPurrProbates$Pad;", true)
def tyX4 : Nat → FieldType := fun k => match k with
  | 0 => .object "PurrProbates$State"
  | 1 => .object "PurrProbates$State"
  | 2 => .object "PurrProbates$History"
  | 3 => .array (.object "PurrProbates$State")
  | _ => .object "PurrProbates$Pad"
abbrev wsX40 : List Cond := u_ws RX4 TX4 5
theorem nmX4 : ∀ a, a < 5 → ∀ b, b < 5 → a ≠ b → (TX4 a).2.1 ≠ (TX4 b).2.1 := by decide +kernel
theorem tyX4_ok : ∀ k, k < 5 → parseFieldDescriptor (TX4 k).2.2.1 = some (tyX4 k) := by decide +kernel
abbrev cX4_init : ByteArray := prog_1_method_1_code
def yX4_init : MethodName := ⟨RX4, "<init>", "()V"⟩
abbrev cX4_set : ByteArray := prog_1_method_2_code
def yX4_set : MethodName := ⟨RX4, "set", "(II)I"⟩
abbrev cX4_add : ByteArray := prog_1_method_3_code
def yX4_add : MethodName := ⟨RX4, "add", "(II)I"⟩
abbrev cX4_read : ByteArray := prog_1_method_4_code
def yX4_read : MethodName := ⟨RX4, "read", "()I"⟩
abbrev cX4_move : ByteArray := prog_1_method_5_code
def yX4_move : MethodName := ⟨RX4, "move", "(II)I"⟩
abbrev cX4_stepDown : ByteArray := prog_1_method_6_code
def yX4_stepDown : MethodName := ⟨RX4, "stepDown", "()I"⟩
abbrev cX4_appeal : ByteArray := prog_1_method_7_code
def yX4_appeal : MethodName := ⟨RX4, "appeal", "(I)I"⟩
abbrev cX4_give : ByteArray := prog_1_method_8_code
def yX4_give : MethodName := ⟨RX4, "give", "(I)I"⟩
abbrev cX4_pass : ByteArray := prog_1_method_9_code
def yX4_pass : MethodName := ⟨RX4, "pass", "(I)I"⟩
abbrev cX4_person : ByteArray := prog_1_method_10_code
def yX4_person : MethodName := ⟨RX4, "person", "(II)I"⟩
abbrev cX4_count : ByteArray := prog_1_method_11_code
def yX4_count : MethodName := ⟨RX4, "count", "(I)I"⟩
abbrev cX4_next : ByteArray := prog_1_method_12_code
def yX4_next : MethodName := ⟨RX4, "next", "(I)I"⟩
abbrev cX4_untilEmpty : ByteArray := prog_1_method_13_code
def yX4_untilEmpty : MethodName := ⟨RX4, "untilEmpty", "()I"⟩
abbrev cX4_ifPassed : ByteArray := prog_1_method_14_code
def yX4_ifPassed : MethodName := ⟨RX4, "ifPassed", "(II)I"⟩
abbrev cX4_bestPlace : ByteArray := prog_1_method_15_code
def yX4_bestPlace : MethodName := ⟨RX4, "bestPlace", "(II)I"⟩
abbrev cX4_put : ByteArray := prog_1_method_16_code
def yX4_put : MethodName := ⟨RX4, "put", "(J)I"⟩
abbrev cX4_wipe : ByteArray := prog_1_method_17_code
def yX4_wipe : MethodName := ⟨RX4, "wipe", "()I"⟩
abbrev cX4_fault : ByteArray := prog_1_method_18_code
def yX4_fault : MethodName := ⟨RX4, "fault", "()I"⟩
abbrev cX4_undo : ByteArray := prog_1_method_19_code
def yX4_undo : MethodName := ⟨RX4, "undo", "()I"⟩
abbrev cX4_save : ByteArray := prog_1_method_20_code
def yX4_save : MethodName := ⟨RX4, "save", "(I)I"⟩
abbrev cX4_restore : ByteArray := prog_1_method_21_code
def yX4_restore : MethodName := ⟨RX4, "restore", "(I)I"⟩
abbrev cX4_isSetting : ByteArray := prog_1_method_22_code
def yX4_isSetting : MethodName := ⟨RX4, "isSetting", "(I)Z"⟩
abbrev cX4_isSlot : ByteArray := prog_1_method_23_code
def yX4_isSlot : MethodName := ⟨RX4, "isSlot", "(I)Z"⟩
abbrev cX4_daysAsGuardianIfMoved : ByteArray := prog_1_method_24_code
def yX4_daysAsGuardianIfMoved : MethodName := ⟨RX4, "daysAsGuardianIfMoved", "(II)I"⟩
abbrev cX4_codesIn : ByteArray := prog_1_method_25_code
def yX4_codesIn : MethodName := ⟨RX4, "codesIn", "(J)I"⟩
def RX5 : String := "PurrProbatesModel"
def TX5 : u_T := fun k => match k with
  | 0 => ("PurrProbatesModel", "s", "[I", true)
  | 1 => ("PurrProbatesModel", "past", "[I", true)
  | 2 => ("PurrProbatesModel", "known", "I", false)
  | 3 => ("PurrProbatesModel", "slots", "[I", true)
  | 4 => ("PurrProbatesModel", "isSaved", "[Z", true)
  | 5 => ("PurrProbatesModel", "pad", "[I", true)
  | _ => ("PurrProbatesModel", "length", "I", false)
def tyX5 : Nat → FieldType := fun k => match k with
  | 0 => .array .int
  | 1 => .array .int
  | 2 => .int
  | 3 => .array .int
  | 4 => .array .boolean
  | 5 => .array .int
  | _ => .int
abbrev wsX50 : List Cond := u_ws RX5 TX5 7
theorem nmX5 : ∀ a, a < 7 → ∀ b, b < 7 → a ≠ b → (TX5 a).2.1 ≠ (TX5 b).2.1 := by decide +kernel
theorem tyX5_ok : ∀ k, k < 7 → parseFieldDescriptor (TX5 k).2.2.1 = some (tyX5 k) := by decide +kernel
abbrev cX5_init : ByteArray := prog_7_method_1_code
def yX5_init : MethodName := ⟨RX5, "<init>", "()V"⟩
abbrev cX5_in : ByteArray := prog_7_method_3_code
def yX5_in : MethodName := ⟨RX5, "in", "(III)Z"⟩
abbrev cX5_less : ByteArray := prog_7_method_4_code
def yX5_less : MethodName := ⟨RX5, "less", "(II)I"⟩
abbrev cX5_at : ByteArray := prog_7_method_5_code
def yX5_at : MethodName := ⟨RX5, "at", "(II)I"⟩
abbrev cX5_isPerson : ByteArray := prog_7_method_6_code
def yX5_isPerson : MethodName := ⟨RX5, "isPerson", "(I)Z"⟩
abbrev cX5_remembers : ByteArray := prog_7_method_7_code
def yX5_remembers : MethodName := ⟨RX5, "remembers", "()V"⟩
abbrev cX5_copies : ByteArray := prog_7_method_8_code
def yX5_copies : MethodName := ⟨RX5, "copies", "()V"⟩
abbrev cX5_isBarred : ByteArray := prog_7_method_9_code
def yX5_isBarred : MethodName := ⟨RX5, "isBarred", "(II)Z"⟩
abbrev cX5_score : ByteArray := prog_7_method_10_code
def yX5_score : MethodName := ⟨RX5, "score", "(II)I"⟩
abbrev cX5_scratches : ByteArray := prog_7_method_11_code
def yX5_scratches : MethodName := ⟨RX5, "scratches", "(II)V"⟩
abbrev cX5_behind : ByteArray := prog_7_method_12_code
def yX5_behind : MethodName := ⟨RX5, "behind", "(II)I"⟩
abbrev cX5_hand : ByteArray := prog_7_method_13_code
def yX5_hand : MethodName := ⟨RX5, "hand", "(I)I"⟩
abbrev cX5_purrs : ByteArray := prog_7_method_14_code
def yX5_purrs : MethodName := ⟨RX5, "purrs", "(I)Z"⟩
abbrev cX5_deposes : ByteArray := prog_7_method_15_code
def yX5_deposes : MethodName := ⟨RX5, "deposes", "(II)V"⟩
abbrev cX5_pays : ByteArray := prog_7_method_16_code
def yX5_pays : MethodName := ⟨RX5, "pays", "(I)V"⟩
abbrev cX5_passesOne : ByteArray := prog_7_method_17_code
def yX5_passesOne : MethodName := ⟨RX5, "passesOne", "(I)Z"⟩
abbrev cX5_passes : ByteArray := prog_7_method_18_code
def yX5_passes : MethodName := ⟨RX5, "passes", "(II)I"⟩
abbrev cX5_moved : ByteArray := prog_7_method_19_code
def yX5_moved : MethodName := ⟨RX5, "moved", "(III)I"⟩
abbrev cX5_changesPlaces : ByteArray := prog_7_method_20_code
def yX5_changesPlaces : MethodName := ⟨RX5, "changesPlaces", "(III)V"⟩
abbrev cX5_moves : ByteArray := prog_7_method_21_code
def yX5_moves : MethodName := ⟨RX5, "moves", "(III)V"⟩
abbrev cX5_lowOf : ByteArray := prog_7_method_22_code
def yX5_lowOf : MethodName := ⟨RX5, "lowOf", "(I)I"⟩
abbrev cX5_highOf : ByteArray := prog_7_method_23_code
def yX5_highOf : MethodName := ⟨RX5, "highOf", "(I)I"⟩
abbrev cX5_set : ByteArray := prog_7_method_24_code
def yX5_set : MethodName := ⟨RX5, "set", "(II)I"⟩
abbrev cX5_comes : ByteArray := prog_7_method_25_code
def yX5_comes : MethodName := ⟨RX5, "comes", "(II)V"⟩
abbrev cX5_add : ByteArray := prog_7_method_26_code
def yX5_add : MethodName := ⟨RX5, "add", "(II)I"⟩
abbrev cX5_move : ByteArray := prog_7_method_27_code
def yX5_move : MethodName := ⟨RX5, "move", "(II)I"⟩
abbrev cX5_stepDown : ByteArray := prog_7_method_28_code
def yX5_stepDown : MethodName := ⟨RX5, "stepDown", "()I"⟩
abbrev cX5_canAppeal : ByteArray := prog_7_method_29_code
def yX5_canAppeal : MethodName := ⟨RX5, "canAppeal", "(I)Z"⟩
abbrev cX5_appeal : ByteArray := prog_7_method_30_code
def yX5_appeal : MethodName := ⟨RX5, "appeal", "(I)I"⟩
abbrev cX5_give : ByteArray := prog_7_method_31_code
def yX5_give : MethodName := ⟨RX5, "give", "(I)I"⟩
abbrev cX5_pass : ByteArray := prog_7_method_32_code
def yX5_pass : MethodName := ⟨RX5, "pass", "(I)I"⟩
abbrev cX5_person : ByteArray := prog_7_method_33_code
def yX5_person : MethodName := ⟨RX5, "person", "(II)I"⟩
abbrev cX5_ofAll : ByteArray := prog_7_method_34_code
def yX5_ofAll : MethodName := ⟨RX5, "ofAll", "(I)I"⟩
abbrev cX5_count : ByteArray := prog_7_method_35_code
def yX5_count : MethodName := ⟨RX5, "count", "(I)I"⟩
abbrev cX5_next : ByteArray := prog_7_method_36_code
def yX5_next : MethodName := ⟨RX5, "next", "(I)I"⟩
abbrev cX5_untilEmpty : ByteArray := prog_7_method_37_code
def yX5_untilEmpty : MethodName := ⟨RX5, "untilEmpty", "()I"⟩
abbrev cX5_ifPassed : ByteArray := prog_7_method_38_code
def yX5_ifPassed : MethodName := ⟨RX5, "ifPassed", "(II)I"⟩
abbrev cX5_bestPlace : ByteArray := prog_7_method_39_code
def yX5_bestPlace : MethodName := ⟨RX5, "bestPlace", "(II)I"⟩
abbrev cX5_put : ByteArray := prog_7_method_40_code
def yX5_put : MethodName := ⟨RX5, "put", "(J)I"⟩
abbrev cX5_wipe : ByteArray := prog_7_method_41_code
def yX5_wipe : MethodName := ⟨RX5, "wipe", "()I"⟩
abbrev cX5_sign : ByteArray := prog_7_method_42_code
def yX5_sign : MethodName := ⟨RX5, "sign", "(I)I"⟩
abbrev cX5_digit : ByteArray := prog_7_method_43_code
def yX5_digit : MethodName := ⟨RX5, "digit", "(I)I"⟩
abbrev cX5_shareEnd : ByteArray := prog_7_method_44_code
def yX5_shareEnd : MethodName := ⟨RX5, "shareEnd", "(I)I"⟩
abbrev cX5_shareAt : ByteArray := prog_7_method_45_code
def yX5_shareAt : MethodName := ⟨RX5, "shareAt", "(I)I"⟩
abbrev cX5_personEnd : ByteArray := prog_7_method_46_code
def yX5_personEnd : MethodName := ⟨RX5, "personEnd", "(I)I"⟩
abbrev cX5_fault : ByteArray := prog_7_method_47_code
def yX5_fault : MethodName := ⟨RX5, "fault", "()I"⟩
abbrev cX5_peopleOfPad : ByteArray := prog_7_method_48_code
def yX5_peopleOfPad : MethodName := ⟨RX5, "peopleOfPad", "()I"⟩
abbrev cX5_read : ByteArray := prog_7_method_49_code
def yX5_read : MethodName := ⟨RX5, "read", "()I"⟩
abbrev cX5_undo : ByteArray := prog_7_method_50_code
def yX5_undo : MethodName := ⟨RX5, "undo", "()I"⟩
abbrev cX5_save : ByteArray := prog_7_method_51_code
def yX5_save : MethodName := ⟨RX5, "save", "(I)I"⟩
abbrev cX5_restore : ByteArray := prog_7_method_52_code
def yX5_restore : MethodName := ⟨RX5, "restore", "(I)I"⟩
def RJx8e188 : String := "java/lang/Cloneable"
def TJx8e188 : u_T := fun k => match k with
  | _ => ("", "", "", false)
def tyJx8e188 : Nat → FieldType := fun k => match k with
  | _ => .int
abbrev wsJx8e1880 : List Cond := u_ws RJx8e188 TJx8e188 0
theorem nmJx8e188 : ∀ a, a < 0 → ∀ b, b < 0 → a ≠ b → (TJx8e188 a).2.1 ≠ (TJx8e188 b).2.1 := by decide +kernel
theorem tyJx8e188_ok : ∀ k, k < 0 → parseFieldDescriptor (TJx8e188 k).2.2.1 = some (tyJx8e188 k) := by decide +kernel
def RJ6 : String := "java/lang/Integer"
def TJ6 : u_T := fun k => match k with
  | _ => ("", "", "", false)
def tyJ6 : Nat → FieldType := fun k => match k with
  | _ => .int
abbrev wsJ60 : List Cond := u_ws RJ6 TJ6 0
theorem nmJ6 : ∀ a, a < 0 → ∀ b, b < 0 → a ≠ b → (TJ6 a).2.1 ≠ (TJ6 b).2.1 := by decide +kernel
theorem tyJ6_ok : ∀ k, k < 0 → parseFieldDescriptor (TJ6 k).2.2.1 = some (tyJ6 k) := by decide +kernel
abbrev cJ6_compare_7cf53 : ByteArray := prog_9_method_40_code
def yJ6_compare_7cf53 : MethodName := ⟨RJ6, "compare", "(II)I"⟩
def RJ9 : String := "java/lang/Math"
def TJ9 : u_T := fun k => match k with
  | _ => ("", "", "", false)
def tyJ9 : Nat → FieldType := fun k => match k with
  | _ => .int
abbrev wsJ90 : List Cond := u_ws RJ9 TJ9 0
theorem nmJ9 : ∀ a, a < 0 → ∀ b, b < 0 → a ≠ b → (TJ9 a).2.1 ≠ (TJ9 b).2.1 := by decide +kernel
theorem tyJ9_ok : ∀ k, k < 0 → parseFieldDescriptor (TJ9 k).2.2.1 = some (tyJ9 k) := by decide +kernel
abbrev cJ9_abs_0f7a4 : ByteArray := prog_10_method_59_code
def yJ9_abs_0f7a4 : MethodName := ⟨RJ9, "abs", "(I)I"⟩
abbrev cJ9_max_7cf53 : ByteArray := prog_10_method_65_code
def yJ9_max_7cf53 : MethodName := ⟨RJ9, "max", "(II)I"⟩
abbrev cJ9_min_7cf53 : ByteArray := prog_10_method_69_code
def yJ9_min_7cf53 : MethodName := ⟨RJ9, "min", "(II)I"⟩
def RJ10 : String := "java/lang/System"
def TJ10 : u_T := fun k => match k with
  | _ => ("", "", "", false)
def tyJ10 : Nat → FieldType := fun k => match k with
  | _ => .int
abbrev wsJ100 : List Cond := u_ws RJ10 TJ10 0
theorem nmJ10 : ∀ a, a < 0 → ∀ b, b < 0 → a ≠ b → (TJ10 a).2.1 ≠ (TJ10 b).2.1 := by decide +kernel
theorem tyJ10_ok : ∀ k, k < 0 → parseFieldDescriptor (TJ10 k).2.2.1 = some (tyJ10 k) := by decide +kernel
def RL : String := "PurrProbatesLaw"
abbrev cL_law : ByteArray := code
def yL_law : MethodName := ⟨RL, "law", "([I)Z"⟩
abbrev vwCl : List vw_C := [(RX0, TX0, 2), (RX1, TX1, 2), (RX2, TX2, 6), (RX3, TX3, 13), (RX4, TX4, 5), (RX5, TX5, 7)]
