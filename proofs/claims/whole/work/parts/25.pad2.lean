set_option maxRecDepth 20000 in
set_option maxHeartbeats 2000000 in
theorem c_isDigit {G : GG} {l : Launch} {h0 : HP} {z b : Nat} {x : Nat} (hx : x < 65536) : Ct G l 0 0 0 yX1_isDigit cX1_isDigit 2 (some .boolean) [.ref b, .int (nI x)] h0 z (p0 (.int (bI (dI x))) h0 z) := by
  refine Ct.intro (lv := [(0, .ref b), (1, .int (nI x))]) (by decide +kernel) (Nat.le_of_ble_eq_true rfl) rfl (fun X Q hQ hnm => ?_)
  refine ex_iload_n 1 dX1_isDigit_0 rfl rfl ?_
  refine ex_bipush (v := nI 48) dX1_isDigit_1 (by decide) ?_
  refine ex_icmp_lt (tgt := 16) dX1_isDigit_3 (by decide) (fun c_3 => ?_) (fun c_3 => ?_)
  · have n_3 : x < 48 := (nI_ltI (by omega) (by omega)).mp c_3
    refine ex_iconst (v := nI 0) dX1_isDigit_16 (by decide) ?_
    exact ex_zret hQ rfl (by decide) ⟨by first | (simp [dI, bI, show 48 ≤ x by omega, show x ≤ 57 by omega]; done) | (simp [dI, bI, show ¬ 48 ≤ x by omega]; done) | (simp [dI, bI, show ¬ x ≤ 57 by omega]; done), rfl, rfl⟩ dX1_isDigit_17
  · have n_3 : ¬ (x < 48) := fun q9 => c_3 ((nI_ltI (by omega) (by omega)).mpr q9)
    refine ex_iload_n 1 dX1_isDigit_6 rfl rfl ?_
    refine ex_bipush (v := nI 57) dX1_isDigit_7 (by decide) ?_
    refine ex_icmp_gt (tgt := 16) dX1_isDigit_9 (by decide) (fun c_9 => ?_) (fun c_9 => ?_)
    · have n_9 : 57 < x := (nI_ltI (by omega) (by omega)).mp c_9
      refine ex_iconst (v := nI 0) dX1_isDigit_16 (by decide) ?_
      exact ex_zret hQ rfl (by decide) ⟨by first | (simp [dI, bI, show 48 ≤ x by omega, show x ≤ 57 by omega]; done) | (simp [dI, bI, show ¬ 48 ≤ x by omega]; done) | (simp [dI, bI, show ¬ x ≤ 57 by omega]; done), rfl, rfl⟩ dX1_isDigit_17
    · have n_9 : ¬ (57 < x) := fun q9 => c_9 ((nI_ltI (by omega) (by omega)).mpr q9)
      refine ex_iconst (v := nI 1) dX1_isDigit_12 (by decide) ?_
      refine ex_goto (tgt := 17) dX1_isDigit_13 (by decide) ?_
      exact ex_zret hQ rfl (by decide) ⟨by first | (simp [dI, bI, show 48 ≤ x by omega, show x ≤ 57 by omega]; done) | (simp [dI, bI, show ¬ 48 ≤ x by omega]; done) | (simp [dI, bI, show ¬ x ≤ 57 by omega]; done), rfl, rfl⟩ dX1_isDigit_17

set_option maxRecDepth 20000 in
set_option maxHeartbeats 2000000 in
theorem c_shareWith {G : GG} {l : Launch} {h0 : HP} {z b : Nat} {x : Nat} {s : Int32} : Ct G l 0 0 0 yX1_shareWith cX1_shareWith 3 (some .int) [.ref b, .int s, .int (nI x)] h0 z (p0 (.int (shW s x)) h0 z) := by
  refine Ct.intro (lv := [(0, .ref b), (1, .int s), (2, .int (nI x))]) (by decide +kernel) (Nat.le_of_ble_eq_true rfl) rfl (fun X Q hQ hnm => ?_)
  refine ex_bipush (v := nI 10) dX1_shareWith_0 (by decide) ?_
  refine ex_iload_n 1 dX1_shareWith_2 rfl rfl ?_
  refine ex_imul dX1_shareWith_3 ?_
  refine ex_iload_n 2 dX1_shareWith_4 rfl rfl ?_
  refine ex_iadd dX1_shareWith_5 ?_
  refine ex_bipush (v := nI 48) dX1_shareWith_6 (by decide) ?_
  refine ex_isub dX1_shareWith_8 ?_
  exact ex_iret hQ rfl ⟨rfl, rfl, rfl⟩ dX1_shareWith_9

set_option maxRecDepth 20000 in
set_option maxHeartbeats 2000000 in
theorem c_char {G : GG} {l : Launch} {h0 : HP} {z b len : Nat} {c : Nat → Nat} (S : PD G h0 h0 b len c) (hc : ∀ i, i < len → c i < 65536) {i : Nat} (hi : i < 100) : Ct G l 0 0 0 yX1_character cX1_character 2 (some .char) [.ref b, .int (nI i)] h0 z (p0 (.int (nI (chA len c i))) h0 z) := by
  refine Ct.intro (lv := [(0, .ref b), (1, .int (nI i))]) (by decide +kernel) (Nat.le_of_ble_eq_true rfl) rfl (fun X Q hQ hnm => ?_)
  have l60 : len ≤ 60 := S.2.2.1
  refine ex_iload_n 1 dX1_character_0 rfl rfl ?_
  refine ex_if_lt (tgt := 27) dX1_character_1 (by decide) (fun c_1 => absurd c_1 (nI_pos (by omega))) (fun c_1 => ?_)
  refine ex_iload_n 1 dX1_character_4 rfl rfl ?_
  refine ex_aload_n 0 dX1_character_5 rfl rfl ?_
  refine ex_get (v := .int (nI len)) fl_X1_15 S.1 rfl dX1_character_6 ?_
  refine ex_icmp_ge (tgt := 27) dX1_character_9 (by decide) (fun c_9 => ?_) (fun c_9 => ?_)
  · have n_9 : len ≤ i := (nI_leI (by omega) (by omega)).mp c_9
    refine ex_bipush (v := nI 44) dX1_character_27 (by decide) ?_
    exact ex_zret hQ rfl (pk_charN (by first | exact hc _ (by omega) | decide)).1 ⟨by simp [chA, show ¬ i < len by omega], rfl, rfl⟩ dX1_character_29
  · have n_9 : ¬ (len ≤ i) := fun q9 => c_9 ((nI_leI (by omega) (by omega)).mpr q9)
    refine ex_iload_n 1 dX1_character_12 rfl rfl ?_
    refine ex_bipush (v := nI 60) dX1_character_13 (by decide) ?_
    refine ex_icmp_ge (tgt := 27) dX1_character_15 (by decide) (fun c_15 => absurd c_15 (fun q9 => absurd ((nI_leI (by omega) (by omega)).mp q9) (by omega))) (fun c_15 => ?_)
    refine ex_aload_n 0 dX1_character_18 rfl rfl ?_
    refine ex_get (v := .ref (b + 1)) fl_X1_9 S.1 rfl dX1_character_19 ?_
    refine ex_iload_n 1 dX1_character_22 rfl rfl ?_
    refine exD_ld (i := i) S rfl (by omega) dX1_character_23 ?_
    refine ex_goto (tgt := 29) dX1_character_24 (by decide) ?_
    exact ex_zret hQ rfl (pk_charN (by first | exact hc _ (by omega) | decide)).1 ⟨by simp [chA, show i < len by omega], rfl, rfl⟩ dX1_character_29

set_option maxRecDepth 20000 in
set_option maxHeartbeats 2000000 in
theorem c_dueBehind {G : GG} {l : Launch} {h0 : HP} {z b : Nat} {due x : Nat} (hd : due < 4) (hx : x < 65536) : Ct G l 0 0 0 yX1_dueBehind cX1_dueBehind 3 (some .int) [.ref b, .int (nI due), .int (nI x)] h0 z (p0 (.int (nI (dueB due x))) h0 z) := by
  refine Ct.intro (lv := [(0, .ref b), (1, .int (nI due)), (2, .int (nI x))]) (by decide +kernel) (Nat.le_of_ble_eq_true rfl) rfl (fun X Q hQ hnm => ?_)
  rcases (show due = 0 ∨ due = 1 ∨ due = 2 ∨ due = 3 by omega) with rfl | rfl | rfl | rfl
  · refine ex_iload_n 1 dX1_dueBehind_0 rfl rfl ?_
    refine ex_tableIn (off := 27) (tgt := 28) dX1_dueBehind_1 (by decide) (by decide) (by decide) (by decide) ?_
    refine ex_iconst (v := nI 1) dX1_dueBehind_28 (by decide) ?_
    exact ex_iret hQ rfl ⟨by first | rfl | (simp [dueB, n_37]; done), rfl, rfl⟩ dX1_dueBehind_29
  · refine ex_iload_n 1 dX1_dueBehind_0 rfl rfl ?_
    refine ex_tableIn (off := 29) (tgt := 30) dX1_dueBehind_1 (by decide) (by decide) (by decide) (by decide) ?_
    refine ex_iconst (v := nI 2) dX1_dueBehind_30 (by decide) ?_
    exact ex_iret hQ rfl ⟨by first | rfl | (simp [dueB, n_37]; done), rfl, rfl⟩ dX1_dueBehind_31
  · refine ex_iload_n 1 dX1_dueBehind_0 rfl rfl ?_
    refine ex_tableIn (off := 31) (tgt := 32) dX1_dueBehind_1 (by decide) (by decide) (by decide) (by decide) ?_
    refine ex_iconst (v := nI 3) dX1_dueBehind_32 (by decide) ?_
    exact ex_iret hQ rfl ⟨by first | rfl | (simp [dueB, n_37]; done), rfl, rfl⟩ dX1_dueBehind_33
  · refine ex_iload_n 1 dX1_dueBehind_0 rfl rfl ?_
    refine ex_tableOut (tgt := 34) dX1_dueBehind_1 (by decide) (by decide) ?_
    refine ex_iload_n 2 dX1_dueBehind_34 rfl rfl ?_
    refine ex_bipush (v := nI 44) dX1_dueBehind_35 (by decide) ?_
    refine ex_icmp_ne (tgt := 44) dX1_dueBehind_37 (by decide) (fun c_37 => ?_) (fun c_37 => ?_)
    · have n_37 : ¬ (x = 44) := fun q9 => c_37 ((nI_eq (by omega) (by omega)).mpr q9)
      refine ex_iconst (v := nI 3) dX1_dueBehind_44 (by decide) ?_
      exact ex_iret hQ rfl ⟨by first | rfl | (simp [dueB, n_37]; done), rfl, rfl⟩ dX1_dueBehind_45
    · have n_37 : x = 44 := (nI_eq (by omega) (by omega)).mp c_37
      refine ex_iconst (v := nI 0) dX1_dueBehind_40 (by decide) ?_
      refine ex_goto (tgt := 45) dX1_dueBehind_41 (by decide) ?_
      exact ex_iret hQ rfl ⟨by first | rfl | (simp [dueB, n_37]; done), rfl, rfl⟩ dX1_dueBehind_45

set_option maxRecDepth 20000 in
set_option maxHeartbeats 2000000 in
theorem c_canStand {G : GG} {l : Launch} {h0 : HP} {z b len : Nat} {c : Nat → Nat} (S : PD G h0 h0 b len c) {due x : Nat} {s : Int32} (hd : due < 4) (hx : x < 65536) : Ct G l 1 0 0 yX1_canStand cX1_canStand 4 (some .boolean) [.ref b, .int (nI due), .int s, .int (nI x)] h0 z (p0 (.int (bI (canS due s x))) h0 z) := by
  refine Ct.intro (lv := [(0, .ref b), (1, .int (nI due)), (2, .int s), (3, .int (nI x))]) (by decide +kernel) (Nat.le_of_ble_eq_true rfl) rfl (fun X Q hQ hnm => ?_)
  rcases (show due = 0 ∨ due = 1 ∨ due = 2 ∨ due = 3 by omega) with rfl | rfl | rfl | rfl
  · refine ex_iload_n 1 dX1_canStand_0 rfl rfl ?_
    refine ex_tableIn (off := 27) (tgt := 28) dX1_canStand_1 (by decide) (by decide) (by decide) (by decide) ?_
    refine ex_iload_n 3 dX1_canStand_28 rfl rfl ?_
    refine ex_bipush (v := nI 49) dX1_canStand_29 (by decide) ?_
    refine ex_icmp_lt (tgt := 44) dX1_canStand_31 (by decide) (fun c_31 => ?_) (fun c_31 => ?_)
    · have n_31 : x < 49 := (nI_ltI (by omega) (by omega)).mp c_31
      refine ex_iconst (v := nI 0) dX1_canStand_44 (by decide) ?_
      exact ex_zret hQ rfl (by decide) ⟨by first | (simp [canS, bI, show 49 ≤ x by omega, show x ≤ 57 by omega]; done) | (simp [canS, bI, show ¬ 49 ≤ x by omega]; done) | (simp [canS, bI, show ¬ x ≤ 57 by omega]; done), rfl, rfl⟩ dX1_canStand_45
    · have n_31 : ¬ (x < 49) := fun q9 => c_31 ((nI_ltI (by omega) (by omega)).mpr q9)
      refine ex_iload_n 3 dX1_canStand_34 rfl rfl ?_
      refine ex_bipush (v := nI 57) dX1_canStand_35 (by decide) ?_
      refine ex_icmp_gt (tgt := 44) dX1_canStand_37 (by decide) (fun c_37 => ?_) (fun c_37 => ?_)
      · have n_37 : 57 < x := (nI_ltI (by omega) (by omega)).mp c_37
        refine ex_iconst (v := nI 0) dX1_canStand_44 (by decide) ?_
        exact ex_zret hQ rfl (by decide) ⟨by first | (simp [canS, bI, show 49 ≤ x by omega, show x ≤ 57 by omega]; done) | (simp [canS, bI, show ¬ 49 ≤ x by omega]; done) | (simp [canS, bI, show ¬ x ≤ 57 by omega]; done), rfl, rfl⟩ dX1_canStand_45
      · have n_37 : ¬ (57 < x) := fun q9 => c_37 ((nI_ltI (by omega) (by omega)).mpr q9)
        refine ex_iconst (v := nI 1) dX1_canStand_40 (by decide) ?_
        refine ex_goto (tgt := 45) dX1_canStand_41 (by decide) ?_
        exact ex_zret hQ rfl (by decide) ⟨by first | (simp [canS, bI, show 49 ≤ x by omega, show x ≤ 57 by omega]; done) | (simp [canS, bI, show ¬ 49 ≤ x by omega]; done) | (simp [canS, bI, show ¬ x ≤ 57 by omega]; done), rfl, rfl⟩ dX1_canStand_45
  · refine ex_iload_n 1 dX1_canStand_0 rfl rfl ?_
    refine ex_tableIn (off := 45) (tgt := 46) dX1_canStand_1 (by decide) (by decide) (by decide) (by decide) ?_
    refine ex_iload_n 3 dX1_canStand_46 rfl rfl ?_
    refine ex_bipush (v := nI 102) dX1_canStand_47 (by decide) ?_
    refine ex_icmp_ne (tgt := 56) dX1_canStand_49 (by decide) (fun c_49 => ?_) (fun c_49 => ?_)
    · have n_49 : ¬ (x = 102) := fun q9 => c_49 ((nI_eq (by omega) (by omega)).mpr q9)
      refine ex_iconst (v := nI 0) dX1_canStand_56 (by decide) ?_
      exact ex_zret hQ rfl (by decide) ⟨by first | (simp [canS, bI, show x = 102 by omega]; done) | (simp [canS, bI, show ¬ x = 102 by omega]; done), rfl, rfl⟩ dX1_canStand_57
    · have n_49 : x = 102 := (nI_eq (by omega) (by omega)).mp c_49
      refine ex_iconst (v := nI 1) dX1_canStand_52 (by decide) ?_
      refine ex_goto (tgt := 57) dX1_canStand_53 (by decide) ?_
      exact ex_zret hQ rfl (by decide) ⟨by first | (simp [canS, bI, show x = 102 by omega]; done) | (simp [canS, bI, show ¬ x = 102 by omega]; done), rfl, rfl⟩ dX1_canStand_57
  · refine ex_iload_n 1 dX1_canStand_0 rfl rfl ?_
    refine ex_tableIn (off := 57) (tgt := 58) dX1_canStand_1 (by decide) (by decide) (by decide) (by decide) ?_
    refine ex_aload_n 0 dX1_canStand_58 rfl rfl ?_
    refine ex_iload_n 3 dX1_canStand_59 rfl rfl ?_
    refine ex_call0 (As := [.int (nI x)]) (v := .int (bI (dI x))) (ci := 1) vl_X1_27 rfl (c_isDigit (by omega)) S.1 rfl (by decide) (Nat.le_of_ble_eq_true rfl) (Nat.le_refl _) (Nat.le_refl _) rfl dX1_canStand_60 ?_
    exact ex_zret hQ rfl (by cases dI x <;> decide) ⟨rfl, rfl, rfl⟩ dX1_canStand_63
  · refine ex_iload_n 1 dX1_canStand_0 rfl rfl ?_
    refine ex_tableOut (tgt := 64) dX1_canStand_1 (by decide) (by decide) ?_
    refine ex_iload_n 3 dX1_canStand_64 rfl rfl ?_
    refine ex_bipush (v := nI 44) dX1_canStand_65 (by decide) ?_
    refine ex_icmp_eq (tgt := 93) dX1_canStand_67 (by decide) (fun c_67 => ?_) (fun c_67 => ?_)
    · have n_67 : x = 44 := (nI_eq (by omega) (by omega)).mp c_67
      refine ex_iconst (v := nI 1) dX1_canStand_93 (by decide) ?_
      refine ex_goto (tgt := 98) dX1_canStand_94 (by decide) ?_
      exact ex_zret hQ rfl (by decide) ⟨by first | (simp [canS, bI, n_67]; done) | (simp [canS, bI, n_67, bI_0 c_75]; done) | (simp [canS, bI, n_67, bI_1 c_75, Int32.not_lt.mpr c_79]; done) | (simp [canS, bI, n_67, bI_1 c_75, Int32.not_le.mp c_79, Int32.not_le.mpr c_90]; done) | (simp [canS, bI, n_67, bI_1 c_75, Int32.not_le.mp c_79, Int32.not_lt.mp c_90]; done), rfl, rfl⟩ dX1_canStand_98
    · have n_67 : ¬ (x = 44) := fun q9 => c_67 ((nI_eq (by omega) (by omega)).mpr q9)
      refine ex_aload_n 0 dX1_canStand_70 rfl rfl ?_
      refine ex_iload_n 3 dX1_canStand_71 rfl rfl ?_
      refine ex_call0 (As := [.int (nI x)]) (v := .int (bI (dI x))) (ci := 1) vl_X1_27 rfl (c_isDigit (by omega)) S.1 rfl (by decide) (Nat.le_of_ble_eq_true rfl) (Nat.le_refl _) (Nat.le_refl _) rfl dX1_canStand_72 ?_
      refine ex_if_eq (tgt := 97) dX1_canStand_75 (by decide) (fun c_75 => ?_) (fun c_75 => ?_)
      · refine ex_iconst (v := nI 0) dX1_canStand_97 (by decide) ?_
        exact ex_zret hQ rfl (by decide) ⟨by first | (simp [canS, bI, n_67]; done) | (simp [canS, bI, n_67, bI_0 c_75]; done) | (simp [canS, bI, n_67, bI_1 c_75, Int32.not_lt.mpr c_79]; done) | (simp [canS, bI, n_67, bI_1 c_75, Int32.not_le.mp c_79, Int32.not_le.mpr c_90]; done) | (simp [canS, bI, n_67, bI_1 c_75, Int32.not_le.mp c_79, Int32.not_lt.mp c_90]; done), rfl, rfl⟩ dX1_canStand_98
      · refine ex_iload_n 2 dX1_canStand_78 rfl rfl ?_
        refine ex_if_le (tgt := 97) dX1_canStand_79 (by decide) (fun c_79 => ?_) (fun c_79 => ?_)
        · refine ex_iconst (v := nI 0) dX1_canStand_97 (by decide) ?_
          exact ex_zret hQ rfl (by decide) ⟨by first | (simp [canS, bI, n_67]; done) | (simp [canS, bI, n_67, bI_0 c_75]; done) | (simp [canS, bI, n_67, bI_1 c_75, Int32.not_lt.mpr c_79]; done) | (simp [canS, bI, n_67, bI_1 c_75, Int32.not_le.mp c_79, Int32.not_le.mpr c_90]; done) | (simp [canS, bI, n_67, bI_1 c_75, Int32.not_le.mp c_79, Int32.not_lt.mp c_90]; done), rfl, rfl⟩ dX1_canStand_98
        · refine ex_aload_n 0 dX1_canStand_82 rfl rfl ?_
          refine ex_iload_n 2 dX1_canStand_83 rfl rfl ?_
          refine ex_iload_n 3 dX1_canStand_84 rfl rfl ?_
          refine ex_call0 (As := [.int s, .int (nI x)]) (v := .int (shW s x)) (ci := 1) vl_X1_31 rfl (c_shareWith) S.1 rfl (by decide) (Nat.le_of_ble_eq_true rfl) (Nat.le_refl _) (Nat.le_refl _) rfl dX1_canStand_85 ?_
          refine ex_bipush (v := nI 100) dX1_canStand_88 (by decide) ?_
          refine ex_icmp_gt (tgt := 97) dX1_canStand_90 (by decide) (fun c_90 => ?_) (fun c_90 => ?_)
          · refine ex_iconst (v := nI 0) dX1_canStand_97 (by decide) ?_
            exact ex_zret hQ rfl (by decide) ⟨by first | (simp [canS, bI, n_67]; done) | (simp [canS, bI, n_67, bI_0 c_75]; done) | (simp [canS, bI, n_67, bI_1 c_75, Int32.not_lt.mpr c_79]; done) | (simp [canS, bI, n_67, bI_1 c_75, Int32.not_le.mp c_79, Int32.not_le.mpr c_90]; done) | (simp [canS, bI, n_67, bI_1 c_75, Int32.not_le.mp c_79, Int32.not_lt.mp c_90]; done), rfl, rfl⟩ dX1_canStand_98
          · refine ex_iconst (v := nI 1) dX1_canStand_93 (by decide) ?_
            refine ex_goto (tgt := 98) dX1_canStand_94 (by decide) ?_
            exact ex_zret hQ rfl (by decide) ⟨by first | (simp [canS, bI, n_67]; done) | (simp [canS, bI, n_67, bI_0 c_75]; done) | (simp [canS, bI, n_67, bI_1 c_75, Int32.not_lt.mpr c_79]; done) | (simp [canS, bI, n_67, bI_1 c_75, Int32.not_le.mp c_79, Int32.not_le.mpr c_90]; done) | (simp [canS, bI, n_67, bI_1 c_75, Int32.not_le.mp c_79, Int32.not_lt.mp c_90]; done), rfl, rfl⟩ dX1_canStand_98

theorem dueB_lt {due x : Nat} : dueB due x < 4 := by
  unfold dueB
  split <;> (try split) <;> omega

def ffV (r : Option Nat) : Int32 := gv r

set_option maxRecDepth 20000 in
set_option maxHeartbeats 2000000 in
theorem c_firstFault {G : GG} {l : Launch} {h0 : HP} {z b len : Nat} {c : Nat → Nat} (S : PD G h0 h0 b len c) (hc : ∀ i, i < len → c i < 65536) : Ct G l 2 0 0 yX1_firstFault cX1_firstFault 5 (some .int) [.ref b] h0 z (p0 (.int (ffV (ffA len c))) h0 z) := by
  refine Ct.intro (lv := [(0, .ref b)]) (by decide +kernel) (Nat.le_of_ble_eq_true rfl) rfl (fun X Q hQ hnm => ?_)
  have l60 : len ≤ 60 := S.2.2.1
  refine ex_iconst (v := nI 0) dX1_firstFault_0 (by decide) ?_
  refine ex_istore_n (lv' := [(1, .int (nI 0)), (0, .ref b)]) dX1_firstFault_1 rfl (by decide) rfl ?_
  refine ex_iconst (v := nI 0) dX1_firstFault_2 (by decide) ?_
  refine ex_istore_n (lv' := [(2, .int (nI 0)), (1, .int (nI 0)), (0, .ref b)]) dX1_firstFault_3 rfl (by decide) rfl ?_
  refine ex_iconst (v := nI 0) dX1_firstFault_4 (by decide) ?_
  refine ex_istore_n (lv' := [(3, .int (nI 0)), (2, .int (nI 0)), (1, .int (nI 0)), (0, .ref b)]) dX1_firstFault_5 rfl (by decide) rfl ?_
  suffices H : ∀ (k i due : Nat) (s : Int32), i + k = len → due < 4 → ffG len c k i due s = ffA len c → ex G l X Q 2 0 0 0 0 cX1_firstFault yX1_firstFault.cls 5 (some .int) h0 z 6 [(3, .int (nI i)), (2, .int s), (1, .int (nI due)), (0, .ref b)] [] from by
    have e2 := H len 0 0 (nI 0) (by omega) (by omega) rfl
    refine ex_lv (lv2 := [(3, .int (nI 0)), (2, .int (nI 0)), (1, .int (nI 0)), (0, .ref b)]) [0, 1, 2, 3] rfl ?_
    exact e2
  intro k
  induction k with
  | zero =>
    intro i due s hi hd hh
    refine ex_iload_n 0 dX1_firstFault_6 rfl rfl ?_
    refine ex_aload_n 3 dX1_firstFault_7 rfl rfl ?_
    refine ex_get (v := .int (nI len)) fl_X1_15 S.1 rfl dX1_firstFault_8 ?_
    refine ex_icmp_ge (tgt := 73) dX1_firstFault_11 (by decide) (fun c_11 => ?_) (fun c_11 => absurd ((nI_leI (by omega) (by omega)).mpr (by omega)) c_11)
    refine ex_iload_n 2 dX1_firstFault_73 rfl rfl ?_
    refine ex_iconst (v := nI 3) dX1_firstFault_74 (by decide) ?_
    refine ex_icmp_ne (tgt := 83) dX1_firstFault_75 (by decide) (fun c_75 => ?_) (fun c_75 => ?_)
    · have n_75 : ¬ (due = 3) := fun q9 => c_75 ((nI_eq (by omega) (by omega)).mpr q9)
      refine ex_aload_n 3 dX1_firstFault_83 rfl rfl ?_
      refine ex_get (v := .int (nI len)) fl_X1_15 S.1 rfl dX1_firstFault_84 ?_
      exact ex_iret hQ rfl ⟨by rw [← hh]; first | (simp [ffG, n_75, ffV, gv]; done), rfl, rfl⟩ dX1_firstFault_87
    · have n_75 : due = 3 := (nI_eq (by omega) (by omega)).mp c_75
      refine ex_bipush (v := (-6)) dX1_firstFault_78 (by decide) ?_
      refine ex_goto (tgt := 87) dX1_firstFault_80 (by decide) ?_
      exact ex_iret hQ rfl ⟨by rw [← hh]; first | (simp [ffG, n_75, ffV, gv]; done), rfl, rfl⟩ dX1_firstFault_87
  | succ k ih =>
    intro i due s hi hd hh
    have hx : chA len c i = c i := by simp [chA, show i < len by omega]
    have hx2 : chA len c i < 65536 := by rw [hx]; exact hc i (by omega)
    refine ex_iload_n 0 dX1_firstFault_6 rfl rfl ?_
    refine ex_aload_n 3 dX1_firstFault_7 rfl rfl ?_
    refine ex_get (v := .int (nI len)) fl_X1_15 S.1 rfl dX1_firstFault_8 ?_
    refine ex_icmp_ge (tgt := 73) dX1_firstFault_11 (by decide) (fun c_11 => absurd c_11 (fun q9 => absurd ((nI_leI (by omega) (by omega)).mp q9) (by omega))) (fun c_11 => ?_)
    refine ex_aload_n 3 dX1_firstFault_14 rfl rfl ?_
    refine ex_iload_n 0 dX1_firstFault_15 rfl rfl ?_
    refine ex_call0 (As := [.int (nI i)]) (v := .int (nI (chA len c i))) (ci := 1) vl_X1_19 rfl (c_char S hc (by omega)) S.1 rfl (by decide) (Nat.le_of_ble_eq_true rfl) (Nat.le_refl _) (Nat.le_refl _) rfl dX1_firstFault_16 ?_
    refine ex_istore (lv' := [(4, .int (nI (chA len c i))), (3, .int (nI i)), (2, .int s), (1, .int (nI due)), (0, .ref b)]) dX1_firstFault_19 (by decide) rfl ?_
    refine ex_aload_n 4 dX1_firstFault_21 rfl rfl ?_
    refine ex_iload_n 3 dX1_firstFault_22 rfl rfl ?_
    refine ex_iload_n 2 dX1_firstFault_23 rfl rfl ?_
    refine ex_iload 0 dX1_firstFault_24 rfl ?_
    refine ex_call0 (As := [.int (nI due), .int s, .int (nI (chA len c i))]) (v := .int (bI (canS due s (chA len c i)))) (ci := 1) vl_X1_23 rfl (c_canStand S (by omega) (by omega)) S.1 rfl (by decide) (Nat.le_of_ble_eq_true rfl) (Nat.le_refl _) (Nat.le_refl _) rfl dX1_firstFault_26 ?_
    refine ex_if_ne (tgt := 34) dX1_firstFault_29 (by decide) (fun c_29 => ?_) (fun c_29 => ?_)
    · refine ex_iload_n 3 dX1_firstFault_34 rfl rfl ?_
      refine ex_if_eq (tgt := 57) dX1_firstFault_35 (by decide) (fun c_35 => ?_) (fun c_35 => ?_)
      · have n_35 : due = 0 := (nI_eq (b := 0) (by omega) (by omega)).mp c_35
        refine ex_iconst (v := nI 0) dX1_firstFault_57 (by decide) ?_
        refine ex_istore_n (lv' := [(2, .int (nI 0)), (4, .int (nI (chA len c i))), (3, .int (nI i)), (1, .int (nI due)), (0, .ref b)]) dX1_firstFault_58 rfl (by decide) rfl ?_
        refine ex_aload_n 4 dX1_firstFault_59 rfl rfl ?_
        refine ex_iload_n 3 dX1_firstFault_60 rfl rfl ?_
        refine ex_iload 1 dX1_firstFault_61 rfl ?_
        refine ex_call0 (As := [.int (nI due), .int (nI (chA len c i))]) (v := .int (nI (dueB due (chA len c i)))) (ci := 1) vl_X1_35 rfl (c_dueBehind (by omega) (by omega)) S.1 rfl (by decide) (Nat.le_of_ble_eq_true rfl) (Nat.le_refl _) (Nat.le_refl _) rfl dX1_firstFault_63 ?_
        refine ex_istore_n (lv' := [(1, .int (nI (dueB due (chA len c i)))), (2, .int (nI 0)), (4, .int (nI (chA len c i))), (3, .int (nI i)), (0, .ref b)]) dX1_firstFault_66 rfl (by decide) rfl ?_
        refine ex_iinc (v := nI (i + 1)) (lv' := [(3, .int (nI (i + 1))), (1, .int (nI (dueB due (chA len c i)))), (2, .int (nI 0)), (4, .int (nI (chA len c i))), (0, .ref b)]) 3 dX1_firstFault_67 rfl (nI_1 i) (by decide) rfl ?_
        refine ex_goto (tgt := 6) dX1_firstFault_70 (by decide) ?_
        have hs9 : (if due ≠ 0 ∧ dI (c i) = true then shW s (c i) else nI 0) = nI 0 := by
          rw [← hx]
          first | (simp [n_35, bI_1 c_44]; done) | (simp [n_35, bI_0 c_44]; done) | (simp [n_35]; done)
        have e2 := ih (i + 1) (dueB due (chA len c i)) (nI 0) (by omega) dueB_lt (by rw [← hh, ffG, if_pos (by rw [← hx]; exact bI_1 c_29), hs9, hx])
        refine ex_lv (lv2 := [(3, .int (nI (i + 1))), (2, .int (nI 0)), (1, .int (nI (dueB due (chA len c i)))), (0, .ref b)]) [0, 2, 1, 4] rfl ?_
        exact e2
      · have n_35 : ¬ (due = 0) := fun q9 => c_35 ((nI_eq (b := 0) (by omega) (by omega)).mpr q9)
        refine ex_aload_n 4 dX1_firstFault_38 rfl rfl ?_
        refine ex_iload 0 dX1_firstFault_39 rfl ?_
        refine ex_call0 (As := [.int (nI (chA len c i))]) (v := .int (bI (dI (chA len c i)))) (ci := 1) vl_X1_27 rfl (c_isDigit (by omega)) S.1 rfl (by decide) (Nat.le_of_ble_eq_true rfl) (Nat.le_refl _) (Nat.le_refl _) rfl dX1_firstFault_41 ?_
        refine ex_if_eq (tgt := 57) dX1_firstFault_44 (by decide) (fun c_44 => ?_) (fun c_44 => ?_)
        · refine ex_iconst (v := nI 0) dX1_firstFault_57 (by decide) ?_
          refine ex_istore_n (lv' := [(2, .int (nI 0)), (4, .int (nI (chA len c i))), (3, .int (nI i)), (1, .int (nI due)), (0, .ref b)]) dX1_firstFault_58 rfl (by decide) rfl ?_
          refine ex_aload_n 4 dX1_firstFault_59 rfl rfl ?_
          refine ex_iload_n 3 dX1_firstFault_60 rfl rfl ?_
          refine ex_iload 1 dX1_firstFault_61 rfl ?_
          refine ex_call0 (As := [.int (nI due), .int (nI (chA len c i))]) (v := .int (nI (dueB due (chA len c i)))) (ci := 1) vl_X1_35 rfl (c_dueBehind (by omega) (by omega)) S.1 rfl (by decide) (Nat.le_of_ble_eq_true rfl) (Nat.le_refl _) (Nat.le_refl _) rfl dX1_firstFault_63 ?_
          refine ex_istore_n (lv' := [(1, .int (nI (dueB due (chA len c i)))), (2, .int (nI 0)), (4, .int (nI (chA len c i))), (3, .int (nI i)), (0, .ref b)]) dX1_firstFault_66 rfl (by decide) rfl ?_
          refine ex_iinc (v := nI (i + 1)) (lv' := [(3, .int (nI (i + 1))), (1, .int (nI (dueB due (chA len c i)))), (2, .int (nI 0)), (4, .int (nI (chA len c i))), (0, .ref b)]) 3 dX1_firstFault_67 rfl (nI_1 i) (by decide) rfl ?_
          refine ex_goto (tgt := 6) dX1_firstFault_70 (by decide) ?_
          have hs9 : (if due ≠ 0 ∧ dI (c i) = true then shW s (c i) else nI 0) = nI 0 := by
            rw [← hx]
            first | (simp [n_35, bI_1 c_44]; done) | (simp [n_35, bI_0 c_44]; done) | (simp [n_35]; done)
          have e2 := ih (i + 1) (dueB due (chA len c i)) (nI 0) (by omega) dueB_lt (by rw [← hh, ffG, if_pos (by rw [← hx]; exact bI_1 c_29), hs9, hx])
          refine ex_lv (lv2 := [(3, .int (nI (i + 1))), (2, .int (nI 0)), (1, .int (nI (dueB due (chA len c i)))), (0, .ref b)]) [0, 2, 1, 4] rfl ?_
          exact e2
        · refine ex_aload_n 4 dX1_firstFault_47 rfl rfl ?_
          refine ex_iload_n 2 dX1_firstFault_48 rfl rfl ?_
          refine ex_iload 0 dX1_firstFault_49 rfl ?_
          refine ex_call0 (As := [.int s, .int (nI (chA len c i))]) (v := .int (shW s (chA len c i))) (ci := 1) vl_X1_31 rfl (c_shareWith) S.1 rfl (by decide) (Nat.le_of_ble_eq_true rfl) (Nat.le_refl _) (Nat.le_refl _) rfl dX1_firstFault_51 ?_
          refine ex_goto (tgt := 58) dX1_firstFault_54 (by decide) ?_
          refine ex_istore_n (lv' := [(2, .int (shW s (chA len c i))), (4, .int (nI (chA len c i))), (3, .int (nI i)), (1, .int (nI due)), (0, .ref b)]) dX1_firstFault_58 rfl (by decide) rfl ?_
          refine ex_aload_n 4 dX1_firstFault_59 rfl rfl ?_
          refine ex_iload_n 3 dX1_firstFault_60 rfl rfl ?_
          refine ex_iload 1 dX1_firstFault_61 rfl ?_
          refine ex_call0 (As := [.int (nI due), .int (nI (chA len c i))]) (v := .int (nI (dueB due (chA len c i)))) (ci := 1) vl_X1_35 rfl (c_dueBehind (by omega) (by omega)) S.1 rfl (by decide) (Nat.le_of_ble_eq_true rfl) (Nat.le_refl _) (Nat.le_refl _) rfl dX1_firstFault_63 ?_
          refine ex_istore_n (lv' := [(1, .int (nI (dueB due (chA len c i)))), (2, .int (shW s (chA len c i))), (4, .int (nI (chA len c i))), (3, .int (nI i)), (0, .ref b)]) dX1_firstFault_66 rfl (by decide) rfl ?_
          refine ex_iinc (v := nI (i + 1)) (lv' := [(3, .int (nI (i + 1))), (1, .int (nI (dueB due (chA len c i)))), (2, .int (shW s (chA len c i))), (4, .int (nI (chA len c i))), (0, .ref b)]) 3 dX1_firstFault_67 rfl (nI_1 i) (by decide) rfl ?_
          refine ex_goto (tgt := 6) dX1_firstFault_70 (by decide) ?_
          have hs9 : (if due ≠ 0 ∧ dI (c i) = true then shW s (c i) else nI 0) = shW s (chA len c i) := by
            rw [← hx]
            first | (simp [n_35, bI_1 c_44]; done) | (simp [n_35, bI_0 c_44]; done) | (simp [n_35]; done)
          have e2 := ih (i + 1) (dueB due (chA len c i)) (shW s (chA len c i)) (by omega) dueB_lt (by rw [← hh, ffG, if_pos (by rw [← hx]; exact bI_1 c_29), hs9, hx])
          refine ex_lv (lv2 := [(3, .int (nI (i + 1))), (2, .int (shW s (chA len c i))), (1, .int (nI (dueB due (chA len c i)))), (0, .ref b)]) [0, 2, 1, 4] rfl ?_
          exact e2
    · refine ex_iload_n 1 dX1_firstFault_32 rfl rfl ?_
      exact ex_iret hQ rfl ⟨by rw [← hh, ffG, if_neg (by rw [← hx, bI_0 c_29]; decide)]; rfl, rfl, rfl⟩ dX1_firstFault_33

set_option maxRecDepth 20000 in
set_option maxHeartbeats 2000000 in
theorem c_people {G : GG} {l : Launch} {h0 : HP} {z b len : Nat} {c : Nat → Nat} (S : PD G h0 h0 b len c) (hc : ∀ i, i < len → c i < 65536) : Ct G l 1 0 0 yX1_people cX1_people 3 (some .int) [.ref b] h0 z (p0 (.int (nI (1 + cms c len))) h0 z) := by
  refine Ct.intro (lv := [(0, .ref b)]) (by decide +kernel) (Nat.le_of_ble_eq_true rfl) rfl (fun X Q hQ hnm => ?_)
  have l60 : len ≤ 60 := S.2.2.1
  refine ex_iconst (v := nI 1) dX1_people_0 (by decide) ?_
  refine ex_istore_n (lv' := [(1, .int (nI 1)), (0, .ref b)]) dX1_people_1 rfl (by decide) rfl ?_
  refine ex_iconst (v := nI 0) dX1_people_2 (by decide) ?_
  refine ex_istore_n (lv' := [(2, .int (nI 0)), (1, .int (nI 1)), (0, .ref b)]) dX1_people_3 rfl (by decide) rfl ?_
  suffices H : ∀ (k m : Nat), m + k = len → ex G l X Q 1 0 0 0 0 cX1_people yX1_people.cls 3 (some .int) h0 z 4 [(2, .int (nI m)), (1, .int (nI (1 + cms c m))), (0, .ref b)] [] from by
    have e2 := H len 0 (by omega)
    refine ex_lv (lv2 := [(2, .int (nI 0)), (1, .int (nI (1 + cms c 0))), (0, .ref b)]) [0, 1, 2] rfl ?_
    exact e2
  intro k
  induction k with
  | zero =>
    intro m hm
    refine ex_iload_n 0 dX1_people_4 rfl rfl ?_
    refine ex_aload_n 2 dX1_people_5 rfl rfl ?_
    refine ex_get (v := .int (nI len)) fl_X1_15 S.1 rfl dX1_people_6 ?_
    refine ex_icmp_ge (tgt := 31) dX1_people_9 (by decide) (fun c_9 => ?_) (fun c_9 => absurd ((nI_leI (by omega) (by omega)).mpr (by omega)) c_9)
    refine ex_iload_n 1 dX1_people_31 rfl rfl ?_
    exact ex_iret hQ rfl ⟨by rw [show m = len by omega], rfl, rfl⟩ dX1_people_32
  | succ k ih =>
    intro m hm
    have hx : chA len c m = c m := by simp [chA, show m < len by omega]
    have hx2 : chA len c m < 65536 := by rw [hx]; exact hc m (by omega)
    refine ex_iload_n 0 dX1_people_4 rfl rfl ?_
    refine ex_aload_n 2 dX1_people_5 rfl rfl ?_
    refine ex_get (v := .int (nI len)) fl_X1_15 S.1 rfl dX1_people_6 ?_
    refine ex_icmp_ge (tgt := 31) dX1_people_9 (by decide) (fun c_9 => absurd c_9 (fun q9 => absurd ((nI_leI (by omega) (by omega)).mp q9) (by omega))) (fun c_9 => ?_)
    refine ex_aload_n 2 dX1_people_12 rfl rfl ?_
    refine ex_iload_n 0 dX1_people_13 rfl rfl ?_
    refine ex_call0 (As := [.int (nI m)]) (v := .int (nI (chA len c m))) (ci := 1) vl_X1_19 rfl (c_char S hc (by omega)) S.1 rfl (by decide) (Nat.le_of_ble_eq_true rfl) (Nat.le_refl _) (Nat.le_refl _) rfl dX1_people_14 ?_
    refine ex_bipush (v := nI 44) dX1_people_17 (by decide) ?_
    refine ex_icmp_ne (tgt := 25) dX1_people_19 (by decide) (fun c_19 => ?_) (fun c_19 => ?_)
    · have n_19 : ¬ ((chA len c m) = 44) := fun q9 => c_19 ((nI_eq (by omega) (by omega)).mpr q9)
      refine ex_iinc (v := nI (m + 1)) (lv' := [(2, .int (nI (m + 1))), (1, .int (nI (1 + cms c m))), (0, .ref b)]) 0 dX1_people_25 rfl (nI_1 m) (by decide) rfl ?_
      refine ex_goto (tgt := 4) dX1_people_28 (by decide) ?_
      have e1 : 1 + cms c (m + 1) = 1 + cms c m := by first | (rw [cms, if_pos (by rw [← hx]; exact n_19)]; omega) | (rw [cms, if_neg (by rw [← hx]; exact n_19)])
      have e2 := ih (m + 1) (by omega)
      rw [e1] at e2
      refine ex_lv (lv2 := [(2, .int (nI (m + 1))), (1, .int (nI (1 + cms c m))), (0, .ref b)]) [0, 1, 2] rfl ?_
      exact e2
    · have n_19 : (chA len c m) = 44 := (nI_eq (by omega) (by omega)).mp c_19
      refine ex_iinc (v := nI (1 + cms c m + 1)) (lv' := [(1, .int (nI (1 + cms c m + 1))), (2, .int (nI m)), (0, .ref b)]) 1 dX1_people_22 rfl (nI_1 (1 + cms c m)) (by decide) rfl ?_
      refine ex_iinc (v := nI (m + 1)) (lv' := [(2, .int (nI (m + 1))), (1, .int (nI (1 + cms c m + 1))), (0, .ref b)]) 1 dX1_people_25 rfl (nI_1 m) (by decide) rfl ?_
      refine ex_goto (tgt := 4) dX1_people_28 (by decide) ?_
      have e1 : 1 + cms c (m + 1) = 1 + cms c m + 1 := by first | (rw [cms, if_pos (by rw [← hx]; exact n_19)]; omega) | (rw [cms, if_neg (by rw [← hx]; exact n_19)])
      have e2 := ih (m + 1) (by omega)
      rw [e1] at e2
      refine ex_lv (lv2 := [(2, .int (nI (m + 1))), (1, .int (nI (1 + cms c m + 1))), (0, .ref b)]) [0, 1, 2] rfl ?_
      exact e2

set_option maxRecDepth 20000 in
set_option maxHeartbeats 2000000 in
theorem c_append {G : GG} {l : Launch} {h0 : HP} {z b len : Nat} {c : Nat → Nat} (S : PD G h0 h0 b len c) {v : Nat} (hv : v < 65536) (hl : len < 60) : Ct G l 0 0 0 yX1_append cX1_append 2 none [.ref b, .int (nI v)] h0 z (fun r h1 z1 => r = none ∧ z1 = z ∧ PD G h0 h1 b (len + 1) (fun i => if i = len then v else c i)) := by
  refine Ct.intro (lv := [(0, .ref b), (1, .int (nI v))]) (by decide +kernel) (Nat.le_of_ble_eq_true rfl) rfl (fun X Q hQ hnm => ?_)
  refine ex_aload_n 0 dX1_append_0 rfl rfl ?_
  refine ex_get (v := .int (nI len)) fl_X1_15 S.1 rfl dX1_append_1 ?_
  refine ex_if_lt (tgt := 36) dX1_append_4 (by decide) (fun c_4 => absurd c_4 (nI_pos (by omega))) (fun c_4 => ?_)
  refine ex_aload_n 0 dX1_append_7 rfl rfl ?_
  refine ex_get (v := .int (nI len)) fl_X1_15 S.1 rfl dX1_append_8 ?_
  refine ex_bipush (v := nI 60) dX1_append_11 (by decide) ?_
  refine ex_icmp_ge (tgt := 36) dX1_append_13 (by decide) (fun c_13 => absurd c_13 (fun q9 => absurd ((nI_leI (by omega) (by omega)).mp q9) (by omega))) (fun c_13 => ?_)
  refine ex_aload_n 0 dX1_append_16 rfl rfl ?_
  refine ex_get (v := .ref (b + 1)) fl_X1_9 S.1 rfl dX1_append_17 ?_
  refine ex_aload_n 0 dX1_append_20 rfl rfl ?_
  refine ex_get (v := .int (nI len)) fl_X1_15 S.1 rfl dX1_append_21 ?_
  refine ex_iload_n 1 dX1_append_24 rfl rfl ?_
  obtain ⟨f, hf, hf2⟩ := S.2.1
  refine ex_cast hf rfl (show len < 60 by omega) (by decide) dX1_append_25 ?_
  refine ex_aload_n 0 dX1_append_26 rfl rfl ?_
  refine ex_dup dX1_append_27 rfl ?_
  refine ex_get (v := .int (nI len)) fl_X1_15 (by rw [hu_n (by omega)]; exact S.1) rfl dX1_append_28 ?_
  refine ex_iconst (v := nI 1) dX1_append_31 (by decide) ?_
  refine ex_iaddN dX1_append_32 ?_
  refine ex_put fl_X1_15 (by rw [hu_n (by omega)]; exact S.1) rfl rfl (Nat.le_of_ble_eq_true rfl) dX1_append_33 ?_
  exact ex_vret hQ rfl ⟨rfl, rfl, S.app hf hv hl⟩ dX1_append_36

