set_option maxRecDepth 20000 in
set_option maxHeartbeats 2000000 in
theorem c_pass {G : GG} {l : Launch} {h0 : HP} {z b : Nat} {n : Nat} {g : Option Nat} {t : Nat} {u : Nat → Int32} {q : Nat → Nat → Int32} {k len : Nat} {L : Nat → AS} {V : Nat → Option AS} {c : Nat → Nat} (S0 : PP G h0 z b ((n, g, t, u, q), k, L, V, len, c)) (wf : wfA (n, g, t, u, q)) (m3 : 0 < u 3) {v : Int32} : Ct G l 5 0 0 yX4_pass cX4_pass 3 (some .int) [.ref b, .int v] h0 z (pX G (X_pass ((n, g, t, u, q), k, L, V, len, c) v) h0 z b) := by
  refine Ct.intro (lv := [(0, .ref b), (1, .int v)]) (by decide +kernel) (Nat.le_of_ble_eq_true rfl) rfl (fun X Q hQ hnm => ?_)
  have S := S0.xf
  have n8 : n ≤ 8 := wf.1
  refine ex_iload_n 1 dX4_pass_0 rfl rfl ?_
  refine ex_iconst (v := nI 1) dX4_pass_1 (by decide) ?_
  refine ex_icmp_lt (tgt := 11) dX4_pass_2 (by decide) (fun c_2 => ?_) (fun c_2 => ?_)
  · refine ex_bipush (v := (-2)) dX4_pass_11 (by decide) ?_
    exact ex_iret hQ rfl (by unfold X_pass; rw [if_pos (by first | exact Or.inl c_2 | exact Or.inr (Int32.not_le.mp c_8))]; exact ⟨rfl, rfl, S⟩) dX4_pass_13
  · refine ex_iload_n 1 dX4_pass_5 rfl rfl ?_
    refine ex_bipush (v := nI 99) dX4_pass_6 (by decide) ?_
    refine ex_icmp_le (tgt := 14) dX4_pass_8 (by decide) (fun c_8 => ?_) (fun c_8 => ?_)
    · obtain ⟨j, j1, j2, rfl⟩ := rngI (by omega) (by omega) c_2 c_8
      refine ex_aload_n 0 dX4_pass_14 rfl rfl ?_
      refine ex_get (v := .ref (b + 1)) fl_X4_10 S.1.ob rfl dX4_pass_15 ?_
      refine ex_get (v := .int (u 6)) fl_X4_112 S.1.nob rfl dX4_pass_18 ?_
      refine ex_iload_n 1 dX4_pass_21 rfl rfl ?_
      refine ex_iadd dX4_pass_22 ?_
      refine ex_sipush (v := nI 9999) dX4_pass_23 (by decide) ?_
      refine ex_icmp_le (tgt := 32) dX4_pass_26 (by decide) (fun c_26 => ?_) (fun c_26 => ?_)
      · refine ex_aload_n 0 dX4_pass_32 rfl rfl ?_
        refine ex_get (v := .ref (b + 23)) fl_X4_22 S.1.ob rfl dX4_pass_33 ?_
        refine ex_aload_n 0 dX4_pass_36 rfl rfl ?_
        refine ex_get (v := .ref (b + 1)) fl_X4_10 S.1.ob rfl dX4_pass_37 ?_
        refine exX_rec vl_X4_48 S n8 (by decide) (Nat.le_of_ble_eq_true rfl) (Nat.le_refl _) (Nat.le_refl _) rfl dX4_pass_40 (fun h S => ?_)
        have S : XF G h0 h z b ((n, g, t, u, q), (if k < 6 then k + 1 else 6), (recR k L (n, g, t, u, q)), V, len, c) := S
        refine ex_aload_n 0 dX4_pass_43 rfl rfl ?_
        refine ex_get (v := .ref (b + 1)) fl_X4_10 S.1.ob rfl dX4_pass_44 ?_
        refine ex_get (v := .int (u 13)) fl_X4_115 S.1.nob rfl dX4_pass_47 ?_
        refine ex_istore_n (lv' := [(2, .int (u 13)), (0, .ref b), (1, .int (nI j))]) dX4_pass_50 rfl (by decide) rfl ?_
        refine ex_aload_n 1 dX4_pass_51 rfl rfl ?_
        refine ex_get (v := .ref (b + 1)) fl_X4_10 S.1.ob rfl dX4_pass_52 ?_
        refine ex_iload_n 2 dX4_pass_55 rfl rfl ?_
        refine exX_now (As := [.int (nI j)]) (r0 := none) (f := fun π => π) (B := itA j (n, g, t, u, q)) vl_X4_118 rfl S (fun π hN => c_liveDays hN wf m3 (by omega)) rfl (by decide) (Nat.le_of_ble_eq_true rfl) (Nat.le_refl _) (Nat.le_refl _) rfl dX4_pass_56 (fun h S => ?_)
        have S : XF G h0 h z b (itA j (n, g, t, u, q), (if k < 6 then k + 1 else 6), (recR k L (n, g, t, u, q)), V, len, c) := S
        refine ex_aload_n 1 dX4_pass_59 rfl rfl ?_
        refine ex_get (v := .ref (b + 1)) fl_X4_10 S.1.ob rfl dX4_pass_60 ?_
        refine ex_get (v := .int ((itA j (n, g, t, u, q)).2.2.2.1 13)) fl_X4_115 S.1.nob rfl dX4_pass_63 ?_
        refine ex_iload_n 0 dX4_pass_66 rfl rfl ?_
        refine ex_isub dX4_pass_67 ?_
        exact ex_iret hQ rfl (by have hc : ¬ (nI j < nI 1 ∨ nI 99 < nI j) := fun q9 => q9.elim c_2 (fun q9 => absurd c_8 (Int32.not_le.mpr q9)); unfold X_pass; rw [if_neg hc, if_neg (Int32.not_lt.mpr c_26), ixn (by omega)]; exact ⟨rfl, rfl, S⟩) dX4_pass_68
      · refine ex_bipush (v := (-4)) dX4_pass_29 (by decide) ?_
        exact ex_iret hQ rfl (by have hc : ¬ (nI j < nI 1 ∨ nI 99 < nI j) := fun q9 => q9.elim c_2 (fun q9 => absurd c_8 (Int32.not_le.mpr q9)); unfold X_pass; rw [if_neg hc, if_pos (Int32.not_le.mp c_26)]; exact ⟨rfl, rfl, S⟩) dX4_pass_31
    · refine ex_bipush (v := (-2)) dX4_pass_11 (by decide) ?_
      exact ex_iret hQ rfl (by unfold X_pass; rw [if_pos (by first | exact Or.inl c_2 | exact Or.inr (Int32.not_le.mp c_8))]; exact ⟨rfl, rfl, S⟩) dX4_pass_13

set_option maxRecDepth 20000 in
set_option maxHeartbeats 2000000 in
theorem c_person {G : GG} {l : Launch} {h0 : HP} {z b : Nat} {n : Nat} {g : Option Nat} {t : Nat} {u : Nat → Int32} {q : Nat → Nat → Int32} {k len : Nat} {L : Nat → AS} {V : Nat → Option AS} {c : Nat → Nat} (S0 : PP G h0 z b ((n, g, t, u, q), k, L, V, len, c)) (n8 : n ≤ 8) (gw : ∀ i, g = some i → i < n) {p x : Int32} : Ct G l 2 0 0 yX4_person cX4_person 4 (some .int) [.ref b, .int p, .int x] h0 z (pX G (X_person ((n, g, t, u, q), k, L, V, len, c) p x, ((n, g, t, u, q), k, L, V, len, c)) h0 z b) := by
  refine Ct.intro (lv := [(0, .ref b), (1, .int p), (2, .int x)]) (by decide +kernel) (Nat.le_of_ble_eq_true rfl) rfl (fun X Q hQ hnm => ?_)
  have S := S0.xf
  obtain ⟨π, hN⟩ := S.1.2.1
  rcases inR_or p n (by omega) with ⟨i, hp, rfl⟩ | hp
  · refine ex_aload_n 0 dX4_person_0 rfl rfl ?_
    refine ex_get (v := .ref (b + 1)) fl_X4_10 S.1.ob rfl dX4_person_1 ?_
    refine ex_iload_n 1 dX4_person_4 rfl rfl ?_
    refine ex_call0 (As := [.int (nI i)]) (v := .ref (b + 1 + 3 + π i)) (ci := 3) vl_X4_76 rfl (c_at hN (by omega) hp n8) hN.ob rfl (by decide) (Nat.le_of_ble_eq_true rfl) (Nat.le_refl _) (Nat.le_refl _) rfl dX4_person_5 ?_
    refine ex_astore_n (lv' := [(3, .ref (b + 1 + 3 + π i)), (0, .ref b), (1, .int (nI i)), (2, .int x)]) dX4_person_8 rfl (by decide) rfl ?_
    refine ex_aload_n 0 dX4_person_9 rfl rfl ?_
    refine ex_ifnonnull (tgt := 15) dX4_person_10 (by decide) ?_
    rcases inR_or x 9 (by omega) with ⟨m, hx, rfl⟩ | hx
    · rcases (show m = 0 ∨ m = 1 ∨ m = 2 ∨ m = 3 ∨ m = 4 ∨ m = 5 ∨ m = 6 ∨ m = 7 ∨ m = 8 by omega) with rfl | rfl | rfl | rfl | rfl | rfl | rfl | rfl | rfl
      · refine ex_iload_n 3 dX4_person_15 rfl rfl ?_
        refine ex_tableIn (off := 52) (tgt := 68) dX4_person_16 (by decide) (by decide) (by decide) (by decide) ?_
        refine ex_aload_n 0 dX4_person_68 rfl rfl ?_
        refine ex_get (v := .int (q i 0)) fl_X4_121 (hN.pe (by omega) hp) rfl dX4_person_69 ?_
        exact ex_iret hQ rfl (by unfold X_person; dsimp only; rw [if_pos (inR_nI hp (by omega)), if_pos (inR_nI hx (by decide)), ixn (by omega), ixn (by omega)]; exact ⟨rfl, rfl, S⟩) dX4_person_72
      · refine ex_iload_n 3 dX4_person_15 rfl rfl ?_
        refine ex_tableIn (off := 57) (tgt := 73) dX4_person_16 (by decide) (by decide) (by decide) (by decide) ?_
        refine ex_aload_n 0 dX4_person_73 rfl rfl ?_
        refine ex_get (v := .int (q i 1)) fl_X4_126 (hN.pe (by omega) hp) rfl dX4_person_74 ?_
        exact ex_iret hQ rfl (by unfold X_person; dsimp only; rw [if_pos (inR_nI hp (by omega)), if_pos (inR_nI hx (by decide)), ixn (by omega), ixn (by omega)]; exact ⟨rfl, rfl, S⟩) dX4_person_77
      · refine ex_iload_n 3 dX4_person_15 rfl rfl ?_
        refine ex_tableIn (off := 62) (tgt := 78) dX4_person_16 (by decide) (by decide) (by decide) (by decide) ?_
        refine ex_aload_n 0 dX4_person_78 rfl rfl ?_
        refine ex_get (v := .int (q i 2)) fl_X4_129 (hN.pe (by omega) hp) rfl dX4_person_79 ?_
        exact ex_iret hQ rfl (by unfold X_person; dsimp only; rw [if_pos (inR_nI hp (by omega)), if_pos (inR_nI hx (by decide)), ixn (by omega), ixn (by omega)]; exact ⟨rfl, rfl, S⟩) dX4_person_82
      · refine ex_iload_n 3 dX4_person_15 rfl rfl ?_
        refine ex_tableIn (off := 67) (tgt := 83) dX4_person_16 (by decide) (by decide) (by decide) (by decide) ?_
        refine ex_aload_n 0 dX4_person_83 rfl rfl ?_
        refine ex_get (v := .int (q i 3)) fl_X4_132 (hN.pe (by omega) hp) rfl dX4_person_84 ?_
        exact ex_iret hQ rfl (by unfold X_person; dsimp only; rw [if_pos (inR_nI hp (by omega)), if_pos (inR_nI hx (by decide)), ixn (by omega), ixn (by omega)]; exact ⟨rfl, rfl, S⟩) dX4_person_87
      · refine ex_iload_n 3 dX4_person_15 rfl rfl ?_
        refine ex_tableIn (off := 72) (tgt := 88) dX4_person_16 (by decide) (by decide) (by decide) (by decide) ?_
        refine ex_aload_n 1 dX4_person_88 rfl rfl ?_
        refine ex_get (v := .ref (b + 1)) fl_X4_10 S.1.ob rfl dX4_person_89 ?_
        refine ex_aload_n 0 dX4_person_92 rfl rfl ?_
        refine ex_call0 (As := [.ref (b + 1 + 3 + π i)]) (v := .int (bB u q i)) (ci := 3) vl_X4_135 rfl (c_isBarred hN (by omega) hp) hN.ob rfl (by decide) (Nat.le_of_ble_eq_true rfl) (Nat.le_refl _) (Nat.le_refl _) rfl dX4_person_93 ?_
        refine ex_if_eq (tgt := 103) dX4_person_96 (by decide) (fun c_96 => ?_) (fun c_96 => ?_)
        · refine ex_iconst (v := nI 0) dX4_person_103 (by decide) ?_
          exact ex_iret hQ rfl (by unfold X_person; dsimp only; rw [if_pos (inR_nI hp (by omega)), if_pos (inR_nI hx (by decide)), ixn (by omega), ixn (by omega)]; first | exact ⟨congrArg (fun x => some (Value.int x)) c_96.symm, rfl, S⟩ | exact ⟨congrArg (fun x => some (Value.int x)) (bI_e1 c_96).symm, rfl, S⟩) dX4_person_104
        · refine ex_iconst (v := nI 1) dX4_person_99 (by decide) ?_
          refine ex_goto (tgt := 104) dX4_person_100 (by decide) ?_
          exact ex_iret hQ rfl (by unfold X_person; dsimp only; rw [if_pos (inR_nI hp (by omega)), if_pos (inR_nI hx (by decide)), ixn (by omega), ixn (by omega)]; first | exact ⟨congrArg (fun x => some (Value.int x)) c_96.symm, rfl, S⟩ | exact ⟨congrArg (fun x => some (Value.int x)) (bI_e1 c_96).symm, rfl, S⟩) dX4_person_104
      · refine ex_iload_n 3 dX4_person_15 rfl rfl ?_
        refine ex_tableIn (off := 89) (tgt := 105) dX4_person_16 (by decide) (by decide) (by decide) (by decide) ?_
        refine ex_aload_n 1 dX4_person_105 rfl rfl ?_
        refine ex_get (v := .ref (b + 1)) fl_X4_10 S.1.ob rfl dX4_person_106 ?_
        refine ex_aload_n 0 dX4_person_109 rfl rfl ?_
        refine ex_call0 (As := [.ref (b + 1 + 3 + π i)]) (v := .int (scI u q i)) (ci := 3) vl_X4_139 rfl (c_score hN (by omega) hp) hN.ob rfl (by decide) (Nat.le_of_ble_eq_true rfl) (Nat.le_refl _) (Nat.le_refl _) rfl dX4_person_110 ?_
        refine ex_sipush (v := nI 1000) dX4_person_113 (by decide) ?_
        refine ex_iadd dX4_person_116 ?_
        exact ex_iret hQ rfl (by unfold X_person; dsimp only; rw [if_pos (inR_nI hp (by omega)), if_pos (inR_nI hx (by decide)), ixn (by omega), ixn (by omega)]; exact ⟨rfl, rfl, S⟩) dX4_person_117
      · refine ex_iload_n 3 dX4_person_15 rfl rfl ?_
        refine ex_tableIn (off := 102) (tgt := 118) dX4_person_16 (by decide) (by decide) (by decide) (by decide) ?_
        refine ex_aload_n 0 dX4_person_118 rfl rfl ?_
        refine ex_get (v := .int (q i 4)) fl_X4_143 (hN.pe (by omega) hp) rfl dX4_person_119 ?_
        exact ex_iret hQ rfl (by unfold X_person; dsimp only; rw [if_pos (inR_nI hp (by omega)), if_pos (inR_nI hx (by decide)), ixn (by omega), ixn (by omega)]; exact ⟨rfl, rfl, S⟩) dX4_person_122
      · refine ex_iload_n 3 dX4_person_15 rfl rfl ?_
        refine ex_tableIn (off := 107) (tgt := 123) dX4_person_16 (by decide) (by decide) (by decide) (by decide) ?_
        refine ex_aload_n 0 dX4_person_123 rfl rfl ?_
        refine ex_get (v := .int (q i 5)) fl_X4_144 (hN.pe (by omega) hp) rfl dX4_person_124 ?_
        exact ex_iret hQ rfl (by unfold X_person; dsimp only; rw [if_pos (inR_nI hp (by omega)), if_pos (inR_nI hx (by decide)), ixn (by omega), ixn (by omega)]; exact ⟨rfl, rfl, S⟩) dX4_person_127
      · refine ex_iload_n 3 dX4_person_15 rfl rfl ?_
        refine ex_tableIn (off := 112) (tgt := 128) dX4_person_16 (by decide) (by decide) (by decide) (by decide) ?_
        refine ex_aload_n 1 dX4_person_128 rfl rfl ?_
        refine ex_get (v := .ref (b + 1)) fl_X4_10 S.1.ob rfl dX4_person_129 ?_
        refine ex_iload_n 2 dX4_person_132 rfl rfl ?_
        refine ex_call0 (As := [.int (nI i)]) (v := .int (mayI n g u q i)) (ci := 3) vl_X4_99 rfl (c_mayAppeal hN (by omega) hp gw n8) hN.ob rfl (by decide) (Nat.le_of_ble_eq_true rfl) (Nat.le_refl _) (Nat.le_refl _) rfl dX4_person_133 ?_
        refine ex_if_eq (tgt := 143) dX4_person_136 (by decide) (fun c_136 => ?_) (fun c_136 => ?_)
        · refine ex_iconst (v := nI 0) dX4_person_143 (by decide) ?_
          exact ex_iret hQ rfl (by unfold X_person; dsimp only; rw [if_pos (inR_nI hp (by omega)), if_pos (inR_nI hx (by decide)), ixn (by omega), ixn (by omega)]; first | exact ⟨congrArg (fun x => some (Value.int x)) c_136.symm, rfl, S⟩ | exact ⟨congrArg (fun x => some (Value.int x)) (mayI_1 c_136).symm, rfl, S⟩) dX4_person_144
        · refine ex_iconst (v := nI 1) dX4_person_139 (by decide) ?_
          refine ex_goto (tgt := 144) dX4_person_140 (by decide) ?_
          exact ex_iret hQ rfl (by unfold X_person; dsimp only; rw [if_pos (inR_nI hp (by omega)), if_pos (inR_nI hx (by decide)), ixn (by omega), ixn (by omega)]; first | exact ⟨congrArg (fun x => some (Value.int x)) c_136.symm, rfl, S⟩ | exact ⟨congrArg (fun x => some (Value.int x)) (mayI_1 c_136).symm, rfl, S⟩) dX4_person_144
    · refine ex_iload_n 3 dX4_person_15 rfl rfl ?_
      refine ex_tableOut (tgt := 145) dX4_person_16 (tabc hx (by decide)) (by decide) ?_
      refine ex_bipush (v := (-2)) dX4_person_145 (by decide) ?_
      exact ex_iret hQ rfl (by unfold X_person; dsimp only; rw [if_pos (inR_nI hp (by omega)), if_neg hx]; exact ⟨rfl, rfl, S⟩) dX4_person_147
  · refine ex_aload_n 0 dX4_person_0 rfl rfl ?_
    refine ex_get (v := .ref (b + 1)) fl_X4_10 S.1.ob rfl dX4_person_1 ?_
    refine ex_iload_n 1 dX4_person_4 rfl rfl ?_
    refine ex_call0 (As := [.int p]) (v := .null) (ci := 3) vl_X4_76 rfl (c_atN hN (inR_not hp) n8) hN.ob rfl (by decide) (Nat.le_of_ble_eq_true rfl) (Nat.le_refl _) (Nat.le_refl _) rfl dX4_person_5 ?_
    refine ex_astore_nN (lv' := [(3, .null), (0, .ref b), (1, .int p), (2, .int x)]) dX4_person_8 rfl (by decide) rfl ?_
    refine ex_aload_nN 0 dX4_person_9 rfl rfl ?_
    refine ex_ifnonnullN dX4_person_10 ?_
    refine ex_iconst (v := (-1)) dX4_person_13 (by decide) ?_
    exact ex_iret hQ rfl (by unfold X_person; dsimp only; rw [if_neg hp]; exact ⟨rfl, rfl, S⟩) dX4_person_14

set_option maxRecDepth 20000 in
set_option maxHeartbeats 2000000 in
theorem c_count {G : GG} {l : Launch} {h0 : HP} {z b : Nat} {n : Nat} {g : Option Nat} {t : Nat} {u : Nat → Int32} {q : Nat → Nat → Int32} {k len : Nat} {L : Nat → AS} {V : Nat → Option AS} {c : Nat → Nat} (S0 : PP G h0 z b ((n, g, t, u, q), k, L, V, len, c)) (n8 : n ≤ 8) (gw : ∀ i, g = some i → i < n) {x : Int32} : Ct G l 2 0 0 yX4_count cX4_count 2 (some .int) [.ref b, .int x] h0 z (pX G (X_count ((n, g, t, u, q), k, L, V, len, c) x, ((n, g, t, u, q), k, L, V, len, c)) h0 z b) := by
  refine Ct.intro (lv := [(0, .ref b), (1, .int x)]) (by decide +kernel) (Nat.le_of_ble_eq_true rfl) rfl (fun X Q hQ hnm => ?_)
  have S := S0.xf
  obtain ⟨π, hN⟩ := S.1.2.1
  rcases inR_or x 21 (by omega) with ⟨m, hx, rfl⟩ | hx
  · rcases (show m = 0 ∨ m = 1 ∨ m = 2 ∨ m = 3 ∨ m = 4 ∨ m = 5 ∨ m = 6 ∨ m = 7 ∨ m = 8 ∨ m = 9 ∨ m = 10 ∨ m = 11 ∨ m = 12 ∨ m = 13 ∨ m = 14 ∨ m = 15 ∨ m = 16 ∨ m = 17 ∨ m = 18 ∨ m = 19 ∨ m = 20 by omega) with rfl | rfl | rfl | rfl | rfl | rfl | rfl | rfl | rfl | rfl | rfl | rfl | rfl | rfl | rfl | rfl | rfl | rfl | rfl | rfl | rfl
    · refine ex_iload_n 1 dX4_count_0 rfl rfl ?_
      refine ex_callS0 (As := [.int (nI 0)]) (v := .int (nI 1)) vl_X4_37 (c_isSettingT (by decide)) rfl (by decide) (Nat.le_of_ble_eq_true rfl) (Nat.le_refl _) (Nat.le_refl _) rfl dX4_count_1 ?_
      refine ex_if_eq (tgt := 17) dX4_count_4 (by decide) (fun c_4 => absurd c_4 (by decide)) (fun c_4 => ?_)
      refine ex_aload_n 0 dX4_count_7 rfl rfl ?_
      refine ex_get (v := .ref (b + 1)) fl_X4_10 S.1.ob rfl dX4_count_8 ?_
      refine ex_get (v := .ref (b + 1 + 1)) fl_X4_52 S.1.nob rfl dX4_count_11 ?_
      refine ex_iload_n 1 dX4_count_14 rfl rfl ?_
      refine exX_ld (i := 0) (w := u 0) S rfl (by decide) rfl dX4_count_15 ?_
      exact ex_iret hQ rfl (by unfold X_count; rw [if_pos (inR_nI hx (by decide)), ixn (by decide)]; exact ⟨rfl, rfl, S⟩) dX4_count_16
    · refine ex_iload_n 1 dX4_count_0 rfl rfl ?_
      refine ex_callS0 (As := [.int (nI 1)]) (v := .int (nI 1)) vl_X4_37 (c_isSettingT (by decide)) rfl (by decide) (Nat.le_of_ble_eq_true rfl) (Nat.le_refl _) (Nat.le_refl _) rfl dX4_count_1 ?_
      refine ex_if_eq (tgt := 17) dX4_count_4 (by decide) (fun c_4 => absurd c_4 (by decide)) (fun c_4 => ?_)
      refine ex_aload_n 0 dX4_count_7 rfl rfl ?_
      refine ex_get (v := .ref (b + 1)) fl_X4_10 S.1.ob rfl dX4_count_8 ?_
      refine ex_get (v := .ref (b + 1 + 1)) fl_X4_52 S.1.nob rfl dX4_count_11 ?_
      refine ex_iload_n 1 dX4_count_14 rfl rfl ?_
      refine exX_ld (i := 1) (w := u 1) S rfl (by decide) rfl dX4_count_15 ?_
      exact ex_iret hQ rfl (by unfold X_count; rw [if_pos (inR_nI hx (by decide)), ixn (by decide)]; exact ⟨rfl, rfl, S⟩) dX4_count_16
    · refine ex_iload_n 1 dX4_count_0 rfl rfl ?_
      refine ex_callS0 (As := [.int (nI 2)]) (v := .int (nI 1)) vl_X4_37 (c_isSettingT (by decide)) rfl (by decide) (Nat.le_of_ble_eq_true rfl) (Nat.le_refl _) (Nat.le_refl _) rfl dX4_count_1 ?_
      refine ex_if_eq (tgt := 17) dX4_count_4 (by decide) (fun c_4 => absurd c_4 (by decide)) (fun c_4 => ?_)
      refine ex_aload_n 0 dX4_count_7 rfl rfl ?_
      refine ex_get (v := .ref (b + 1)) fl_X4_10 S.1.ob rfl dX4_count_8 ?_
      refine ex_get (v := .ref (b + 1 + 1)) fl_X4_52 S.1.nob rfl dX4_count_11 ?_
      refine ex_iload_n 1 dX4_count_14 rfl rfl ?_
      refine exX_ld (i := 2) (w := u 2) S rfl (by decide) rfl dX4_count_15 ?_
      exact ex_iret hQ rfl (by unfold X_count; rw [if_pos (inR_nI hx (by decide)), ixn (by decide)]; exact ⟨rfl, rfl, S⟩) dX4_count_16
    · refine ex_iload_n 1 dX4_count_0 rfl rfl ?_
      refine ex_callS0 (As := [.int (nI 3)]) (v := .int (nI 1)) vl_X4_37 (c_isSettingT (by decide)) rfl (by decide) (Nat.le_of_ble_eq_true rfl) (Nat.le_refl _) (Nat.le_refl _) rfl dX4_count_1 ?_
      refine ex_if_eq (tgt := 17) dX4_count_4 (by decide) (fun c_4 => absurd c_4 (by decide)) (fun c_4 => ?_)
      refine ex_aload_n 0 dX4_count_7 rfl rfl ?_
      refine ex_get (v := .ref (b + 1)) fl_X4_10 S.1.ob rfl dX4_count_8 ?_
      refine ex_get (v := .ref (b + 1 + 1)) fl_X4_52 S.1.nob rfl dX4_count_11 ?_
      refine ex_iload_n 1 dX4_count_14 rfl rfl ?_
      refine exX_ld (i := 3) (w := u 3) S rfl (by decide) rfl dX4_count_15 ?_
      exact ex_iret hQ rfl (by unfold X_count; rw [if_pos (inR_nI hx (by decide)), ixn (by decide)]; exact ⟨rfl, rfl, S⟩) dX4_count_16
    · refine ex_iload_n 1 dX4_count_0 rfl rfl ?_
      refine ex_callS0 (As := [.int (nI 4)]) (v := .int (nI 1)) vl_X4_37 (c_isSettingT (by decide)) rfl (by decide) (Nat.le_of_ble_eq_true rfl) (Nat.le_refl _) (Nat.le_refl _) rfl dX4_count_1 ?_
      refine ex_if_eq (tgt := 17) dX4_count_4 (by decide) (fun c_4 => absurd c_4 (by decide)) (fun c_4 => ?_)
      refine ex_aload_n 0 dX4_count_7 rfl rfl ?_
      refine ex_get (v := .ref (b + 1)) fl_X4_10 S.1.ob rfl dX4_count_8 ?_
      refine ex_get (v := .ref (b + 1 + 1)) fl_X4_52 S.1.nob rfl dX4_count_11 ?_
      refine ex_iload_n 1 dX4_count_14 rfl rfl ?_
      refine exX_ld (i := 4) (w := u 4) S rfl (by decide) rfl dX4_count_15 ?_
      exact ex_iret hQ rfl (by unfold X_count; rw [if_pos (inR_nI hx (by decide)), ixn (by decide)]; exact ⟨rfl, rfl, S⟩) dX4_count_16
    · refine ex_iload_n 1 dX4_count_0 rfl rfl ?_
      refine ex_callS0 (As := [.int (nI 5)]) (v := .int (nI 1)) vl_X4_37 (c_isSettingT (by decide)) rfl (by decide) (Nat.le_of_ble_eq_true rfl) (Nat.le_refl _) (Nat.le_refl _) rfl dX4_count_1 ?_
      refine ex_if_eq (tgt := 17) dX4_count_4 (by decide) (fun c_4 => absurd c_4 (by decide)) (fun c_4 => ?_)
      refine ex_aload_n 0 dX4_count_7 rfl rfl ?_
      refine ex_get (v := .ref (b + 1)) fl_X4_10 S.1.ob rfl dX4_count_8 ?_
      refine ex_get (v := .ref (b + 1 + 1)) fl_X4_52 S.1.nob rfl dX4_count_11 ?_
      refine ex_iload_n 1 dX4_count_14 rfl rfl ?_
      refine exX_ld (i := 5) (w := u 5) S rfl (by decide) rfl dX4_count_15 ?_
      exact ex_iret hQ rfl (by unfold X_count; rw [if_pos (inR_nI hx (by decide)), ixn (by decide)]; exact ⟨rfl, rfl, S⟩) dX4_count_16
    · refine ex_iload_n 1 dX4_count_0 rfl rfl ?_
      refine ex_callS0 (As := [.int (nI 6)]) (v := .int (nI 0)) vl_X4_37 (c_isSettingF (by decide)) rfl (by decide) (Nat.le_of_ble_eq_true rfl) (Nat.le_refl _) (Nat.le_refl _) rfl dX4_count_1 ?_
      refine ex_if_eq (tgt := 17) dX4_count_4 (by decide) (fun c_4 => ?_) (fun c_4 => absurd (by decide) c_4)
      refine ex_iload_n 1 dX4_count_17 rfl rfl ?_
      refine ex_tableIn (off := 74) (tgt := 92) dX4_count_18 (by decide) (by decide) (by decide) (by decide) ?_
      refine ex_aload_n 0 dX4_count_92 rfl rfl ?_
      refine ex_get (v := .ref (b + 1)) fl_X4_10 S.1.ob rfl dX4_count_93 ?_
      refine ex_get (v := .int (u 6)) fl_X4_112 S.1.nob rfl dX4_count_96 ?_
      exact ex_iret hQ rfl (by unfold X_count; rw [if_pos (inR_nI hx (by decide)), ixn (by decide)]; exact ⟨rfl, rfl, S⟩) dX4_count_99
    · refine ex_iload_n 1 dX4_count_0 rfl rfl ?_
      refine ex_callS0 (As := [.int (nI 7)]) (v := .int (nI 0)) vl_X4_37 (c_isSettingF (by decide)) rfl (by decide) (Nat.le_of_ble_eq_true rfl) (Nat.le_refl _) (Nat.le_refl _) rfl dX4_count_1 ?_
      refine ex_if_eq (tgt := 17) dX4_count_4 (by decide) (fun c_4 => ?_) (fun c_4 => absurd (by decide) c_4)
      refine ex_iload_n 1 dX4_count_17 rfl rfl ?_
      refine ex_tableIn (off := 82) (tgt := 100) dX4_count_18 (by decide) (by decide) (by decide) (by decide) ?_
      refine ex_aload_n 0 dX4_count_100 rfl rfl ?_
      refine ex_get (v := .ref (b + 1)) fl_X4_10 S.1.ob rfl dX4_count_101 ?_
      refine ex_get (v := .int (nI n)) fl_X4_55 S.1.nob rfl dX4_count_104 ?_
      exact ex_iret hQ rfl (by unfold X_count; rw [if_pos (inR_nI hx (by decide)), ixn (by decide)]; exact ⟨rfl, rfl, S⟩) dX4_count_107
    · refine ex_iload_n 1 dX4_count_0 rfl rfl ?_
      refine ex_callS0 (As := [.int (nI 8)]) (v := .int (nI 0)) vl_X4_37 (c_isSettingF (by decide)) rfl (by decide) (Nat.le_of_ble_eq_true rfl) (Nat.le_refl _) (Nat.le_refl _) rfl dX4_count_1 ?_
      refine ex_if_eq (tgt := 17) dX4_count_4 (by decide) (fun c_4 => ?_) (fun c_4 => absurd (by decide) c_4)
      refine ex_iload_n 1 dX4_count_17 rfl rfl ?_
      refine ex_tableIn (off := 90) (tgt := 108) dX4_count_18 (by decide) (by decide) (by decide) (by decide) ?_
      refine ex_aload_n 0 dX4_count_108 rfl rfl ?_
      refine ex_get (v := .ref (b + 1)) fl_X4_10 S.1.ob rfl dX4_count_109 ?_
      refine ex_get (v := .int (u 8)) fl_X4_147 S.1.nob rfl dX4_count_112 ?_
      exact ex_iret hQ rfl (by unfold X_count; rw [if_pos (inR_nI hx (by decide)), ixn (by decide)]; exact ⟨rfl, rfl, S⟩) dX4_count_115
    · refine ex_iload_n 1 dX4_count_0 rfl rfl ?_
      refine ex_callS0 (As := [.int (nI 9)]) (v := .int (nI 0)) vl_X4_37 (c_isSettingF (by decide)) rfl (by decide) (Nat.le_of_ble_eq_true rfl) (Nat.le_refl _) (Nat.le_refl _) rfl dX4_count_1 ?_
      refine ex_if_eq (tgt := 17) dX4_count_4 (by decide) (fun c_4 => ?_) (fun c_4 => absurd (by decide) c_4)
      refine ex_iload_n 1 dX4_count_17 rfl rfl ?_
      refine ex_tableIn (off := 98) (tgt := 116) dX4_count_18 (by decide) (by decide) (by decide) (by decide) ?_
      refine ex_aload_n 0 dX4_count_116 rfl rfl ?_
      refine ex_get (v := .ref (b + 1)) fl_X4_10 S.1.ob rfl dX4_count_117 ?_
      refine ex_get (v := .int (gv g)) fl_X4_89 S.1.nob rfl dX4_count_120 ?_
      exact ex_iret hQ rfl (by unfold X_count; rw [if_pos (inR_nI hx (by decide)), ixn (by decide)]; exact ⟨rfl, rfl, S⟩) dX4_count_123
    · rcases g with _ | i
      · refine ex_iload_n 1 dX4_count_0 rfl rfl ?_
        refine ex_callS0 (As := [.int (nI 10)]) (v := .int (nI 0)) vl_X4_37 (c_isSettingF (by decide)) rfl (by decide) (Nat.le_of_ble_eq_true rfl) (Nat.le_refl _) (Nat.le_refl _) rfl dX4_count_1 ?_
        refine ex_if_eq (tgt := 17) dX4_count_4 (by decide) (fun c_4 => ?_) (fun c_4 => absurd (by decide) c_4)
        refine ex_iload_n 1 dX4_count_17 rfl rfl ?_
        refine ex_tableIn (off := 106) (tgt := 124) dX4_count_18 (by decide) (by decide) (by decide) (by decide) ?_
        refine ex_aload_n 0 dX4_count_124 rfl rfl ?_
        refine ex_get (v := .ref (b + 1)) fl_X4_10 S.1.ob rfl dX4_count_125 ?_
        refine ex_get (v := .int (-6)) fl_X4_89 S.1.nob rfl dX4_count_128 ?_
        refine ex_bipush (v := (-6)) dX4_count_131 (by decide) ?_
        refine ex_icmp_ne (tgt := 146) dX4_count_133 (by decide) (fun c_133 => absurd (rfl) c_133) (fun c_133 => ?_)
        refine ex_aload_n 0 dX4_count_136 rfl rfl ?_
        refine ex_get (v := .ref (b + 1)) fl_X4_10 S.1.ob rfl dX4_count_137 ?_
        refine ex_get (v := .int (nI t)) fl_X4_150 S.1.nob rfl dX4_count_140 ?_
        refine ex_goto (tgt := 148) dX4_count_143 (by decide) ?_
        exact ex_iret hQ rfl (by unfold X_count; rw [if_pos (inR_nI hx (by decide)), ixn (by decide)]; exact ⟨rfl, rfl, S⟩) dX4_count_148
      · have hi : i < n := gw i rfl
        refine ex_iload_n 1 dX4_count_0 rfl rfl ?_
        refine ex_callS0 (As := [.int (nI 10)]) (v := .int (nI 0)) vl_X4_37 (c_isSettingF (by decide)) rfl (by decide) (Nat.le_of_ble_eq_true rfl) (Nat.le_refl _) (Nat.le_refl _) rfl dX4_count_1 ?_
        refine ex_if_eq (tgt := 17) dX4_count_4 (by decide) (fun c_4 => ?_) (fun c_4 => absurd (by decide) c_4)
        refine ex_iload_n 1 dX4_count_17 rfl rfl ?_
        refine ex_tableIn (off := 106) (tgt := 124) dX4_count_18 (by decide) (by decide) (by decide) (by decide) ?_
        refine ex_aload_n 0 dX4_count_124 rfl rfl ?_
        refine ex_get (v := .ref (b + 1)) fl_X4_10 S.1.ob rfl dX4_count_125 ?_
        refine ex_get (v := .int (nI i)) fl_X4_89 S.1.nob rfl dX4_count_128 ?_
        refine ex_bipush (v := (-6)) dX4_count_131 (by decide) ?_
        refine ex_icmp_ne (tgt := 146) dX4_count_133 (by decide) (fun c_133 => ?_) (fun c_133 => absurd c_133 (nI_n6 (by omega)))
        refine ex_bipush (v := (-6)) dX4_count_146 (by decide) ?_
        exact ex_iret hQ rfl (by unfold X_count; rw [if_pos (inR_nI hx (by decide)), ixn (by decide)]; exact ⟨rfl, rfl, S⟩) dX4_count_148
    · refine ex_iload_n 1 dX4_count_0 rfl rfl ?_
      refine ex_callS0 (As := [.int (nI 11)]) (v := .int (nI 0)) vl_X4_37 (c_isSettingF (by decide)) rfl (by decide) (Nat.le_of_ble_eq_true rfl) (Nat.le_refl _) (Nat.le_refl _) rfl dX4_count_1 ?_
      refine ex_if_eq (tgt := 17) dX4_count_4 (by decide) (fun c_4 => ?_) (fun c_4 => absurd (by decide) c_4)
      refine ex_iload_n 1 dX4_count_17 rfl rfl ?_
      refine ex_tableIn (off := 131) (tgt := 149) dX4_count_18 (by decide) (by decide) (by decide) (by decide) ?_
      refine ex_aload_n 0 dX4_count_149 rfl rfl ?_
      refine ex_get (v := .ref (b + 1)) fl_X4_10 S.1.ob rfl dX4_count_150 ?_
      refine ex_get (v := .int (u 11)) fl_X4_105 S.1.nob rfl dX4_count_153 ?_
      exact ex_iret hQ rfl (by unfold X_count; rw [if_pos (inR_nI hx (by decide)), ixn (by decide)]; exact ⟨rfl, rfl, S⟩) dX4_count_156
    · refine ex_iload_n 1 dX4_count_0 rfl rfl ?_
      refine ex_callS0 (As := [.int (nI 12)]) (v := .int (nI 0)) vl_X4_37 (c_isSettingF (by decide)) rfl (by decide) (Nat.le_of_ble_eq_true rfl) (Nat.le_refl _) (Nat.le_refl _) rfl dX4_count_1 ?_
      refine ex_if_eq (tgt := 17) dX4_count_4 (by decide) (fun c_4 => ?_) (fun c_4 => absurd (by decide) c_4)
      refine ex_iload_n 1 dX4_count_17 rfl rfl ?_
      refine ex_tableIn (off := 139) (tgt := 157) dX4_count_18 (by decide) (by decide) (by decide) (by decide) ?_
      refine ex_aload_n 0 dX4_count_157 rfl rfl ?_
      refine ex_get (v := .ref (b + 1)) fl_X4_10 S.1.ob rfl dX4_count_158 ?_
      refine ex_call0 (As := []) (v := .int (sumB u q n)) (ci := 3) vl_X4_153 rfl (c_barredPeople hN n8) hN.ob rfl (by decide) (Nat.le_of_ble_eq_true rfl) (Nat.le_refl _) (Nat.le_refl _) rfl dX4_count_161 ?_
      exact ex_iret hQ rfl (by unfold X_count; rw [if_pos (inR_nI hx (by decide)), ixn (by decide)]; exact ⟨rfl, rfl, S⟩) dX4_count_164
    · refine ex_iload_n 1 dX4_count_0 rfl rfl ?_
      refine ex_callS0 (As := [.int (nI 13)]) (v := .int (nI 0)) vl_X4_37 (c_isSettingF (by decide)) rfl (by decide) (Nat.le_of_ble_eq_true rfl) (Nat.le_refl _) (Nat.le_refl _) rfl dX4_count_1 ?_
      refine ex_if_eq (tgt := 17) dX4_count_4 (by decide) (fun c_4 => ?_) (fun c_4 => absurd (by decide) c_4)
      refine ex_iload_n 1 dX4_count_17 rfl rfl ?_
      refine ex_tableIn (off := 147) (tgt := 165) dX4_count_18 (by decide) (by decide) (by decide) (by decide) ?_
      refine ex_aload_n 0 dX4_count_165 rfl rfl ?_
      refine ex_get (v := .ref (b + 1)) fl_X4_10 S.1.ob rfl dX4_count_166 ?_
      refine ex_get (v := .int (u 12)) fl_X4_156 S.1.nob rfl dX4_count_169 ?_
      exact ex_iret hQ rfl (by unfold X_count; rw [if_pos (inR_nI hx (by decide)), ixn (by decide)]; exact ⟨rfl, rfl, S⟩) dX4_count_172
    · refine ex_iload_n 1 dX4_count_0 rfl rfl ?_
      refine ex_callS0 (As := [.int (nI 14)]) (v := .int (nI 0)) vl_X4_37 (c_isSettingF (by decide)) rfl (by decide) (Nat.le_of_ble_eq_true rfl) (Nat.le_refl _) (Nat.le_refl _) rfl dX4_count_1 ?_
      refine ex_if_eq (tgt := 17) dX4_count_4 (by decide) (fun c_4 => ?_) (fun c_4 => absurd (by decide) c_4)
      refine ex_iload_n 1 dX4_count_17 rfl rfl ?_
      refine ex_tableIn (off := 155) (tgt := 173) dX4_count_18 (by decide) (by decide) (by decide) (by decide) ?_
      refine ex_aload_n 0 dX4_count_173 rfl rfl ?_
      refine ex_get (v := .ref (b + 1)) fl_X4_10 S.1.ob rfl dX4_count_174 ?_
      refine ex_get (v := .int (u 13)) fl_X4_115 S.1.nob rfl dX4_count_177 ?_
      exact ex_iret hQ rfl (by unfold X_count; rw [if_pos (inR_nI hx (by decide)), ixn (by decide)]; exact ⟨rfl, rfl, S⟩) dX4_count_180
    · refine ex_iload_n 1 dX4_count_0 rfl rfl ?_
      refine ex_callS0 (As := [.int (nI 15)]) (v := .int (nI 0)) vl_X4_37 (c_isSettingF (by decide)) rfl (by decide) (Nat.le_of_ble_eq_true rfl) (Nat.le_refl _) (Nat.le_refl _) rfl dX4_count_1 ?_
      refine ex_if_eq (tgt := 17) dX4_count_4 (by decide) (fun c_4 => ?_) (fun c_4 => absurd (by decide) c_4)
      refine ex_iload_n 1 dX4_count_17 rfl rfl ?_
      refine ex_tableIn (off := 163) (tgt := 181) dX4_count_18 (by decide) (by decide) (by decide) (by decide) ?_
      refine ex_aload_n 0 dX4_count_181 rfl rfl ?_
      refine ex_get (v := .ref (b + 1)) fl_X4_10 S.1.ob rfl dX4_count_182 ?_
      refine ex_get (v := .int (u 14)) fl_X4_157 S.1.nob rfl dX4_count_185 ?_
      exact ex_iret hQ rfl (by unfold X_count; rw [if_pos (inR_nI hx (by decide)), ixn (by decide)]; exact ⟨rfl, rfl, S⟩) dX4_count_188
    · refine ex_iload_n 1 dX4_count_0 rfl rfl ?_
      refine ex_callS0 (As := [.int (nI 16)]) (v := .int (nI 0)) vl_X4_37 (c_isSettingF (by decide)) rfl (by decide) (Nat.le_of_ble_eq_true rfl) (Nat.le_refl _) (Nat.le_refl _) rfl dX4_count_1 ?_
      refine ex_if_eq (tgt := 17) dX4_count_4 (by decide) (fun c_4 => ?_) (fun c_4 => absurd (by decide) c_4)
      refine ex_iload_n 1 dX4_count_17 rfl rfl ?_
      refine ex_tableIn (off := 171) (tgt := 189) dX4_count_18 (by decide) (by decide) (by decide) (by decide) ?_
      refine ex_aload_n 0 dX4_count_189 rfl rfl ?_
      refine ex_get (v := .ref (b + 1)) fl_X4_10 S.1.ob rfl dX4_count_190 ?_
      refine ex_get (v := .int (u 15)) fl_X4_160 S.1.nob rfl dX4_count_193 ?_
      exact ex_iret hQ rfl (by unfold X_count; rw [if_pos (inR_nI hx (by decide)), ixn (by decide)]; exact ⟨rfl, rfl, S⟩) dX4_count_196
    · refine ex_iload_n 1 dX4_count_0 rfl rfl ?_
      refine ex_callS0 (As := [.int (nI 17)]) (v := .int (nI 0)) vl_X4_37 (c_isSettingF (by decide)) rfl (by decide) (Nat.le_of_ble_eq_true rfl) (Nat.le_refl _) (Nat.le_refl _) rfl dX4_count_1 ?_
      refine ex_if_eq (tgt := 17) dX4_count_4 (by decide) (fun c_4 => ?_) (fun c_4 => absurd (by decide) c_4)
      refine ex_iload_n 1 dX4_count_17 rfl rfl ?_
      refine ex_tableIn (off := 179) (tgt := 197) dX4_count_18 (by decide) (by decide) (by decide) (by decide) ?_
      refine ex_aload_n 0 dX4_count_197 rfl rfl ?_
      refine ex_get (v := .ref (b + 1)) fl_X4_10 S.1.ob rfl dX4_count_198 ?_
      refine ex_call0 (As := []) (v := .int (sumP q n)) (ci := 3) vl_X4_163 rfl (c_allPurses hN n8) hN.ob rfl (by decide) (Nat.le_of_ble_eq_true rfl) (Nat.le_refl _) (Nat.le_refl _) rfl dX4_count_201 ?_
      exact ex_iret hQ rfl (by unfold X_count; rw [if_pos (inR_nI hx (by decide)), ixn (by decide)]; exact ⟨rfl, rfl, S⟩) dX4_count_204
    · refine ex_iload_n 1 dX4_count_0 rfl rfl ?_
      refine ex_callS0 (As := [.int (nI 18)]) (v := .int (nI 0)) vl_X4_37 (c_isSettingF (by decide)) rfl (by decide) (Nat.le_of_ble_eq_true rfl) (Nat.le_refl _) (Nat.le_refl _) rfl dX4_count_1 ?_
      refine ex_if_eq (tgt := 17) dX4_count_4 (by decide) (fun c_4 => ?_) (fun c_4 => absurd (by decide) c_4)
      refine ex_iload_n 1 dX4_count_17 rfl rfl ?_
      refine ex_tableIn (off := 187) (tgt := 205) dX4_count_18 (by decide) (by decide) (by decide) (by decide) ?_
      refine ex_aload_n 0 dX4_count_205 rfl rfl ?_
      refine ex_get (v := .ref (b + 1)) fl_X4_10 S.1.ob rfl dX4_count_206 ?_
      refine ex_get (v := .int (u 16)) fl_X4_109 S.1.nob rfl dX4_count_209 ?_
      exact ex_iret hQ rfl (by unfold X_count; rw [if_pos (inR_nI hx (by decide)), ixn (by decide)]; exact ⟨rfl, rfl, S⟩) dX4_count_212
    · refine ex_iload_n 1 dX4_count_0 rfl rfl ?_
      refine ex_callS0 (As := [.int (nI 19)]) (v := .int (nI 0)) vl_X4_37 (c_isSettingF (by decide)) rfl (by decide) (Nat.le_of_ble_eq_true rfl) (Nat.le_refl _) (Nat.le_refl _) rfl dX4_count_1 ?_
      refine ex_if_eq (tgt := 17) dX4_count_4 (by decide) (fun c_4 => ?_) (fun c_4 => absurd (by decide) c_4)
      refine ex_iload_n 1 dX4_count_17 rfl rfl ?_
      refine ex_tableIn (off := 195) (tgt := 213) dX4_count_18 (by decide) (by decide) (by decide) (by decide) ?_
      refine ex_aload_n 0 dX4_count_213 rfl rfl ?_
      refine ex_get (v := .ref (b + 92)) fl_X4_33 S.1.ob rfl dX4_count_214 ?_
      refine ex_get (v := .int (nI len)) fl_X4_73 S.1.pob rfl dX4_count_217 ?_
      exact ex_iret hQ rfl (by unfold X_count; rw [if_pos (inR_nI hx (by decide)), ixn (by decide)]; exact ⟨rfl, rfl, S⟩) dX4_count_220
    · refine ex_iload_n 1 dX4_count_0 rfl rfl ?_
      refine ex_callS0 (As := [.int (nI 20)]) (v := .int (nI 0)) vl_X4_37 (c_isSettingF (by decide)) rfl (by decide) (Nat.le_of_ble_eq_true rfl) (Nat.le_refl _) (Nat.le_refl _) rfl dX4_count_1 ?_
      refine ex_if_eq (tgt := 17) dX4_count_4 (by decide) (fun c_4 => ?_) (fun c_4 => absurd (by decide) c_4)
      refine ex_iload_n 1 dX4_count_17 rfl rfl ?_
      refine ex_tableIn (off := 203) (tgt := 221) dX4_count_18 (by decide) (by decide) (by decide) (by decide) ?_
      refine ex_aload_n 0 dX4_count_221 rfl rfl ?_
      refine ex_get (v := .ref (b + 23)) fl_X4_22 S.1.ob rfl dX4_count_222 ?_
      refine ex_get (v := .int (nI k)) fl_X4_166 S.1.hob rfl dX4_count_225 ?_
      exact ex_iret hQ rfl (by unfold X_count; rw [if_pos (inR_nI hx (by decide)), ixn (by decide)]; exact ⟨rfl, rfl, S⟩) dX4_count_228
  · have h6 : ¬ inR x 6 := fun q9 => hx ⟨q9.1, Int32.lt_of_lt_of_le q9.2 (by decide)⟩
    refine ex_iload_n 1 dX4_count_0 rfl rfl ?_
    refine ex_callS0 (As := [.int x]) (v := .int (nI 0)) vl_X4_37 (c_isSettingF h6) rfl (by decide) (Nat.le_of_ble_eq_true rfl) (Nat.le_refl _) (Nat.le_refl _) rfl dX4_count_1 ?_
    refine ex_if_eq (tgt := 17) dX4_count_4 (by decide) (fun c_4 => ?_) (fun c_4 => absurd (by decide) c_4)
    refine ex_iload_n 1 dX4_count_17 rfl rfl ?_
    refine ex_tableOut (tgt := 229) dX4_count_18 ((tabc hx (by decide)).imp (fun q9 => by have : ((0 : Nat) : Int) = 0 := rfl; omega) (fun q9 => q9)) (by decide) ?_
    refine ex_bipush (v := (-2)) dX4_count_229 (by decide) ?_
    exact ex_iret hQ rfl (by unfold X_count; rw [if_neg hx]; exact ⟨rfl, rfl, S⟩) dX4_count_231

set_option maxRecDepth 20000 in
set_option maxHeartbeats 2000000 in
theorem c_next {G : GG} {l : Launch} {h0 : HP} {z b : Nat} {n : Nat} {g : Option Nat} {t : Nat} {u : Nat → Int32} {q : Nat → Nat → Int32} {k len : Nat} {L : Nat → AS} {V : Nat → Option AS} {c : Nat → Nat} (S0 : PP G h0 z b ((n, g, t, u, q), k, L, V, len, c)) (wf : wfA (n, g, t, u, q)) (m3 : 0 < u 3) {x : Int32} : Ct G l 4 0 0 yX4_next cX4_next 4 (some .int) [.ref b, .int x] h0 z (pX G (X_next ((n, g, t, u, q), k, L, V, len, c) x, ((n, g, t, u, q), k, L, V, len, c)) h0 z b) := by
  refine Ct.intro (lv := [(0, .ref b), (1, .int x)]) (by decide +kernel) (Nat.le_of_ble_eq_true rfl) rfl (fun X Q hQ hnm => ?_)
  have S := S0.xf
  have n8 : n ≤ 8 := wf.1
  by_cases hx : x = 0 ∨ x = nI 1
  · have TL : ex G l X Q 4 0 0 0 0 cX4_next yX4_next.cls 4 (some .int) h0 z 12 [(0, .ref b), (1, .int x)] [] := by
      refine ex_aload_n 0 dX4_next_12 rfl rfl ?_
      refine ex_get (v := .ref (b + 12)) fl_X4_16 S.1.ob rfl dX4_next_13 ?_
      refine ex_aload_n 0 dX4_next_16 rfl rfl ?_
      refine ex_get (v := .ref (b + 1)) fl_X4_10 S.1.ob rfl dX4_next_17 ?_
      refine exX_copyT vl_X4_167 S n8 (by decide) (Nat.le_of_ble_eq_true rfl) (Nat.le_refl _) (Nat.le_refl _) rfl dX4_next_20 (fun h π S T => ?_)
      refine ex_iconst (v := nI 1) dX4_next_23 (by decide) ?_
      refine ex_istore_n (lv' := [(2, .int (nI 1)), (0, .ref b), (1, .int x)]) dX4_next_24 rfl (by decide) rfl ?_
      suffices H : ∀ (k2 d : Nat) (h : HP), d + k2 = 500 → XF G h0 h z b ((n, g, t, u, q), k, L, V, len, c) → SP G h (b + 12) π (itA d (n, g, t, u, q)) → nxG (n, g, t, u, q) x k2 d = nxG (n, g, t, u, q) x 500 0 → ex G l X Q 4 0 0 0 0 cX4_next yX4_next.cls 4 (some .int) h z 25 [(2, .int (nI (d + 1))), (1, .int x), (0, .ref b)] [] from by
        have e2 := H 500 0 h (by omega) S T rfl
        refine ex_lv (lv2 := [(2, .int (nI 1)), (1, .int x), (0, .ref b)]) [0, 2, 1] rfl ?_
        exact e2
      intro k2
      induction k2 with
      | zero =>
        intro d h hd S T hh
        refine ex_iload_n 0 dX4_next_25 rfl rfl ?_
        refine ex_sipush (v := nI 500) dX4_next_26 (by decide) ?_
        refine ex_icmp_gt (tgt := 62) dX4_next_29 (by decide) (fun c_29 => ?_) (fun c_29 => absurd ((nI_ltI (by omega) (by omega)).mpr (by omega)) c_29)
        refine ex_bipush (v := (-6)) dX4_next_62 (by decide) ?_
        exact ex_iret hQ rfl (by unfold X_next; rw [if_pos hx]; exact ⟨congrArg (fun x => some (Value.int x)) hh, rfl, S⟩) dX4_next_64
      | succ k2 ih =>
        intro d h hd S T hh
        rw [nxG] at hh
        refine ex_iload_n 0 dX4_next_25 rfl rfl ?_
        refine ex_sipush (v := nI 500) dX4_next_26 (by decide) ?_
        refine ex_icmp_gt (tgt := 62) dX4_next_29 (by decide) (fun c_29 => absurd c_29 (fun q9 => absurd ((nI_ltI (by omega) (by omega)).mp q9) (by omega))) (fun c_29 => ?_)
        refine ex_aload_n 2 dX4_next_32 rfl rfl ?_
        refine ex_get (v := .ref (b + 12)) fl_X4_16 S.1.ob rfl dX4_next_33 ?_
        refine exX_trial (As := []) (r0 := (some (.int (gv (dayR (itA d (n, g, t, u, q))))))) (π1 := π) (B := itA (d + 1) (n, g, t, u, q)) vl_X4_170 rfl S T (c_liveDay T (itA_wf wf d) (by rw [itA_u (by decide)]; exact m3)) rfl (by decide) (Nat.le_of_ble_eq_true rfl) (Nat.le_refl _) (Nat.le_refl _) rfl dX4_next_36 (fun h S T => ?_)
        rcases hr : dayR (itA d (n, g, t, u, q)) with _ | j
        · rw [hr] at hh
          refine ex_istore_n (lv' := [(3, .int (-6)), (2, .int (nI (d + 1))), (1, .int x), (0, .ref b)]) dX4_next_39 rfl (by decide) rfl ?_
          refine ex_iload_n 0 dX4_next_40 rfl rfl ?_
          refine ex_bipush (v := (-6)) dX4_next_41 (by decide) ?_
          refine ex_icmp_eq (tgt := 56) dX4_next_43 (by decide) (fun c_43 => ?_) (fun c_43 => absurd (rfl) c_43)
          refine ex_iinc (v := nI (d + 1 + 1)) (lv' := [(2, .int (nI (d + 1 + 1))), (3, .int (-6)), (1, .int x), (0, .ref b)]) 1 dX4_next_56 rfl (nI_1 (d + 1)) (by decide) rfl ?_
          refine ex_goto (tgt := 25) dX4_next_59 (by decide) ?_
          have e2 := ih (d + 1) h (by omega) S T hh
          refine ex_lv (lv2 := [(2, .int (nI (d + 1 + 1))), (1, .int x), (0, .ref b)]) [0, 2, 3] rfl ?_
          exact e2
        · rw [hr] at hh
          have hj : j < n := by have := dayR_lt (itA_wf wf d) hr; rw [itA_1] at this; exact this
          refine ex_istore_n (lv' := [(3, .int (nI j)), (2, .int (nI (d + 1))), (1, .int x), (0, .ref b)]) dX4_next_39 rfl (by decide) rfl ?_
          refine ex_iload_n 0 dX4_next_40 rfl rfl ?_
          refine ex_bipush (v := (-6)) dX4_next_41 (by decide) ?_
          refine ex_icmp_eq (tgt := 56) dX4_next_43 (by decide) (fun c_43 => absurd c_43 (nI_n6 (by omega))) (fun c_43 => ?_)
          refine ex_iload_n 2 dX4_next_46 rfl rfl ?_
          refine ex_if_ne (tgt := 54) dX4_next_47 (by decide) (fun c_47 => ?_) (fun c_47 => ?_)
          · refine ex_iload_n 1 dX4_next_54 rfl rfl ?_
            exact ex_iret hQ rfl (by unfold X_next; rw [if_pos hx, ← hh]; dsimp only; first | (rw [if_pos c_47]; exact ⟨rfl, rfl, S⟩) | (rw [if_neg c_47]; exact ⟨rfl, rfl, S⟩)) dX4_next_55
          · refine ex_iload_n 0 dX4_next_50 rfl rfl ?_
            refine ex_goto (tgt := 55) dX4_next_51 (by decide) ?_
            exact ex_iret hQ rfl (by unfold X_next; rw [if_pos hx, ← hh]; dsimp only; first | (rw [if_pos c_47]; exact ⟨rfl, rfl, S⟩) | (rw [if_neg c_47]; exact ⟨rfl, rfl, S⟩)) dX4_next_55
    refine ex_iload_n 1 dX4_next_0 rfl rfl ?_
    refine ex_if_eq (tgt := 12) dX4_next_1 (by decide) (fun c_1 => ?_) (fun c_1 => ?_)
    · exact TL
    · refine ex_iload_n 1 dX4_next_4 rfl rfl ?_
      refine ex_iconst (v := nI 1) dX4_next_5 (by decide) ?_
      refine ex_icmp_eq (tgt := 12) dX4_next_6 (by decide) (fun c_6 => ?_) (fun c_6 => ?_)
      · exact TL
      · exact absurd hx (fun q9 => q9.elim c_1 c_6)
  · refine ex_iload_n 1 dX4_next_0 rfl rfl ?_
    refine ex_if_eq (tgt := 12) dX4_next_1 (by decide) (fun c_1 => ?_) (fun c_1 => ?_)
    · exact absurd (by first | exact Or.inl c_1 | exact Or.inr c_6) hx
    · refine ex_iload_n 1 dX4_next_4 rfl rfl ?_
      refine ex_iconst (v := nI 1) dX4_next_5 (by decide) ?_
      refine ex_icmp_eq (tgt := 12) dX4_next_6 (by decide) (fun c_6 => ?_) (fun c_6 => ?_)
      · exact absurd (by first | exact Or.inl c_1 | exact Or.inr c_6) hx
      · refine ex_bipush (v := (-2)) dX4_next_9 (by decide) ?_
        exact ex_iret hQ rfl (by unfold X_next; rw [if_neg hx]; exact ⟨rfl, rfl, S⟩) dX4_next_11

set_option maxRecDepth 20000 in
set_option maxHeartbeats 2000000 in
theorem c_untilEmpty {G : GG} {l : Launch} {h0 : HP} {z b : Nat} {n : Nat} {g : Option Nat} {t : Nat} {u : Nat → Int32} {q : Nat → Nat → Int32} {k len : Nat} {L : Nat → AS} {V : Nat → Option AS} {c : Nat → Nat} (S0 : PP G h0 z b ((n, g, t, u, q), k, L, V, len, c)) (wf : wfA (n, g, t, u, q)) (m3 : 0 < u 3) : Ct G l 4 0 0 yX4_untilEmpty cX4_untilEmpty 2 (some .int) [.ref b] h0 z (pX G (X_untilEmpty ((n, g, t, u, q), k, L, V, len, c), ((n, g, t, u, q), k, L, V, len, c)) h0 z b) := by
  refine Ct.intro (lv := [(0, .ref b)]) (by decide +kernel) (Nat.le_of_ble_eq_true rfl) rfl (fun X Q hQ hnm => ?_)
  have S := S0.xf
  have n8 : n ≤ 8 := wf.1
  refine ex_aload_n 0 dX4_untilEmpty_0 rfl rfl ?_
  refine ex_get (v := .ref (b + 12)) fl_X4_16 S.1.ob rfl dX4_untilEmpty_1 ?_
  refine ex_aload_n 0 dX4_untilEmpty_4 rfl rfl ?_
  refine ex_get (v := .ref (b + 1)) fl_X4_10 S.1.ob rfl dX4_untilEmpty_5 ?_
  refine exX_copyT vl_X4_167 S n8 (by decide) (Nat.le_of_ble_eq_true rfl) (Nat.le_refl _) (Nat.le_refl _) rfl dX4_untilEmpty_8 (fun h π S T => ?_)
  refine ex_iconst (v := nI 0) dX4_untilEmpty_11 (by decide) ?_
  refine ex_istore_n (lv' := [(1, .int (nI 0)), (0, .ref b)]) dX4_untilEmpty_12 rfl (by decide) rfl ?_
  suffices H : ∀ (k2 d : Nat) (h : HP), d + k2 = 2001 → XF G h0 h z b ((n, g, t, u, q), k, L, V, len, c) → SP G h (b + 12) π (itA d (n, g, t, u, q)) → ueG (n, g, t, u, q) k2 d = ueG (n, g, t, u, q) 2001 0 → ex G l X Q 4 0 0 0 0 cX4_untilEmpty yX4_untilEmpty.cls 2 (some .int) h z 13 [(1, .int (nI d)), (0, .ref b)] [] from by
    have e2 := H 2001 0 h (by omega) S T rfl
    refine ex_lv (lv2 := [(1, .int (nI 0)), (0, .ref b)]) [0, 1] rfl ?_
    exact e2
  intro k2
  induction k2 with
  | zero =>
    intro d h hd S T hh
    refine ex_iload_n 0 dX4_untilEmpty_13 rfl rfl ?_
    refine ex_sipush (v := nI 2000) dX4_untilEmpty_14 (by decide) ?_
    refine ex_icmp_gt (tgt := 46) dX4_untilEmpty_17 (by decide) (fun c_17 => ?_) (fun c_17 => absurd ((nI_ltI (by omega) (by omega)).mpr (by omega)) c_17)
    refine ex_bipush (v := (-6)) dX4_untilEmpty_46 (by decide) ?_
    exact ex_iret hQ rfl (by exact ⟨congrArg (fun x => some (Value.int x)) hh, rfl, S⟩) dX4_untilEmpty_48
  | succ k2 ih =>
    intro d h hd S T hh
    rw [ueG] at hh
    refine ex_iload_n 0 dX4_untilEmpty_13 rfl rfl ?_
    refine ex_sipush (v := nI 2000) dX4_untilEmpty_14 (by decide) ?_
    refine ex_icmp_gt (tgt := 46) dX4_untilEmpty_17 (by decide) (fun c_17 => absurd c_17 (fun q9 => absurd ((nI_ltI (by omega) (by omega)).mp q9) (by omega))) (fun c_17 => ?_)
    refine ex_aload_n 1 dX4_untilEmpty_20 rfl rfl ?_
    refine ex_get (v := .ref (b + 12)) fl_X4_16 S.1.ob rfl dX4_untilEmpty_21 ?_
    refine ex_get (v := .int ((itA d (n, g, t, u, q)).2.2.2.1 11)) fl_X4_105 T.ob rfl dX4_untilEmpty_24 ?_
    refine ex_if_ne (tgt := 32) dX4_untilEmpty_27 (by decide) (fun c_27 => ?_) (fun c_27 => ?_)
    · refine ex_aload_n 1 dX4_untilEmpty_32 rfl rfl ?_
      refine ex_get (v := .ref (b + 12)) fl_X4_16 S.1.ob rfl dX4_untilEmpty_33 ?_
      refine exX_trial (As := []) (r0 := (some (.int (gv (dayR (itA d (n, g, t, u, q))))))) (π1 := π) (B := itA (d + 1) (n, g, t, u, q)) vl_X4_170 rfl S T (c_liveDay T (itA_wf wf d) (by rw [itA_u (by decide)]; exact m3)) rfl (by decide) (Nat.le_of_ble_eq_true rfl) (Nat.le_refl _) (Nat.le_refl _) rfl dX4_untilEmpty_36 (fun h S T => ?_)
      refine ex_pop dX4_untilEmpty_39 rfl ?_
      refine ex_iinc (v := nI (d + 1)) (lv' := [(1, .int (nI (d + 1))), (0, .ref b)]) 0 dX4_untilEmpty_40 rfl (nI_1 d) (by decide) rfl ?_
      refine ex_goto (tgt := 13) dX4_untilEmpty_43 (by decide) ?_
      have e2 := ih (d + 1) h (by omega) S T (by rw [← hh, if_neg c_27])
      refine ex_lv (lv2 := [(1, .int (nI (d + 1))), (0, .ref b)]) [0, 1] rfl ?_
      exact e2
    · refine ex_iload_n 0 dX4_untilEmpty_30 rfl rfl ?_
      exact ex_iret hQ rfl (by rw [if_pos c_27] at hh; exact ⟨congrArg (fun x => some (Value.int x)) hh, rfl, S⟩) dX4_untilEmpty_31

set_option maxRecDepth 20000 in
set_option maxHeartbeats 2000000 in
theorem c_ifPassed {G : GG} {l : Launch} {h0 : HP} {z b : Nat} {n : Nat} {g : Option Nat} {t : Nat} {u : Nat → Int32} {q : Nat → Nat → Int32} {k len : Nat} {L : Nat → AS} {V : Nat → Option AS} {c : Nat → Nat} (S0 : PP G h0 z b ((n, g, t, u, q), k, L, V, len, c)) (wf : wfA (n, g, t, u, q)) (m3 : 0 < u 3) {v x : Int32} : Ct G l 5 0 0 yX4_ifPassed cX4_ifPassed 3 (some .int) [.ref b, .int v, .int x] h0 z (pX G (X_ifPassed ((n, g, t, u, q), k, L, V, len, c) v x, ((n, g, t, u, q), k, L, V, len, c)) h0 z b) := by
  refine Ct.intro (lv := [(0, .ref b), (1, .int v), (2, .int x)]) (by decide +kernel) (Nat.le_of_ble_eq_true rfl) rfl (fun X Q hQ hnm => ?_)
  have S := S0.xf
  have n8 : n ≤ 8 := wf.1
  refine ex_iload_n 1 dX4_ifPassed_0 rfl rfl ?_
  refine ex_iconst (v := nI 1) dX4_ifPassed_1 (by decide) ?_
  refine ex_icmp_lt (tgt := 21) dX4_ifPassed_2 (by decide) (fun c_2 => ?_) (fun c_2 => ?_)
  · refine ex_bipush (v := (-2)) dX4_ifPassed_21 (by decide) ?_
    exact ex_iret hQ rfl (by unfold X_ifPassed; rw [if_pos (by first | exact Or.inl c_2 | exact Or.inr (Or.inl c_9) | exact Or.inr (Or.inr (Or.inl c_13)) | exact Or.inr (Or.inr (Or.inr (Int32.not_le.mp c_18))))]; exact ⟨rfl, rfl, S⟩) dX4_ifPassed_23
  · refine ex_iload_n 1 dX4_ifPassed_5 rfl rfl ?_
    refine ex_sipush (v := nI 500) dX4_ifPassed_6 (by decide) ?_
    refine ex_icmp_gt (tgt := 21) dX4_ifPassed_9 (by decide) (fun c_9 => ?_) (fun c_9 => ?_)
    · refine ex_bipush (v := (-2)) dX4_ifPassed_21 (by decide) ?_
      exact ex_iret hQ rfl (by unfold X_ifPassed; rw [if_pos (by first | exact Or.inl c_2 | exact Or.inr (Or.inl c_9) | exact Or.inr (Or.inr (Or.inl c_13)) | exact Or.inr (Or.inr (Or.inr (Int32.not_le.mp c_18))))]; exact ⟨rfl, rfl, S⟩) dX4_ifPassed_23
    · refine ex_iload_n 2 dX4_ifPassed_12 rfl rfl ?_
      refine ex_if_lt (tgt := 21) dX4_ifPassed_13 (by decide) (fun c_13 => ?_) (fun c_13 => ?_)
      · refine ex_bipush (v := (-2)) dX4_ifPassed_21 (by decide) ?_
        exact ex_iret hQ rfl (by unfold X_ifPassed; rw [if_pos (by first | exact Or.inl c_2 | exact Or.inr (Or.inl c_9) | exact Or.inr (Or.inr (Or.inl c_13)) | exact Or.inr (Or.inr (Or.inr (Int32.not_le.mp c_18))))]; exact ⟨rfl, rfl, S⟩) dX4_ifPassed_23
      · refine ex_iload_n 2 dX4_ifPassed_16 rfl rfl ?_
        refine ex_iconst (v := nI 4) dX4_ifPassed_17 (by decide) ?_
        refine ex_icmp_le (tgt := 24) dX4_ifPassed_18 (by decide) (fun c_18 => ?_) (fun c_18 => ?_)
        · have hc : ¬ (v < nI 1 ∨ nI 500 < v ∨ x < 0 ∨ nI 4 < x) := fun q9 => q9.elim c_2 (fun q9 => q9.elim c_9 (fun q9 => q9.elim c_13 (fun q9 => absurd c_18 (Int32.not_le.mpr q9))))
          obtain ⟨j, j1, j2, rfl⟩ := rngI (by omega) (by omega) c_2 (Int32.not_lt.mp c_9)
          obtain ⟨m, m1, m2, rfl⟩ := rngI (a := 0) (by omega) (by omega) c_13 c_18
          rcases (show m = 0 ∨ m = 1 ∨ m = 2 ∨ m = 3 ∨ m = 4 by omega) with rfl | rfl | rfl | rfl | rfl
          · refine ex_aload_n 0 dX4_ifPassed_24 rfl rfl ?_
            refine ex_get (v := .ref (b + 12)) fl_X4_16 S.1.ob rfl dX4_ifPassed_25 ?_
            refine ex_aload_n 0 dX4_ifPassed_28 rfl rfl ?_
            refine ex_get (v := .ref (b + 1)) fl_X4_10 S.1.ob rfl dX4_ifPassed_29 ?_
            refine exX_copyT vl_X4_167 S n8 (by decide) (Nat.le_of_ble_eq_true rfl) (Nat.le_refl _) (Nat.le_refl _) rfl dX4_ifPassed_32 (fun h π S T => ?_)
            refine ex_aload_n 0 dX4_ifPassed_35 rfl rfl ?_
            refine ex_get (v := .ref (b + 12)) fl_X4_16 S.1.ob rfl dX4_ifPassed_36 ?_
            refine ex_iload_n 1 dX4_ifPassed_39 rfl rfl ?_
            refine exX_trial (As := [.int (nI j)]) (r0 := none) (π1 := π) (B := itA j (n, g, t, u, q)) vl_X4_118 rfl S T (c_liveDays T wf m3 (by omega)) rfl (by decide) (Nat.le_of_ble_eq_true rfl) (Nat.le_refl _) (Nat.le_refl _) rfl dX4_ifPassed_40 (fun h S T => ?_)
            refine ex_iload_n 2 dX4_ifPassed_43 rfl rfl ?_
            refine ex_tableIn (off := 32) (tgt := 76) dX4_ifPassed_44 (by decide) (by decide) (by decide) (by decide) ?_
            refine ex_aload_n 0 dX4_ifPassed_76 rfl rfl ?_
            refine ex_get (v := .ref (b + 12)) fl_X4_16 S.1.ob rfl dX4_ifPassed_77 ?_
            refine ex_get (v := .int ((itA j (n, g, t, u, q)).2.2.2.1 13)) fl_X4_115 T.ob rfl dX4_ifPassed_80 ?_
            refine ex_aload_n 0 dX4_ifPassed_83 rfl rfl ?_
            refine ex_get (v := .ref (b + 1)) fl_X4_10 S.1.ob rfl dX4_ifPassed_84 ?_
            refine ex_get (v := .int (u 13)) fl_X4_115 S.1.nob rfl dX4_ifPassed_87 ?_
            refine ex_isub dX4_ifPassed_90 ?_
            exact ex_iret hQ rfl (by unfold X_ifPassed; rw [if_neg hc, ixn (by omega), ixn (by decide)]; exact ⟨rfl, rfl, S⟩) dX4_ifPassed_91
          · refine ex_aload_n 0 dX4_ifPassed_24 rfl rfl ?_
            refine ex_get (v := .ref (b + 12)) fl_X4_16 S.1.ob rfl dX4_ifPassed_25 ?_
            refine ex_aload_n 0 dX4_ifPassed_28 rfl rfl ?_
            refine ex_get (v := .ref (b + 1)) fl_X4_10 S.1.ob rfl dX4_ifPassed_29 ?_
            refine exX_copyT vl_X4_167 S n8 (by decide) (Nat.le_of_ble_eq_true rfl) (Nat.le_refl _) (Nat.le_refl _) rfl dX4_ifPassed_32 (fun h π S T => ?_)
            refine ex_aload_n 0 dX4_ifPassed_35 rfl rfl ?_
            refine ex_get (v := .ref (b + 12)) fl_X4_16 S.1.ob rfl dX4_ifPassed_36 ?_
            refine ex_iload_n 1 dX4_ifPassed_39 rfl rfl ?_
            refine exX_trial (As := [.int (nI j)]) (r0 := none) (π1 := π) (B := itA j (n, g, t, u, q)) vl_X4_118 rfl S T (c_liveDays T wf m3 (by omega)) rfl (by decide) (Nat.le_of_ble_eq_true rfl) (Nat.le_refl _) (Nat.le_refl _) rfl dX4_ifPassed_40 (fun h S T => ?_)
            refine ex_iload_n 2 dX4_ifPassed_43 rfl rfl ?_
            refine ex_tableIn (off := 48) (tgt := 92) dX4_ifPassed_44 (by decide) (by decide) (by decide) (by decide) ?_
            refine ex_aload_n 0 dX4_ifPassed_92 rfl rfl ?_
            refine ex_get (v := .ref (b + 12)) fl_X4_16 S.1.ob rfl dX4_ifPassed_93 ?_
            refine ex_get (v := .int ((itA j (n, g, t, u, q)).2.2.2.1 12)) fl_X4_156 T.ob rfl dX4_ifPassed_96 ?_
            refine ex_aload_n 0 dX4_ifPassed_99 rfl rfl ?_
            refine ex_get (v := .ref (b + 1)) fl_X4_10 S.1.ob rfl dX4_ifPassed_100 ?_
            refine ex_get (v := .int (u 12)) fl_X4_156 S.1.nob rfl dX4_ifPassed_103 ?_
            refine ex_isub dX4_ifPassed_106 ?_
            exact ex_iret hQ rfl (by unfold X_ifPassed; rw [if_neg hc, ixn (by omega), ixn (by decide)]; exact ⟨rfl, rfl, S⟩) dX4_ifPassed_107
          · refine ex_aload_n 0 dX4_ifPassed_24 rfl rfl ?_
            refine ex_get (v := .ref (b + 12)) fl_X4_16 S.1.ob rfl dX4_ifPassed_25 ?_
            refine ex_aload_n 0 dX4_ifPassed_28 rfl rfl ?_
            refine ex_get (v := .ref (b + 1)) fl_X4_10 S.1.ob rfl dX4_ifPassed_29 ?_
            refine exX_copyT vl_X4_167 S n8 (by decide) (Nat.le_of_ble_eq_true rfl) (Nat.le_refl _) (Nat.le_refl _) rfl dX4_ifPassed_32 (fun h π S T => ?_)
            refine ex_aload_n 0 dX4_ifPassed_35 rfl rfl ?_
            refine ex_get (v := .ref (b + 12)) fl_X4_16 S.1.ob rfl dX4_ifPassed_36 ?_
            refine ex_iload_n 1 dX4_ifPassed_39 rfl rfl ?_
            refine exX_trial (As := [.int (nI j)]) (r0 := none) (π1 := π) (B := itA j (n, g, t, u, q)) vl_X4_118 rfl S T (c_liveDays T wf m3 (by omega)) rfl (by decide) (Nat.le_of_ble_eq_true rfl) (Nat.le_refl _) (Nat.le_refl _) rfl dX4_ifPassed_40 (fun h S T => ?_)
            refine ex_iload_n 2 dX4_ifPassed_43 rfl rfl ?_
            refine ex_tableIn (off := 64) (tgt := 108) dX4_ifPassed_44 (by decide) (by decide) (by decide) (by decide) ?_
            refine ex_aload_n 0 dX4_ifPassed_108 rfl rfl ?_
            refine ex_get (v := .ref (b + 12)) fl_X4_16 S.1.ob rfl dX4_ifPassed_109 ?_
            refine ex_get (v := .int ((itA j (n, g, t, u, q)).2.2.2.1 15)) fl_X4_160 T.ob rfl dX4_ifPassed_112 ?_
            refine ex_aload_n 0 dX4_ifPassed_115 rfl rfl ?_
            refine ex_get (v := .ref (b + 1)) fl_X4_10 S.1.ob rfl dX4_ifPassed_116 ?_
            refine ex_get (v := .int (u 15)) fl_X4_160 S.1.nob rfl dX4_ifPassed_119 ?_
            refine ex_isub dX4_ifPassed_122 ?_
            exact ex_iret hQ rfl (by unfold X_ifPassed; rw [if_neg hc, ixn (by omega), ixn (by decide)]; exact ⟨rfl, rfl, S⟩) dX4_ifPassed_123
          · refine ex_aload_n 0 dX4_ifPassed_24 rfl rfl ?_
            refine ex_get (v := .ref (b + 12)) fl_X4_16 S.1.ob rfl dX4_ifPassed_25 ?_
            refine ex_aload_n 0 dX4_ifPassed_28 rfl rfl ?_
            refine ex_get (v := .ref (b + 1)) fl_X4_10 S.1.ob rfl dX4_ifPassed_29 ?_
            refine exX_copyT vl_X4_167 S n8 (by decide) (Nat.le_of_ble_eq_true rfl) (Nat.le_refl _) (Nat.le_refl _) rfl dX4_ifPassed_32 (fun h π S T => ?_)
            refine ex_aload_n 0 dX4_ifPassed_35 rfl rfl ?_
            refine ex_get (v := .ref (b + 12)) fl_X4_16 S.1.ob rfl dX4_ifPassed_36 ?_
            refine ex_iload_n 1 dX4_ifPassed_39 rfl rfl ?_
            refine exX_trial (As := [.int (nI j)]) (r0 := none) (π1 := π) (B := itA j (n, g, t, u, q)) vl_X4_118 rfl S T (c_liveDays T wf m3 (by omega)) rfl (by decide) (Nat.le_of_ble_eq_true rfl) (Nat.le_refl _) (Nat.le_refl _) rfl dX4_ifPassed_40 (fun h S T => ?_)
            refine ex_iload_n 2 dX4_ifPassed_43 rfl rfl ?_
            refine ex_tableIn (off := 80) (tgt := 124) dX4_ifPassed_44 (by decide) (by decide) (by decide) (by decide) ?_
            refine ex_aload_n 0 dX4_ifPassed_124 rfl rfl ?_
            refine ex_get (v := .ref (b + 12)) fl_X4_16 S.1.ob rfl dX4_ifPassed_125 ?_
            refine ex_get (v := .int ((itA j (n, g, t, u, q)).2.2.2.1 8)) fl_X4_147 T.ob rfl dX4_ifPassed_128 ?_
            exact ex_iret hQ rfl (by unfold X_ifPassed; rw [if_neg hc, ixn (by omega), ixn (by decide)]; exact ⟨rfl, rfl, S⟩) dX4_ifPassed_131
          · refine ex_aload_n 0 dX4_ifPassed_24 rfl rfl ?_
            refine ex_get (v := .ref (b + 12)) fl_X4_16 S.1.ob rfl dX4_ifPassed_25 ?_
            refine ex_aload_n 0 dX4_ifPassed_28 rfl rfl ?_
            refine ex_get (v := .ref (b + 1)) fl_X4_10 S.1.ob rfl dX4_ifPassed_29 ?_
            refine exX_copyT vl_X4_167 S n8 (by decide) (Nat.le_of_ble_eq_true rfl) (Nat.le_refl _) (Nat.le_refl _) rfl dX4_ifPassed_32 (fun h π S T => ?_)
            refine ex_aload_n 0 dX4_ifPassed_35 rfl rfl ?_
            refine ex_get (v := .ref (b + 12)) fl_X4_16 S.1.ob rfl dX4_ifPassed_36 ?_
            refine ex_iload_n 1 dX4_ifPassed_39 rfl rfl ?_
            refine exX_trial (As := [.int (nI j)]) (r0 := none) (π1 := π) (B := itA j (n, g, t, u, q)) vl_X4_118 rfl S T (c_liveDays T wf m3 (by omega)) rfl (by decide) (Nat.le_of_ble_eq_true rfl) (Nat.le_refl _) (Nat.le_refl _) rfl dX4_ifPassed_40 (fun h S T => ?_)
            refine ex_iload_n 2 dX4_ifPassed_43 rfl rfl ?_
            refine ex_tableOut (tgt := 132) dX4_ifPassed_44 (by decide) (by decide) ?_
            refine ex_aload_n 0 dX4_ifPassed_132 rfl rfl ?_
            refine ex_get (v := .ref (b + 12)) fl_X4_16 S.1.ob rfl dX4_ifPassed_133 ?_
            refine ex_get (v := .int (gv (itA j (n, g, t, u, q)).2.1)) fl_X4_89 T.ob rfl dX4_ifPassed_136 ?_
            exact ex_iret hQ rfl (by unfold X_ifPassed; rw [if_neg hc, ixn (by omega), ixn (by decide)]; exact ⟨rfl, rfl, S⟩) dX4_ifPassed_139
        · refine ex_bipush (v := (-2)) dX4_ifPassed_21 (by decide) ?_
          exact ex_iret hQ rfl (by unfold X_ifPassed; rw [if_pos (by first | exact Or.inl c_2 | exact Or.inr (Or.inl c_9) | exact Or.inr (Or.inr (Or.inl c_13)) | exact Or.inr (Or.inr (Or.inr (Int32.not_le.mp c_18))))]; exact ⟨rfl, rfl, S⟩) dX4_ifPassed_23

set_option maxRecDepth 20000 in
set_option maxHeartbeats 2000000 in
theorem c_dgM {G : GG} {l : Launch} {h0 : HP} {z b : Nat} {n : Nat} {g : Option Nat} {t : Nat} {u : Nat → Int32} {q : Nat → Nat → Int32} {k len : Nat} {L : Nat → AS} {V : Nat → Option AS} {c : Nat → Nat} (S0 : PP G h0 z b ((n, g, t, u, q), k, L, V, len, c)) (wf : wfA (n, g, t, u, q)) (m3 : 0 < u 3) {i p : Nat} (hi : i < n) (hp : p < n) : Ct G l 5 0 0 yX4_daysAsGuardianIfMoved cX4_daysAsGuardianIfMoved 5 (some .int) [.ref b, .int (nI i), .int (nI p)] h0 z (pX G (dgM (n, g, t, u, q) i p, ((n, g, t, u, q), k, L, V, len, c)) h0 z b) := by
  refine Ct.intro (lv := [(0, .ref b), (1, .int (nI i)), (2, .int (nI p))]) (by decide +kernel) (Nat.le_of_ble_eq_true rfl) rfl (fun X Q hQ hnm => ?_)
  have S := S0.xf
  have n8 : n ≤ 8 := wf.1
  have gw : ∀ i, g = some i → i < n := wf.2.1
  refine ex_aload_n 0 dX4_daysAsGuardianIfMoved_0 rfl rfl ?_
  refine ex_get (v := .ref (b + 12)) fl_X4_16 S.1.ob rfl dX4_daysAsGuardianIfMoved_1 ?_
  refine ex_aload_n 0 dX4_daysAsGuardianIfMoved_4 rfl rfl ?_
  refine ex_get (v := .ref (b + 1)) fl_X4_10 S.1.ob rfl dX4_daysAsGuardianIfMoved_5 ?_
  refine exX_copyT vl_X4_167 S n8 (by decide) (Nat.le_of_ble_eq_true rfl) (Nat.le_refl _) (Nat.le_refl _) rfl dX4_daysAsGuardianIfMoved_8 (fun h π S T => ?_)
  refine ex_aload_n 0 dX4_daysAsGuardianIfMoved_11 rfl rfl ?_
  refine ex_get (v := .ref (b + 12)) fl_X4_16 S.1.ob rfl dX4_daysAsGuardianIfMoved_12 ?_
  refine ex_iload_n 1 dX4_daysAsGuardianIfMoved_15 rfl rfl ?_
  refine ex_iload_n 2 dX4_daysAsGuardianIfMoved_16 rfl rfl ?_
  refine exX_trial (As := [.int (nI i), .int (nI p)]) (r0 := none) (π1 := fun j => π (mvI i p j)) (B := moveA (n, g, t, u, q) i p) vl_X4_80 rfl S T (c_relocate T gw wf.2.2 n8 hi hp) rfl (by decide) (Nat.le_of_ble_eq_true rfl) (Nat.le_refl _) (Nat.le_refl _) rfl dX4_daysAsGuardianIfMoved_17 (fun h S T => ?_)
  refine ex_aload_n 0 dX4_daysAsGuardianIfMoved_20 rfl rfl ?_
  refine ex_get (v := .ref (b + 12)) fl_X4_16 S.1.ob rfl dX4_daysAsGuardianIfMoved_21 ?_
  refine ex_iload_n 2 dX4_daysAsGuardianIfMoved_24 rfl rfl ?_
  refine ex_call0 (As := [.int (nI p)]) (v := .ref (b + 12 + 3 + (fun j => π (mvI i p j)) p)) (ci := 3) vl_X4_76 rfl (c_at T (by omega) hp n8) T.ob rfl (by decide) (Nat.le_of_ble_eq_true rfl) (Nat.le_refl _) (Nat.le_refl _) rfl dX4_daysAsGuardianIfMoved_25 ?_
  refine ex_astore_n (lv' := [(3, .ref (b + 12 + 3 + (fun j => π (mvI i p j)) p)), (0, .ref b), (1, .int (nI i)), (2, .int (nI p))]) dX4_daysAsGuardianIfMoved_28 rfl (by decide) rfl ?_
  refine ex_aload_n 0 dX4_daysAsGuardianIfMoved_29 rfl rfl ?_
  refine ex_ifnonnull (tgt := 35) dX4_daysAsGuardianIfMoved_30 (by decide) ?_
  refine ex_aload_n 0 dX4_daysAsGuardianIfMoved_35 rfl rfl ?_
  refine ex_get (v := .int ((moveA (n, g, t, u, q) i p).2.2.2.2 p 5)) fl_X4_144 (T.pe (by omega) hp) rfl dX4_daysAsGuardianIfMoved_36 ?_
  refine ex_istore (lv' := [(4, .int ((moveA (n, g, t, u, q) i p).2.2.2.2 p 5)), (3, .ref (b + 12 + 3 + (fun j => π (mvI i p j)) p)), (0, .ref b), (1, .int (nI i)), (2, .int (nI p))]) dX4_daysAsGuardianIfMoved_39 (by decide) rfl ?_
  refine ex_aload_n 2 dX4_daysAsGuardianIfMoved_41 rfl rfl ?_
  refine ex_get (v := .ref (b + 12)) fl_X4_16 S.1.ob rfl dX4_daysAsGuardianIfMoved_42 ?_
  refine ex_bipush (v := nI 100) dX4_daysAsGuardianIfMoved_45 (by decide) ?_
  refine exX_trial (As := [.int (nI 100)]) (r0 := none) (π1 := fun j => π (mvI i p j)) (B := itA 100 (moveA (n, g, t, u, q) i p)) vl_X4_118 rfl S T (c_liveDays T (moveA_wf wf hi hp) m3 (by omega)) rfl (by decide) (Nat.le_of_ble_eq_true rfl) (Nat.le_refl _) (Nat.le_refl _) rfl dX4_daysAsGuardianIfMoved_47 (fun h S T => ?_)
  refine ex_aload_n 1 dX4_daysAsGuardianIfMoved_50 rfl rfl ?_
  refine ex_get (v := .int ((itA 100 (moveA (n, g, t, u, q) i p)).2.2.2.2 p 5)) fl_X4_144 (T.pe (by omega) (by rw [itA_1]; exact hp)) rfl dX4_daysAsGuardianIfMoved_51 ?_
  refine ex_iload 0 dX4_daysAsGuardianIfMoved_54 rfl ?_
  refine ex_isub dX4_daysAsGuardianIfMoved_56 ?_
  exact ex_iret hQ rfl (by exact ⟨rfl, rfl, S⟩) dX4_daysAsGuardianIfMoved_57

set_option maxRecDepth 20000 in
set_option maxHeartbeats 2000000 in
theorem c_bestPlace {G : GG} {l : Launch} {h0 : HP} {z b : Nat} {n : Nat} {g : Option Nat} {t : Nat} {u : Nat → Int32} {q : Nat → Nat → Int32} {k len : Nat} {L : Nat → AS} {V : Nat → Option AS} {c : Nat → Nat} (S0 : PP G h0 z b ((n, g, t, u, q), k, L, V, len, c)) (wf : wfA (n, g, t, u, q)) (m3 : 0 < u 3) {y x : Int32} : Ct G l 6 0 0 yX4_bestPlace cX4_bestPlace 7 (some .int) [.ref b, .int y, .int x] h0 z (pX G (X_bestPlace ((n, g, t, u, q), k, L, V, len, c) y x, ((n, g, t, u, q), k, L, V, len, c)) h0 z b) := by
  refine Ct.intro (lv := [(0, .ref b), (1, .int y), (2, .int x)]) (by decide +kernel) (Nat.le_of_ble_eq_true rfl) rfl (fun X Q hQ hnm => ?_)
  have S := S0.xf
  have n8 : n ≤ 8 := wf.1
  obtain ⟨π, hN⟩ := S.1.2.1
  rcases inR_or y n (by omega) with ⟨i, hp, rfl⟩ | hp
  · refine ex_aload_n 0 dX4_bestPlace_0 rfl rfl ?_
    refine ex_get (v := .ref (b + 1)) fl_X4_10 S.1.ob rfl dX4_bestPlace_1 ?_
    refine ex_iload_n 1 dX4_bestPlace_4 rfl rfl ?_
    refine ex_call0 (As := [.int (nI i)]) (v := .ref (b + 1 + 3 + π i)) (ci := 3) vl_X4_76 rfl (c_at hN (by omega) hp n8) hN.ob rfl (by decide) (Nat.le_of_ble_eq_true rfl) (Nat.le_refl _) (Nat.le_refl _) rfl dX4_bestPlace_5 ?_
    refine ex_ifnonnull (tgt := 13) dX4_bestPlace_8 (by decide) ?_
    by_cases hx : x = 0 ∨ x = nI 1
    · have TL : ex G l X Q 6 0 0 0 0 cX4_bestPlace yX4_bestPlace.cls 7 (some .int) h0 z 25 [(0, .ref b), (1, .int (nI i)), (2, .int x)] [] := by
        refine ex_iconst (v := nI 0) dX4_bestPlace_25 (by decide) ?_
        refine ex_istore_n (lv' := [(3, .int (nI 0)), (0, .ref b), (1, .int (nI i)), (2, .int x)]) dX4_bestPlace_26 rfl (by decide) rfl ?_
        refine ex_iconst (v := (-1)) dX4_bestPlace_27 (by decide) ?_
        refine ex_istore (lv' := [(4, .int (-1)), (3, .int (nI 0)), (0, .ref b), (1, .int (nI i)), (2, .int x)]) dX4_bestPlace_28 (by decide) rfl ?_
        refine ex_iconst (v := nI 0) dX4_bestPlace_30 (by decide) ?_
        refine ex_istore (lv' := [(5, .int (nI 0)), (4, .int (-1)), (3, .int (nI 0)), (0, .ref b), (1, .int (nI i)), (2, .int x)]) dX4_bestPlace_31 (by decide) rfl ?_
        suffices H : ∀ (k2 p best : Nat) (most : Int32) (h : HP), p + k2 = n → XF G h0 h z b ((n, g, t, u, q), k, L, V, len, c) → bpG (n, g, t, u, q) i k2 p best most = bpG (n, g, t, u, q) i n 0 0 (-1) → ex G l X Q 6 0 0 0 0 cX4_bestPlace yX4_bestPlace.cls 7 (some .int) h z 33 [(5, .int (nI p)), (4, .int most), (3, .int (nI best)), (2, .int x), (1, .int (nI i)), (0, .ref b)] [] from by
          have e2 := H n 0 0 (-1) h0 (by omega) S rfl
          refine ex_lv (lv2 := [(5, .int (nI 0)), (4, .int (-1)), (3, .int (nI 0)), (2, .int x), (1, .int (nI i)), (0, .ref b)]) [0, 1, 2, 5, 4, 3] rfl ?_
          exact e2
        intro k2
        induction k2 with
        | zero =>
          intro p best most h hd S hh
          refine ex_iload 0 dX4_bestPlace_33 rfl ?_
          refine ex_aload_n 5 dX4_bestPlace_35 rfl rfl ?_
          refine ex_get (v := .ref (b + 1)) fl_X4_10 S.1.ob rfl dX4_bestPlace_36 ?_
          refine ex_get (v := .int (nI n)) fl_X4_55 S.1.nob rfl dX4_bestPlace_39 ?_
          refine ex_icmp_ge (tgt := 74) dX4_bestPlace_42 (by decide) (fun c_42 => ?_) (fun c_42 => absurd ((nI_leI (by omega) (by omega)).mpr (by omega)) c_42)
          refine ex_iload_n 3 dX4_bestPlace_74 rfl rfl ?_
          refine ex_if_ne (tgt := 82) dX4_bestPlace_75 (by decide) (fun c_75 => ?_) (fun c_75 => ?_)
          · refine ex_iload 1 dX4_bestPlace_82 rfl ?_
            exact ex_iret hQ rfl (by unfold X_bestPlace; dsimp only; rw [if_pos (inR_nI hp (by omega)), if_pos hx, ixn (by omega), ← hh]; first | (rw [if_pos c_75]; exact ⟨rfl, rfl, S⟩) | (rw [if_neg c_75]; exact ⟨rfl, rfl, S⟩)) dX4_bestPlace_84
          · refine ex_iload_n 2 dX4_bestPlace_78 rfl rfl ?_
            refine ex_goto (tgt := 84) dX4_bestPlace_79 (by decide) ?_
            exact ex_iret hQ rfl (by unfold X_bestPlace; dsimp only; rw [if_pos (inR_nI hp (by omega)), if_pos hx, ixn (by omega), ← hh]; first | (rw [if_pos c_75]; exact ⟨rfl, rfl, S⟩) | (rw [if_neg c_75]; exact ⟨rfl, rfl, S⟩)) dX4_bestPlace_84
        | succ k2 ih =>
          intro p best most h hd S hh
          rw [bpG] at hh
          refine ex_iload 0 dX4_bestPlace_33 rfl ?_
          refine ex_aload_n 5 dX4_bestPlace_35 rfl rfl ?_
          refine ex_get (v := .ref (b + 1)) fl_X4_10 S.1.ob rfl dX4_bestPlace_36 ?_
          refine ex_get (v := .int (nI n)) fl_X4_55 S.1.nob rfl dX4_bestPlace_39 ?_
          refine ex_icmp_ge (tgt := 74) dX4_bestPlace_42 (by decide) (fun c_42 => absurd c_42 (fun q9 => absurd ((nI_leI (by omega) (by omega)).mp q9) (by omega))) (fun c_42 => ?_)
          refine ex_aload_n 5 dX4_bestPlace_45 rfl rfl ?_
          refine ex_iload_n 4 dX4_bestPlace_46 rfl rfl ?_
          refine ex_iload 0 dX4_bestPlace_47 rfl ?_
          refine ex_callV (As := [.int (nI i), .int (nI p)]) (ci := 4) vl_X4_173 rfl (c_dgM S.1 wf m3 hp (by omega)) S.1.ob rfl (by decide) (Nat.le_of_ble_eq_true rfl) (Nat.le_refl _) (Nat.le_refl _) rfl dX4_bestPlace_49 (fun r1 h1 z1 hp1 => ?_)
          obtain ⟨rfl, rfl, S9⟩ := hp1
          have S := S.trans S9
          refine ex_istore (lv' := [(6, .int (dgM (n, g, t, u, q) i p)), (5, .int (nI p)), (4, .int most), (3, .int (nI best)), (2, .int x), (1, .int (nI i)), (0, .ref b)]) dX4_bestPlace_52 (by decide) rfl ?_
          refine ex_iload 0 dX4_bestPlace_54 rfl ?_
          refine ex_iload 2 dX4_bestPlace_56 rfl ?_
          refine ex_icmp_le (tgt := 68) dX4_bestPlace_58 (by decide) (fun c_58 => ?_) (fun c_58 => ?_)
          · refine ex_iinc (v := nI (p + 1)) (lv' := [(5, .int (nI (p + 1))), (6, .int (dgM (n, g, t, u, q) i p)), (4, .int most), (3, .int (nI best)), (2, .int x), (1, .int (nI i)), (0, .ref b)]) 1 dX4_bestPlace_68 rfl (nI_1 p) (by decide) rfl ?_
            refine ex_goto (tgt := 33) dX4_bestPlace_71 (by decide) ?_
            have e2 := ih (p + 1) best most h1 (by omega) S (by rw [← hh, if_neg (Int32.not_lt.mpr c_58)])
            refine ex_lv (lv2 := [(5, .int (nI (p + 1))), (4, .int most), (3, .int (nI best)), (2, .int x), (1, .int (nI i)), (0, .ref b)]) [0, 2, 3, 4, 5, 6] rfl ?_
            exact e2
          · refine ex_iload 1 dX4_bestPlace_61 rfl ?_
            refine ex_istore_n (lv' := [(3, .int (nI p)), (6, .int (dgM (n, g, t, u, q) i p)), (5, .int (nI p)), (4, .int most), (2, .int x), (1, .int (nI i)), (0, .ref b)]) dX4_bestPlace_63 rfl (by decide) rfl ?_
            refine ex_iload 1 dX4_bestPlace_64 rfl ?_
            refine ex_istore (lv' := [(4, .int (dgM (n, g, t, u, q) i p)), (3, .int (nI p)), (6, .int (dgM (n, g, t, u, q) i p)), (5, .int (nI p)), (2, .int x), (1, .int (nI i)), (0, .ref b)]) dX4_bestPlace_66 (by decide) rfl ?_
            refine ex_iinc (v := nI (p + 1)) (lv' := [(5, .int (nI (p + 1))), (4, .int (dgM (n, g, t, u, q) i p)), (3, .int (nI p)), (6, .int (dgM (n, g, t, u, q) i p)), (2, .int x), (1, .int (nI i)), (0, .ref b)]) 3 dX4_bestPlace_68 rfl (nI_1 p) (by decide) rfl ?_
            refine ex_goto (tgt := 33) dX4_bestPlace_71 (by decide) ?_
            have e2 := ih (p + 1) p (dgM (n, g, t, u, q) i p) h1 (by omega) S (by rw [← hh, if_pos (Int32.not_le.mp c_58)])
            refine ex_lv (lv2 := [(5, .int (nI (p + 1))), (4, .int (dgM (n, g, t, u, q) i p)), (3, .int (nI p)), (2, .int x), (1, .int (nI i)), (0, .ref b)]) [0, 1, 2, 4, 5, 6] rfl ?_
            exact e2
      refine ex_iload_n 2 dX4_bestPlace_13 rfl rfl ?_
      refine ex_if_eq (tgt := 25) dX4_bestPlace_14 (by decide) (fun c_14 => ?_) (fun c_14 => ?_)
      · exact TL
      · refine ex_iload_n 2 dX4_bestPlace_17 rfl rfl ?_
        refine ex_iconst (v := nI 1) dX4_bestPlace_18 (by decide) ?_
        refine ex_icmp_eq (tgt := 25) dX4_bestPlace_19 (by decide) (fun c_19 => ?_) (fun c_19 => ?_)
        · exact TL
        · exact absurd hx (fun q9 => q9.elim c_14 c_19)
    · refine ex_iload_n 2 dX4_bestPlace_13 rfl rfl ?_
      refine ex_if_eq (tgt := 25) dX4_bestPlace_14 (by decide) (fun c_14 => ?_) (fun c_14 => ?_)
      · exact absurd (by first | exact Or.inl c_14 | exact Or.inr c_19) hx
      · refine ex_iload_n 2 dX4_bestPlace_17 rfl rfl ?_
        refine ex_iconst (v := nI 1) dX4_bestPlace_18 (by decide) ?_
        refine ex_icmp_eq (tgt := 25) dX4_bestPlace_19 (by decide) (fun c_19 => ?_) (fun c_19 => ?_)
        · exact absurd (by first | exact Or.inl c_14 | exact Or.inr c_19) hx
        · refine ex_bipush (v := (-2)) dX4_bestPlace_22 (by decide) ?_
          exact ex_iret hQ rfl (by unfold X_bestPlace; dsimp only; rw [if_pos (inR_nI hp (by omega)), if_neg hx]; exact ⟨rfl, rfl, S⟩) dX4_bestPlace_24
  · refine ex_aload_n 0 dX4_bestPlace_0 rfl rfl ?_
    refine ex_get (v := .ref (b + 1)) fl_X4_10 S.1.ob rfl dX4_bestPlace_1 ?_
    refine ex_iload_n 1 dX4_bestPlace_4 rfl rfl ?_
    refine ex_call0 (As := [.int y]) (v := .null) (ci := 3) vl_X4_76 rfl (c_atN hN (inR_not hp) n8) hN.ob rfl (by decide) (Nat.le_of_ble_eq_true rfl) (Nat.le_refl _) (Nat.le_refl _) rfl dX4_bestPlace_5 ?_
    refine ex_ifnonnullN dX4_bestPlace_8 ?_
    refine ex_iconst (v := (-1)) dX4_bestPlace_11 (by decide) ?_
    exact ex_iret hQ rfl (by unfold X_bestPlace; dsimp only; rw [if_neg hp]; exact ⟨rfl, rfl, S⟩) dX4_bestPlace_12

set_option maxRecDepth 20000 in
set_option maxHeartbeats 2000000 in
theorem c_undo {G : GG} {l : Launch} {h0 : HP} {z b : Nat} {n : Nat} {g : Option Nat} {t : Nat} {u : Nat → Int32} {q : Nat → Nat → Int32} {k len : Nat} {L : Nat → AS} {V : Nat → Option AS} {c : Nat → Nat} (S0 : PP G h0 z b ((n, g, t, u, q), k, L, V, len, c)) (nL : ∀ j, j < k → (L j).1 ≤ 8) (k6 : k ≤ 6) : Ct G l 3 0 0 yX4_undo cX4_undo 1 (some .int) [.ref b] h0 z (pX G (X_undo ((n, g, t, u, q), k, L, V, len, c)) h0 z b) := by
  refine Ct.intro (lv := [(0, .ref b)]) (by decide +kernel) (Nat.le_of_ble_eq_true rfl) rfl (fun X Q hQ hnm => ?_)
  have S := S0.xf
  refine ex_aload_n 0 dX4_undo_0 rfl rfl ?_
  refine ex_get (v := .ref (b + 23)) fl_X4_22 S.1.ob rfl dX4_undo_1 ?_
  refine ex_get (v := .int (nI k)) fl_X4_166 S.1.hob rfl dX4_undo_4 ?_
  refine ex_if_ne (tgt := 13) dX4_undo_7 (by decide) (fun c_7 => ?_) (fun c_7 => ?_)
  · have n_7 : ¬ (k = 0) := fun q9 => c_7 ((nI_eq (b := 0) (by omega) (by omega)).mpr q9)
    refine ex_aload_n 0 dX4_undo_13 rfl rfl ?_
    refine ex_get (v := .ref (b + 23)) fl_X4_22 S.1.ob rfl dX4_undo_14 ?_
    refine ex_aload_n 0 dX4_undo_17 rfl rfl ?_
    refine ex_get (v := .ref (b + 1)) fl_X4_10 S.1.ob rfl dX4_undo_18 ?_
    refine exX_back vl_X4_187 S (show 1 ≤ k by omega) (nL (k - 1) (by omega)) (by decide) (Nat.le_of_ble_eq_true rfl) (Nat.le_refl _) (Nat.le_refl _) rfl dX4_undo_21 (fun h S => ?_)
    have S : XF G h0 h z b (L (k - 1), k - 1, L, V, len, c) := S
    refine ex_aload_n 0 dX4_undo_24 rfl rfl ?_
    refine ex_get (v := .ref (b + 23)) fl_X4_22 S.1.ob rfl dX4_undo_25 ?_
    refine ex_get (v := .int (nI (k - 1))) fl_X4_166 S.1.hob rfl dX4_undo_28 ?_
    exact ex_iret hQ rfl (by unfold X_undo; dsimp only; rw [if_neg n_7]; exact ⟨rfl, rfl, S⟩) dX4_undo_31
  · have n_7 : k = 0 := (nI_eq (b := 0) (by omega) (by omega)).mp c_7
    refine ex_bipush (v := (-5)) dX4_undo_10 (by decide) ?_
    exact ex_iret hQ rfl (by unfold X_undo; dsimp only; rw [if_pos n_7]; exact ⟨rfl, rfl, S⟩) dX4_undo_12
