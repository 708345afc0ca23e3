set_option maxRecDepth 20000 in
set_option maxHeartbeats 2000000 in
theorem m_person {G : GG} {l : Launch} {h0 : HP} {z m : Nat} {n : Nat} {g : Option Nat} {t : Nat} {u : Nat → Int32} {q : Nat → Nat → Int32} {k len : Nat} {L : Nat → AS} {V : Nat → Option AS} {c : Nat → Nat} (S0 : MP G h0 m ((n, g, t, u, q), k, L, V, len, c)) (n8 : n ≤ 8) (nL : ∀ j, j < k → (L j).1 ≤ 8) (gw : ∀ i, g = some i → i < n) {p x : Int32} : Ct G l 3 0 0 yX5_person cX5_person 3 (some .int) [.ref m, .int p, .int x] h0 z (pM G (X_person ((n, g, t, u, q), k, L, V, len, c) p x, ((n, g, t, u, q), k, L, V, len, c)) h0 z m) := by
  refine Ct.intro (lv := [(0, .ref m), (1, .int p), (2, .int x)]) (by decide +kernel) (Nat.le_of_ble_eq_true rfl) rfl (fun X Q hQ hnm => ?_)
  have S := S0
  rcases inR_or p n (by omega) with ⟨i, hp, rfl⟩ | hp
  · refine ex_aload_n 0 dX5_person_0 rfl rfl ?_
    refine ex_iload_n 1 dX5_person_1 rfl rfl ?_
    refine ex_call0 (As := [.int (nI i)]) (v := .int (nI 1)) (ci := 5) vl_X5_93 rfl (m_isPersonT S.rp n8 hp) S.ob rfl (by decide) (Nat.le_of_ble_eq_true rfl) (Nat.le_refl _) (Nat.le_refl _) rfl dX5_person_2 ?_
    refine ex_if_ne (tgt := 10) dX5_person_5 (by decide) (fun c_5 => ?_) (fun c_5 => absurd c_5 (by decide))
    rcases inR_or x 9 (by omega) with ⟨r, hx, rfl⟩ | hx
    · rcases (show r = 0 ∨ r = 1 ∨ r = 2 ∨ r = 3 ∨ r = 4 ∨ r = 5 ∨ r = 6 ∨ r = 7 ∨ r = 8 by omega) with rfl | rfl | rfl | rfl | rfl | rfl | rfl | rfl | rfl
      · refine ex_iload_n 2 dX5_person_10 rfl rfl ?_
        refine ex_tableIn (off := 49) (tgt := 60) dX5_person_11 (by decide) (by decide) (by decide) (by decide) ?_
        refine ex_aload_n 0 dX5_person_60 rfl rfl ?_
        refine ex_get (v := .ref (m + 1)) fl_X5_7 S.ob rfl dX5_person_61 ?_
        refine ex_iconst (v := nI 0) dX5_person_64 (by decide) ?_
        refine ex_iload_n 1 dX5_person_65 rfl rfl ?_
        refine ex_callS0 (As := [.int (nI 0), .int (nI i)]) (v := .int (nI (0 + 17 + 6 * i))) vl_X5_34 (m_at) rfl (by decide) (Nat.le_of_ble_eq_true rfl) (Nat.le_refl _) (Nat.le_refl _) rfl dX5_person_66 ?_
        refine ex_iload_n 2 dX5_person_69 rfl rfl ?_
        refine ex_iaddN dX5_person_70 ?_
        refine exM_ldq (p := 0) (j := i) (b := 0) (v := q i 0) S.rp.rf (by decide) rfl hp (by omega) (by decide) rfl dX5_person_71 ?_
        exact ex_iret hQ rfl (by unfold X_person; dsimp only; rw [if_pos (inR_nI hp (by omega)), if_pos (inR_nI hx (by decide)), ixn (by omega), ixn (by omega)]; exact ⟨rfl, rfl, S⟩) dX5_person_72
      · refine ex_iload_n 2 dX5_person_10 rfl rfl ?_
        refine ex_tableIn (off := 49) (tgt := 60) dX5_person_11 (by decide) (by decide) (by decide) (by decide) ?_
        refine ex_aload_n 0 dX5_person_60 rfl rfl ?_
        refine ex_get (v := .ref (m + 1)) fl_X5_7 S.ob rfl dX5_person_61 ?_
        refine ex_iconst (v := nI 0) dX5_person_64 (by decide) ?_
        refine ex_iload_n 1 dX5_person_65 rfl rfl ?_
        refine ex_callS0 (As := [.int (nI 0), .int (nI i)]) (v := .int (nI (0 + 17 + 6 * i))) vl_X5_34 (m_at) rfl (by decide) (Nat.le_of_ble_eq_true rfl) (Nat.le_refl _) (Nat.le_refl _) rfl dX5_person_66 ?_
        refine ex_iload_n 2 dX5_person_69 rfl rfl ?_
        refine ex_iaddN dX5_person_70 ?_
        refine exM_ldq (p := 0) (j := i) (b := 1) (v := q i 1) S.rp.rf (by decide) rfl hp (by omega) (by decide) rfl dX5_person_71 ?_
        exact ex_iret hQ rfl (by unfold X_person; dsimp only; rw [if_pos (inR_nI hp (by omega)), if_pos (inR_nI hx (by decide)), ixn (by omega), ixn (by omega)]; exact ⟨rfl, rfl, S⟩) dX5_person_72
      · refine ex_iload_n 2 dX5_person_10 rfl rfl ?_
        refine ex_tableIn (off := 49) (tgt := 60) dX5_person_11 (by decide) (by decide) (by decide) (by decide) ?_
        refine ex_aload_n 0 dX5_person_60 rfl rfl ?_
        refine ex_get (v := .ref (m + 1)) fl_X5_7 S.ob rfl dX5_person_61 ?_
        refine ex_iconst (v := nI 0) dX5_person_64 (by decide) ?_
        refine ex_iload_n 1 dX5_person_65 rfl rfl ?_
        refine ex_callS0 (As := [.int (nI 0), .int (nI i)]) (v := .int (nI (0 + 17 + 6 * i))) vl_X5_34 (m_at) rfl (by decide) (Nat.le_of_ble_eq_true rfl) (Nat.le_refl _) (Nat.le_refl _) rfl dX5_person_66 ?_
        refine ex_iload_n 2 dX5_person_69 rfl rfl ?_
        refine ex_iaddN dX5_person_70 ?_
        refine exM_ldq (p := 0) (j := i) (b := 2) (v := q i 2) S.rp.rf (by decide) rfl hp (by omega) (by decide) rfl dX5_person_71 ?_
        exact ex_iret hQ rfl (by unfold X_person; dsimp only; rw [if_pos (inR_nI hp (by omega)), if_pos (inR_nI hx (by decide)), ixn (by omega), ixn (by omega)]; exact ⟨rfl, rfl, S⟩) dX5_person_72
      · refine ex_iload_n 2 dX5_person_10 rfl rfl ?_
        refine ex_tableIn (off := 49) (tgt := 60) dX5_person_11 (by decide) (by decide) (by decide) (by decide) ?_
        refine ex_aload_n 0 dX5_person_60 rfl rfl ?_
        refine ex_get (v := .ref (m + 1)) fl_X5_7 S.ob rfl dX5_person_61 ?_
        refine ex_iconst (v := nI 0) dX5_person_64 (by decide) ?_
        refine ex_iload_n 1 dX5_person_65 rfl rfl ?_
        refine ex_callS0 (As := [.int (nI 0), .int (nI i)]) (v := .int (nI (0 + 17 + 6 * i))) vl_X5_34 (m_at) rfl (by decide) (Nat.le_of_ble_eq_true rfl) (Nat.le_refl _) (Nat.le_refl _) rfl dX5_person_66 ?_
        refine ex_iload_n 2 dX5_person_69 rfl rfl ?_
        refine ex_iaddN dX5_person_70 ?_
        refine exM_ldq (p := 0) (j := i) (b := 3) (v := q i 3) S.rp.rf (by decide) rfl hp (by omega) (by decide) rfl dX5_person_71 ?_
        exact ex_iret hQ rfl (by unfold X_person; dsimp only; rw [if_pos (inR_nI hp (by omega)), if_pos (inR_nI hx (by decide)), ixn (by omega), ixn (by omega)]; exact ⟨rfl, rfl, S⟩) dX5_person_72
      · refine ex_iload_n 2 dX5_person_10 rfl rfl ?_
        refine ex_tableIn (off := 62) (tgt := 73) dX5_person_11 (by decide) (by decide) (by decide) (by decide) ?_
        refine ex_aload_n 0 dX5_person_73 rfl rfl ?_
        refine ex_iconst (v := nI 0) dX5_person_74 (by decide) ?_
        refine ex_iload_n 1 dX5_person_75 rfl rfl ?_
        refine ex_call0 (As := [.int (nI 0), .int (nI i)]) (v := .int (bB u q i)) (ci := 5) vl_X5_38 rfl (m_isBarred S.rp (by decide) n8 hp) S.ob rfl (by decide) (Nat.le_of_ble_eq_true rfl) (Nat.le_refl _) (Nat.le_refl _) rfl dX5_person_76 ?_
        refine ex_if_eq (tgt := 86) dX5_person_79 (by decide) (fun c_79 => ?_) (fun c_79 => ?_)
        · refine ex_iconst (v := nI 0) dX5_person_86 (by decide) ?_
          exact ex_iret hQ rfl (by unfold X_person; dsimp only; rw [if_pos (inR_nI hp (by omega)), if_pos (inR_nI hx (by decide)), ixn (by omega), ixn (by omega)]; first | exact ⟨congrArg (fun x => some (Value.int x)) c_79.symm, rfl, S⟩ | exact ⟨congrArg (fun x => some (Value.int x)) (bI_e1 c_79).symm, rfl, S⟩) dX5_person_87
        · refine ex_iconst (v := nI 1) dX5_person_82 (by decide) ?_
          refine ex_goto (tgt := 87) dX5_person_83 (by decide) ?_
          exact ex_iret hQ rfl (by unfold X_person; dsimp only; rw [if_pos (inR_nI hp (by omega)), if_pos (inR_nI hx (by decide)), ixn (by omega), ixn (by omega)]; first | exact ⟨congrArg (fun x => some (Value.int x)) c_79.symm, rfl, S⟩ | exact ⟨congrArg (fun x => some (Value.int x)) (bI_e1 c_79).symm, rfl, S⟩) dX5_person_87
      · refine ex_iload_n 2 dX5_person_10 rfl rfl ?_
        refine ex_tableIn (off := 77) (tgt := 88) dX5_person_11 (by decide) (by decide) (by decide) (by decide) ?_
        refine ex_aload_n 0 dX5_person_88 rfl rfl ?_
        refine ex_iconst (v := nI 0) dX5_person_89 (by decide) ?_
        refine ex_iload_n 1 dX5_person_90 rfl rfl ?_
        refine ex_call0 (As := [.int (nI 0), .int (nI i)]) (v := .int (scI u q i)) (ci := 5) vl_X5_46 rfl (m_score S.rp (by decide) n8 hp) S.ob rfl (by decide) (Nat.le_of_ble_eq_true rfl) (Nat.le_refl _) (Nat.le_refl _) rfl dX5_person_91 ?_
        refine ex_sipush (v := nI 1000) dX5_person_94 (by decide) ?_
        refine ex_iadd dX5_person_97 ?_
        exact ex_iret hQ rfl (by unfold X_person; dsimp only; rw [if_pos (inR_nI hp (by omega)), if_pos (inR_nI hx (by decide)), ixn (by omega), ixn (by omega)]; exact ⟨rfl, rfl, S⟩) dX5_person_98
      · refine ex_iload_n 2 dX5_person_10 rfl rfl ?_
        refine ex_tableIn (off := 88) (tgt := 99) dX5_person_11 (by decide) (by decide) (by decide) (by decide) ?_
        refine ex_aload_n 0 dX5_person_99 rfl rfl ?_
        refine ex_get (v := .ref (m + 1)) fl_X5_7 S.ob rfl dX5_person_100 ?_
        refine ex_iconst (v := nI 0) dX5_person_103 (by decide) ?_
        refine ex_iload_n 1 dX5_person_104 rfl rfl ?_
        refine ex_callS0 (As := [.int (nI 0), .int (nI i)]) (v := .int (nI (0 + 17 + 6 * i))) vl_X5_34 (m_at) rfl (by decide) (Nat.le_of_ble_eq_true rfl) (Nat.le_refl _) (Nat.le_refl _) rfl dX5_person_105 ?_
        refine ex_iload_n 2 dX5_person_108 rfl rfl ?_
        refine ex_iaddN dX5_person_109 ?_
        refine ex_iconst (v := nI 2) dX5_person_110 (by decide) ?_
        refine ex_isubN dX5_person_111 (by omega) ?_
        rw [show 0 + 17 + 6 * i + 6 - 2 = 0 + 17 + 6 * i + 4 from rfl]
        refine exM_ldq (p := 0) (j := i) (b := 4) (v := q i 4) S.rp.rf (by decide) rfl hp (by omega) (by decide) rfl dX5_person_112 ?_
        exact ex_iret hQ rfl (by unfold X_person; dsimp only; rw [if_pos (inR_nI hp (by omega)), if_pos (inR_nI hx (by decide)), ixn (by omega), ixn (by omega)]; exact ⟨rfl, rfl, S⟩) dX5_person_113
      · refine ex_iload_n 2 dX5_person_10 rfl rfl ?_
        refine ex_tableIn (off := 88) (tgt := 99) dX5_person_11 (by decide) (by decide) (by decide) (by decide) ?_
        refine ex_aload_n 0 dX5_person_99 rfl rfl ?_
        refine ex_get (v := .ref (m + 1)) fl_X5_7 S.ob rfl dX5_person_100 ?_
        refine ex_iconst (v := nI 0) dX5_person_103 (by decide) ?_
        refine ex_iload_n 1 dX5_person_104 rfl rfl ?_
        refine ex_callS0 (As := [.int (nI 0), .int (nI i)]) (v := .int (nI (0 + 17 + 6 * i))) vl_X5_34 (m_at) rfl (by decide) (Nat.le_of_ble_eq_true rfl) (Nat.le_refl _) (Nat.le_refl _) rfl dX5_person_105 ?_
        refine ex_iload_n 2 dX5_person_108 rfl rfl ?_
        refine ex_iaddN dX5_person_109 ?_
        refine ex_iconst (v := nI 2) dX5_person_110 (by decide) ?_
        refine ex_isubN dX5_person_111 (by omega) ?_
        rw [show 0 + 17 + 6 * i + 7 - 2 = 0 + 17 + 6 * i + 5 from rfl]
        refine exM_ldq (p := 0) (j := i) (b := 5) (v := q i 5) S.rp.rf (by decide) rfl hp (by omega) (by decide) rfl dX5_person_112 ?_
        exact ex_iret hQ rfl (by unfold X_person; dsimp only; rw [if_pos (inR_nI hp (by omega)), if_pos (inR_nI hx (by decide)), ixn (by omega), ixn (by omega)]; exact ⟨rfl, rfl, S⟩) dX5_person_113
      · refine ex_iload_n 2 dX5_person_10 rfl rfl ?_
        refine ex_tableIn (off := 103) (tgt := 114) dX5_person_11 (by decide) (by decide) (by decide) (by decide) ?_
        refine ex_aload_n 0 dX5_person_114 rfl rfl ?_
        refine ex_iload_n 1 dX5_person_115 rfl rfl ?_
        refine ex_call0 (As := [.int (nI i)]) (v := .int (mayI n g u q i)) (ci := 5) vl_X5_99 rfl (m_canAppeal S.rp n8 gw hp) S.ob rfl (by decide) (Nat.le_of_ble_eq_true rfl) (Nat.le_refl _) (Nat.le_refl _) rfl dX5_person_116 ?_
        refine ex_if_eq (tgt := 126) dX5_person_119 (by decide) (fun c_119 => ?_) (fun c_119 => ?_)
        · refine ex_iconst (v := nI 0) dX5_person_126 (by decide) ?_
          exact ex_iret hQ rfl (by unfold X_person; dsimp only; rw [if_pos (inR_nI hp (by omega)), if_pos (inR_nI hx (by decide)), ixn (by omega), ixn (by omega)]; first | exact ⟨congrArg (fun x => some (Value.int x)) c_119.symm, rfl, S⟩ | exact ⟨congrArg (fun x => some (Value.int x)) (mayI_1 c_119).symm, rfl, S⟩) dX5_person_127
        · refine ex_iconst (v := nI 1) dX5_person_122 (by decide) ?_
          refine ex_goto (tgt := 127) dX5_person_123 (by decide) ?_
          exact ex_iret hQ rfl (by unfold X_person; dsimp only; rw [if_pos (inR_nI hp (by omega)), if_pos (inR_nI hx (by decide)), ixn (by omega), ixn (by omega)]; first | exact ⟨congrArg (fun x => some (Value.int x)) c_119.symm, rfl, S⟩ | exact ⟨congrArg (fun x => some (Value.int x)) (mayI_1 c_119).symm, rfl, S⟩) dX5_person_127
    · refine ex_iload_n 2 dX5_person_10 rfl rfl ?_
      refine ex_tableOut (tgt := 128) dX5_person_11 (tabc hx (by decide)) (by decide) ?_
      refine ex_bipush (v := (-2)) dX5_person_128 (by decide) ?_
      exact ex_iret hQ rfl (by unfold X_person; dsimp only; rw [if_pos (inR_nI hp (by omega)), if_neg hx]; exact ⟨rfl, rfl, S⟩) dX5_person_130
  · refine ex_aload_n 0 dX5_person_0 rfl rfl ?_
    refine ex_iload_n 1 dX5_person_1 rfl rfl ?_
    refine ex_call0 (As := [.int p]) (v := .int (nI 0)) (ci := 5) vl_X5_93 rfl (m_isPersonF S.rp n8 hp) S.ob rfl (by decide) (Nat.le_of_ble_eq_true rfl) (Nat.le_refl _) (Nat.le_refl _) rfl dX5_person_2 ?_
    refine ex_if_ne (tgt := 10) dX5_person_5 (by decide) (fun c_5 => absurd (by decide) c_5) (fun c_5 => ?_)
    refine ex_iconst (v := (-1)) dX5_person_8 (by decide) ?_
    exact ex_iret hQ rfl (by unfold X_person; dsimp only; rw [if_neg hp]; exact ⟨rfl, rfl, S⟩) dX5_person_9

set_option maxRecDepth 20000 in
set_option maxHeartbeats 2000000 in
theorem m_ofB {G : GG} {l : Launch} {h0 : HP} {z m kk len : Nat} {n : Nat} {g : Option Nat} {t : Nat} {u : Nat → Int32} {q : Nat → Nat → Int32} (S0 : RP G h0 m kk len 0 (n, g, t, u, q)) (n8 : n ≤ 8) : Ct G l 2 0 0 yX5_ofAll cX5_ofAll 4 (some .int) [.ref m, .int (nI 12)] h0 z (p0 (.int (sumB u q n)) h0 z) := by
  refine Ct.intro (lv := [(0, .ref m), (1, .int (nI 12))]) (by decide +kernel) (Nat.le_of_ble_eq_true rfl) rfl (fun X Q hQ hnm => ?_)
  have S := S0.rf
  refine ex_iconst (v := nI 0) dX5_ofAll_0 (by decide) ?_
  refine ex_istore_n (lv' := [(2, .int (nI 0)), (0, .ref m), (1, .int (nI 12))]) dX5_ofAll_1 rfl (by decide) rfl ?_
  refine ex_iconst (v := nI 0) dX5_ofAll_2 (by decide) ?_
  refine ex_istore_n (lv' := [(3, .int (nI 0)), (2, .int (nI 0)), (0, .ref m), (1, .int (nI 12))]) dX5_ofAll_3 rfl (by decide) rfl ?_
  suffices H : ∀ (k2 r : Nat), r + k2 = n → ex G l X Q 2 0 0 0 0 cX5_ofAll yX5_ofAll.cls 4 (some .int) h0 z 4 [(3, .int (nI r)), (2, .int (sumB u q r)), (0, .ref m), (1, .int (nI 12))] [] from by
    have e2 := H n 0 (by omega)
    refine ex_lv (lv2 := [(3, .int (nI 0)), (2, .int (sumB u q 0)), (0, .ref m), (1, .int (nI 12))]) [0, 1, 2, 3] rfl ?_
    exact e2
  intro k2
  induction k2 with
  | zero =>
    intro r hr
    obtain rfl : r = n := hr
    refine ex_iload_n 0 dX5_ofAll_4 rfl rfl ?_
    refine ex_aload_n 2 dX5_ofAll_5 rfl rfl ?_
    refine ex_get (v := .ref (m + 1)) fl_X5_7 S.1 rfl dX5_ofAll_6 ?_
    refine ex_bipush (v := nI 7) dX5_ofAll_9 (by decide) ?_
    refine exM_ld (p := 0) (i := 7) (v := nI r) S (by decide) rfl (by decide) rfl dX5_ofAll_11 ?_
    refine ex_icmp_ge (tgt := 59) dX5_ofAll_12 (by decide) (fun c_12 => ?_) (fun c_12 => absurd ((nI_leI (by omega) (by omega)).mpr (by omega)) c_12)
    refine ex_iload_n 1 dX5_ofAll_59 rfl rfl ?_
    exact ex_iret hQ rfl ⟨rfl, rfl, rfl⟩ dX5_ofAll_60
  | succ k2 ih =>
    intro r hr
    have hj : r < n := by omega
    refine ex_iload_n 0 dX5_ofAll_4 rfl rfl ?_
    refine ex_aload_n 2 dX5_ofAll_5 rfl rfl ?_
    refine ex_get (v := .ref (m + 1)) fl_X5_7 S.1 rfl dX5_ofAll_6 ?_
    refine ex_bipush (v := nI 7) dX5_ofAll_9 (by decide) ?_
    refine exM_ld (p := 0) (i := 7) (v := nI n) S (by decide) rfl (by decide) rfl dX5_ofAll_11 ?_
    refine ex_icmp_ge (tgt := 59) dX5_ofAll_12 (by decide) (fun c_12 => absurd c_12 (fun q9 => absurd ((nI_leI (by omega) (by omega)).mp q9) (by omega))) (fun c_12 => ?_)
    refine ex_iload_n 1 dX5_ofAll_15 rfl rfl ?_
    refine ex_iload_n 3 dX5_ofAll_16 rfl rfl ?_
    refine ex_bipush (v := nI 17) dX5_ofAll_17 (by decide) ?_
    refine ex_icmp_ne (tgt := 37) dX5_ofAll_19 (by decide) (fun c_19 => ?_) (fun c_19 => absurd c_19 (by decide))
    refine ex_aload_n 2 dX5_ofAll_37 rfl rfl ?_
    refine ex_iconst (v := nI 0) dX5_ofAll_38 (by decide) ?_
    refine ex_iload_n 0 dX5_ofAll_39 rfl rfl ?_
    refine ex_call0 (As := [.int (nI 0), .int (nI r)]) (v := .int (bB u q r)) (ci := 5) vl_X5_38 rfl (m_isBarred S.rp (by decide) n8 hj) S.1 rfl (by decide) (Nat.le_of_ble_eq_true rfl) (Nat.le_refl _) (Nat.le_refl _) rfl dX5_ofAll_40 ?_
    refine ex_if_eq (tgt := 50) dX5_ofAll_43 (by decide) (fun c_43 => ?_) (fun c_43 => ?_)
    · refine ex_iconst (v := nI 0) dX5_ofAll_50 (by decide) ?_
      refine ex_iadd dX5_ofAll_51 ?_
      refine ex_istore_n (lv' := [(2, .int ((sumB u q r) + (nI 0))), (3, .int (nI r)), (0, .ref m), (1, .int (nI 12))]) dX5_ofAll_52 rfl (by decide) rfl ?_
      refine ex_iinc (v := nI (r + 1)) (lv' := [(3, .int (nI (r + 1))), (2, .int ((sumB u q r) + (nI 0))), (0, .ref m), (1, .int (nI 12))]) 1 dX5_ofAll_53 rfl (nI_1 r) (by decide) rfl ?_
      refine ex_goto (tgt := 4) dX5_ofAll_56 (by decide) ?_
      have e2 := ih (r + 1) (by omega)
      have es : sumB u q (r + 1) = (sumB u q r) + (nI 0) := by rw [sumB]; rw [if_pos (bB_0 c_43)]; exact (Int32.add_zero _).symm
      rw [es] at e2
      refine ex_lv (lv2 := [(3, .int (nI (r + 1))), (2, .int ((sumB u q r) + (nI 0))), (0, .ref m), (1, .int (nI 12))]) [0, 1, 2, 3] rfl ?_
      exact e2
    · refine ex_iconst (v := nI 1) dX5_ofAll_46 (by decide) ?_
      refine ex_goto (tgt := 51) dX5_ofAll_47 (by decide) ?_
      refine ex_iadd dX5_ofAll_51 ?_
      refine ex_istore_n (lv' := [(2, .int ((sumB u q r) + (nI 1))), (3, .int (nI r)), (0, .ref m), (1, .int (nI 12))]) dX5_ofAll_52 rfl (by decide) rfl ?_
      refine ex_iinc (v := nI (r + 1)) (lv' := [(3, .int (nI (r + 1))), (2, .int ((sumB u q r) + (nI 1))), (0, .ref m), (1, .int (nI 12))]) 1 dX5_ofAll_53 rfl (nI_1 r) (by decide) rfl ?_
      refine ex_goto (tgt := 4) dX5_ofAll_56 (by decide) ?_
      have e2 := ih (r + 1) (by omega)
      have es : sumB u q (r + 1) = (sumB u q r) + (nI 1) := by rw [sumB]; rw [if_neg (bB_1 c_43)]; rfl
      rw [es] at e2
      refine ex_lv (lv2 := [(3, .int (nI (r + 1))), (2, .int ((sumB u q r) + (nI 1))), (0, .ref m), (1, .int (nI 12))]) [0, 1, 2, 3] rfl ?_
      exact e2

set_option maxRecDepth 20000 in
set_option maxHeartbeats 2000000 in
theorem m_ofP {G : GG} {l : Launch} {h0 : HP} {z m kk len : Nat} {n : Nat} {g : Option Nat} {t : Nat} {u : Nat → Int32} {q : Nat → Nat → Int32} (S0 : RP G h0 m kk len 0 (n, g, t, u, q)) (n8 : n ≤ 8) : Ct G l 2 0 0 yX5_ofAll cX5_ofAll 4 (some .int) [.ref m, .int (nI 17)] h0 z (p0 (.int (sumP q n)) h0 z) := by
  refine Ct.intro (lv := [(0, .ref m), (1, .int (nI 17))]) (by decide +kernel) (Nat.le_of_ble_eq_true rfl) rfl (fun X Q hQ hnm => ?_)
  have S := S0.rf
  refine ex_iconst (v := nI 0) dX5_ofAll_0 (by decide) ?_
  refine ex_istore_n (lv' := [(2, .int (nI 0)), (0, .ref m), (1, .int (nI 17))]) dX5_ofAll_1 rfl (by decide) rfl ?_
  refine ex_iconst (v := nI 0) dX5_ofAll_2 (by decide) ?_
  refine ex_istore_n (lv' := [(3, .int (nI 0)), (2, .int (nI 0)), (0, .ref m), (1, .int (nI 17))]) dX5_ofAll_3 rfl (by decide) rfl ?_
  suffices H : ∀ (k2 r : Nat), r + k2 = n → ex G l X Q 2 0 0 0 0 cX5_ofAll yX5_ofAll.cls 4 (some .int) h0 z 4 [(3, .int (nI r)), (2, .int (sumP q r)), (0, .ref m), (1, .int (nI 17))] [] from by
    have e2 := H n 0 (by omega)
    refine ex_lv (lv2 := [(3, .int (nI 0)), (2, .int (sumP q 0)), (0, .ref m), (1, .int (nI 17))]) [0, 1, 2, 3] rfl ?_
    exact e2
  intro k2
  induction k2 with
  | zero =>
    intro r hr
    obtain rfl : r = n := hr
    refine ex_iload_n 0 dX5_ofAll_4 rfl rfl ?_
    refine ex_aload_n 2 dX5_ofAll_5 rfl rfl ?_
    refine ex_get (v := .ref (m + 1)) fl_X5_7 S.1 rfl dX5_ofAll_6 ?_
    refine ex_bipush (v := nI 7) dX5_ofAll_9 (by decide) ?_
    refine exM_ld (p := 0) (i := 7) (v := nI r) S (by decide) rfl (by decide) rfl dX5_ofAll_11 ?_
    refine ex_icmp_ge (tgt := 59) dX5_ofAll_12 (by decide) (fun c_12 => ?_) (fun c_12 => absurd ((nI_leI (by omega) (by omega)).mpr (by omega)) c_12)
    refine ex_iload_n 1 dX5_ofAll_59 rfl rfl ?_
    exact ex_iret hQ rfl ⟨rfl, rfl, rfl⟩ dX5_ofAll_60
  | succ k2 ih =>
    intro r hr
    have hj : r < n := by omega
    refine ex_iload_n 0 dX5_ofAll_4 rfl rfl ?_
    refine ex_aload_n 2 dX5_ofAll_5 rfl rfl ?_
    refine ex_get (v := .ref (m + 1)) fl_X5_7 S.1 rfl dX5_ofAll_6 ?_
    refine ex_bipush (v := nI 7) dX5_ofAll_9 (by decide) ?_
    refine exM_ld (p := 0) (i := 7) (v := nI n) S (by decide) rfl (by decide) rfl dX5_ofAll_11 ?_
    refine ex_icmp_ge (tgt := 59) dX5_ofAll_12 (by decide) (fun c_12 => absurd c_12 (fun q9 => absurd ((nI_leI (by omega) (by omega)).mp q9) (by omega))) (fun c_12 => ?_)
    refine ex_iload_n 1 dX5_ofAll_15 rfl rfl ?_
    refine ex_iload_n 3 dX5_ofAll_16 rfl rfl ?_
    refine ex_bipush (v := nI 17) dX5_ofAll_17 (by decide) ?_
    refine ex_icmp_ne (tgt := 37) dX5_ofAll_19 (by decide) (fun c_19 => absurd (by decide) c_19) (fun c_19 => ?_)
    refine ex_aload_n 2 dX5_ofAll_22 rfl rfl ?_
    refine ex_get (v := .ref (m + 1)) fl_X5_7 S.1 rfl dX5_ofAll_23 ?_
    refine ex_iconst (v := nI 0) dX5_ofAll_26 (by decide) ?_
    refine ex_iload_n 0 dX5_ofAll_27 rfl rfl ?_
    refine ex_callS0 (As := [.int (nI 0), .int (nI r)]) (v := .int (nI (0 + 17 + 6 * r))) vl_X5_34 (m_at) rfl (by decide) (Nat.le_of_ble_eq_true rfl) (Nat.le_refl _) (Nat.le_refl _) rfl dX5_ofAll_28 ?_
    refine ex_iconst (v := nI 3) dX5_ofAll_31 (by decide) ?_
    refine ex_iaddN dX5_ofAll_32 ?_
    refine exM_ldq (p := 0) (j := r) (b := 3) (v := q r 3) S (by decide) rfl hj (by omega) (by decide) rfl dX5_ofAll_33 ?_
    refine ex_goto (tgt := 51) dX5_ofAll_34 (by decide) ?_
    refine ex_iadd dX5_ofAll_51 ?_
    refine ex_istore_n (lv' := [(2, .int ((sumP q r) + (q r 3))), (3, .int (nI r)), (0, .ref m), (1, .int (nI 17))]) dX5_ofAll_52 rfl (by decide) rfl ?_
    refine ex_iinc (v := nI (r + 1)) (lv' := [(3, .int (nI (r + 1))), (2, .int ((sumP q r) + (q r 3))), (0, .ref m), (1, .int (nI 17))]) 1 dX5_ofAll_53 rfl (nI_1 r) (by decide) rfl ?_
    refine ex_goto (tgt := 4) dX5_ofAll_56 (by decide) ?_
    have e2 := ih (r + 1) (by omega)
    refine ex_lv (lv2 := [(3, .int (nI (r + 1))), (2, .int ((sumP q r) + (q r 3))), (0, .ref m), (1, .int (nI 17))]) [0, 1, 2, 3] rfl ?_
    exact e2

theorem tabc9 {x : Int32} (h : ¬ inR x 21) : x.toInt < 9 ∨ 20 < x.toInt := by
  rcases tabc h (by decide) with c | c
  · exact Or.inl (Int.lt_trans c (by decide))
  · exact Or.inr c

set_option maxRecDepth 20000 in
set_option maxHeartbeats 2000000 in
theorem m_count {G : GG} {l : Launch} {h0 : HP} {z m : Nat} {n : Nat} {g : Option Nat} {t : Nat} {u : Nat → Int32} {q : Nat → Nat → Int32} {k len : Nat} {L : Nat → AS} {V : Nat → Option AS} {c : Nat → Nat} (S0 : MP G h0 m ((n, g, t, u, q), k, L, V, len, c)) (n8 : n ≤ 8) (nL : ∀ j, j < k → (L j).1 ≤ 8) (gw : ∀ i, g = some i → i < n) {x : Int32} : Ct G l 3 0 0 yX5_count cX5_count 2 (some .int) [.ref m, .int x] h0 z (pM G (X_count ((n, g, t, u, q), k, L, V, len, c) x, ((n, g, t, u, q), k, L, V, len, c)) h0 z m) := by
  refine Ct.intro (lv := [(0, .ref m), (1, .int x)]) (by decide +kernel) (Nat.le_of_ble_eq_true rfl) rfl (fun X Q hQ hnm => ?_)
  have S := S0
  rcases inR_or x 21 (by omega) with ⟨r, hx, rfl⟩ | hx
  · rcases (show r = 0 ∨ r = 1 ∨ r = 2 ∨ r = 3 ∨ r = 4 ∨ r = 5 ∨ r = 6 ∨ r = 7 ∨ r = 8 ∨ r = 9 ∨ r = 10 ∨ r = 11 ∨ r = 12 ∨ r = 13 ∨ r = 14 ∨ r = 15 ∨ r = 16 ∨ r = 17 ∨ r = 18 ∨ r = 19 ∨ r = 20 by omega) with rfl | rfl | rfl | rfl | rfl | rfl | rfl | rfl | rfl | rfl | rfl | rfl | rfl | rfl | rfl | rfl | rfl | rfl | rfl | rfl | rfl
    · refine ex_iload_n 1 dX5_count_0 rfl rfl ?_
      refine ex_tableOut (tgt := 143) dX5_count_1 (by decide) (by decide) ?_
      refine ex_iload_n 1 dX5_count_143 rfl rfl ?_
      refine ex_iconst (v := nI 0) dX5_count_144 (by decide) ?_
      refine ex_bipush (v := nI 11) dX5_count_145 (by decide) ?_
      refine ex_callS0 (As := [.int (nI 0), .int (nI 0), .int (nI 11)]) (v := .int (nI 1)) vl_X5_26 (Ct.mono (by rw [inV_t (by decide) (by decide)]) m_in) rfl (by decide) (Nat.le_of_ble_eq_true rfl) (Nat.le_refl _) (Nat.le_refl _) rfl dX5_count_147 ?_
      refine ex_if_eq (tgt := 162) dX5_count_150 (by decide) (fun c_150 => absurd c_150 (by decide)) (fun c_150 => ?_)
      refine ex_aload_n 0 dX5_count_153 rfl rfl ?_
      refine ex_get (v := .ref (m + 1)) fl_X5_7 S.ob rfl dX5_count_154 ?_
      refine ex_iload_n 1 dX5_count_157 rfl rfl ?_
      refine exM_ld (p := 0) (i := 0) (v := u 0) S.rp.rf (by decide) rfl (by decide) rfl dX5_count_158 ?_
      refine ex_goto (tgt := 164) dX5_count_159 (by decide) ?_
      exact ex_iret hQ rfl (by unfold X_count; rw [if_pos (inR_nI hx (by decide)), ixn (by decide)]; exact ⟨rfl, rfl, S⟩) dX5_count_164
    · refine ex_iload_n 1 dX5_count_0 rfl rfl ?_
      refine ex_tableOut (tgt := 143) dX5_count_1 (by decide) (by decide) ?_
      refine ex_iload_n 1 dX5_count_143 rfl rfl ?_
      refine ex_iconst (v := nI 0) dX5_count_144 (by decide) ?_
      refine ex_bipush (v := nI 11) dX5_count_145 (by decide) ?_
      refine ex_callS0 (As := [.int (nI 1), .int (nI 0), .int (nI 11)]) (v := .int (nI 1)) vl_X5_26 (Ct.mono (by rw [inV_t (by decide) (by decide)]) m_in) rfl (by decide) (Nat.le_of_ble_eq_true rfl) (Nat.le_refl _) (Nat.le_refl _) rfl dX5_count_147 ?_
      refine ex_if_eq (tgt := 162) dX5_count_150 (by decide) (fun c_150 => absurd c_150 (by decide)) (fun c_150 => ?_)
      refine ex_aload_n 0 dX5_count_153 rfl rfl ?_
      refine ex_get (v := .ref (m + 1)) fl_X5_7 S.ob rfl dX5_count_154 ?_
      refine ex_iload_n 1 dX5_count_157 rfl rfl ?_
      refine exM_ld (p := 0) (i := 1) (v := u 1) S.rp.rf (by decide) rfl (by decide) rfl dX5_count_158 ?_
      refine ex_goto (tgt := 164) dX5_count_159 (by decide) ?_
      exact ex_iret hQ rfl (by unfold X_count; rw [if_pos (inR_nI hx (by decide)), ixn (by decide)]; exact ⟨rfl, rfl, S⟩) dX5_count_164
    · refine ex_iload_n 1 dX5_count_0 rfl rfl ?_
      refine ex_tableOut (tgt := 143) dX5_count_1 (by decide) (by decide) ?_
      refine ex_iload_n 1 dX5_count_143 rfl rfl ?_
      refine ex_iconst (v := nI 0) dX5_count_144 (by decide) ?_
      refine ex_bipush (v := nI 11) dX5_count_145 (by decide) ?_
      refine ex_callS0 (As := [.int (nI 2), .int (nI 0), .int (nI 11)]) (v := .int (nI 1)) vl_X5_26 (Ct.mono (by rw [inV_t (by decide) (by decide)]) m_in) rfl (by decide) (Nat.le_of_ble_eq_true rfl) (Nat.le_refl _) (Nat.le_refl _) rfl dX5_count_147 ?_
      refine ex_if_eq (tgt := 162) dX5_count_150 (by decide) (fun c_150 => absurd c_150 (by decide)) (fun c_150 => ?_)
      refine ex_aload_n 0 dX5_count_153 rfl rfl ?_
      refine ex_get (v := .ref (m + 1)) fl_X5_7 S.ob rfl dX5_count_154 ?_
      refine ex_iload_n 1 dX5_count_157 rfl rfl ?_
      refine exM_ld (p := 0) (i := 2) (v := u 2) S.rp.rf (by decide) rfl (by decide) rfl dX5_count_158 ?_
      refine ex_goto (tgt := 164) dX5_count_159 (by decide) ?_
      exact ex_iret hQ rfl (by unfold X_count; rw [if_pos (inR_nI hx (by decide)), ixn (by decide)]; exact ⟨rfl, rfl, S⟩) dX5_count_164
    · refine ex_iload_n 1 dX5_count_0 rfl rfl ?_
      refine ex_tableOut (tgt := 143) dX5_count_1 (by decide) (by decide) ?_
      refine ex_iload_n 1 dX5_count_143 rfl rfl ?_
      refine ex_iconst (v := nI 0) dX5_count_144 (by decide) ?_
      refine ex_bipush (v := nI 11) dX5_count_145 (by decide) ?_
      refine ex_callS0 (As := [.int (nI 3), .int (nI 0), .int (nI 11)]) (v := .int (nI 1)) vl_X5_26 (Ct.mono (by rw [inV_t (by decide) (by decide)]) m_in) rfl (by decide) (Nat.le_of_ble_eq_true rfl) (Nat.le_refl _) (Nat.le_refl _) rfl dX5_count_147 ?_
      refine ex_if_eq (tgt := 162) dX5_count_150 (by decide) (fun c_150 => absurd c_150 (by decide)) (fun c_150 => ?_)
      refine ex_aload_n 0 dX5_count_153 rfl rfl ?_
      refine ex_get (v := .ref (m + 1)) fl_X5_7 S.ob rfl dX5_count_154 ?_
      refine ex_iload_n 1 dX5_count_157 rfl rfl ?_
      refine exM_ld (p := 0) (i := 3) (v := u 3) S.rp.rf (by decide) rfl (by decide) rfl dX5_count_158 ?_
      refine ex_goto (tgt := 164) dX5_count_159 (by decide) ?_
      exact ex_iret hQ rfl (by unfold X_count; rw [if_pos (inR_nI hx (by decide)), ixn (by decide)]; exact ⟨rfl, rfl, S⟩) dX5_count_164
    · refine ex_iload_n 1 dX5_count_0 rfl rfl ?_
      refine ex_tableOut (tgt := 143) dX5_count_1 (by decide) (by decide) ?_
      refine ex_iload_n 1 dX5_count_143 rfl rfl ?_
      refine ex_iconst (v := nI 0) dX5_count_144 (by decide) ?_
      refine ex_bipush (v := nI 11) dX5_count_145 (by decide) ?_
      refine ex_callS0 (As := [.int (nI 4), .int (nI 0), .int (nI 11)]) (v := .int (nI 1)) vl_X5_26 (Ct.mono (by rw [inV_t (by decide) (by decide)]) m_in) rfl (by decide) (Nat.le_of_ble_eq_true rfl) (Nat.le_refl _) (Nat.le_refl _) rfl dX5_count_147 ?_
      refine ex_if_eq (tgt := 162) dX5_count_150 (by decide) (fun c_150 => absurd c_150 (by decide)) (fun c_150 => ?_)
      refine ex_aload_n 0 dX5_count_153 rfl rfl ?_
      refine ex_get (v := .ref (m + 1)) fl_X5_7 S.ob rfl dX5_count_154 ?_
      refine ex_iload_n 1 dX5_count_157 rfl rfl ?_
      refine exM_ld (p := 0) (i := 4) (v := u 4) S.rp.rf (by decide) rfl (by decide) rfl dX5_count_158 ?_
      refine ex_goto (tgt := 164) dX5_count_159 (by decide) ?_
      exact ex_iret hQ rfl (by unfold X_count; rw [if_pos (inR_nI hx (by decide)), ixn (by decide)]; exact ⟨rfl, rfl, S⟩) dX5_count_164
    · refine ex_iload_n 1 dX5_count_0 rfl rfl ?_
      refine ex_tableOut (tgt := 143) dX5_count_1 (by decide) (by decide) ?_
      refine ex_iload_n 1 dX5_count_143 rfl rfl ?_
      refine ex_iconst (v := nI 0) dX5_count_144 (by decide) ?_
      refine ex_bipush (v := nI 11) dX5_count_145 (by decide) ?_
      refine ex_callS0 (As := [.int (nI 5), .int (nI 0), .int (nI 11)]) (v := .int (nI 1)) vl_X5_26 (Ct.mono (by rw [inV_t (by decide) (by decide)]) m_in) rfl (by decide) (Nat.le_of_ble_eq_true rfl) (Nat.le_refl _) (Nat.le_refl _) rfl dX5_count_147 ?_
      refine ex_if_eq (tgt := 162) dX5_count_150 (by decide) (fun c_150 => absurd c_150 (by decide)) (fun c_150 => ?_)
      refine ex_aload_n 0 dX5_count_153 rfl rfl ?_
      refine ex_get (v := .ref (m + 1)) fl_X5_7 S.ob rfl dX5_count_154 ?_
      refine ex_iload_n 1 dX5_count_157 rfl rfl ?_
      refine exM_ld (p := 0) (i := 5) (v := u 5) S.rp.rf (by decide) rfl (by decide) rfl dX5_count_158 ?_
      refine ex_goto (tgt := 164) dX5_count_159 (by decide) ?_
      exact ex_iret hQ rfl (by unfold X_count; rw [if_pos (inR_nI hx (by decide)), ixn (by decide)]; exact ⟨rfl, rfl, S⟩) dX5_count_164
    · refine ex_iload_n 1 dX5_count_0 rfl rfl ?_
      refine ex_tableOut (tgt := 143) dX5_count_1 (by decide) (by decide) ?_
      refine ex_iload_n 1 dX5_count_143 rfl rfl ?_
      refine ex_iconst (v := nI 0) dX5_count_144 (by decide) ?_
      refine ex_bipush (v := nI 11) dX5_count_145 (by decide) ?_
      refine ex_callS0 (As := [.int (nI 6), .int (nI 0), .int (nI 11)]) (v := .int (nI 1)) vl_X5_26 (Ct.mono (by rw [inV_t (by decide) (by decide)]) m_in) rfl (by decide) (Nat.le_of_ble_eq_true rfl) (Nat.le_refl _) (Nat.le_refl _) rfl dX5_count_147 ?_
      refine ex_if_eq (tgt := 162) dX5_count_150 (by decide) (fun c_150 => absurd c_150 (by decide)) (fun c_150 => ?_)
      refine ex_aload_n 0 dX5_count_153 rfl rfl ?_
      refine ex_get (v := .ref (m + 1)) fl_X5_7 S.ob rfl dX5_count_154 ?_
      refine ex_iload_n 1 dX5_count_157 rfl rfl ?_
      refine exM_ld (p := 0) (i := 6) (v := u 6) S.rp.rf (by decide) rfl (by decide) rfl dX5_count_158 ?_
      refine ex_goto (tgt := 164) dX5_count_159 (by decide) ?_
      exact ex_iret hQ rfl (by unfold X_count; rw [if_pos (inR_nI hx (by decide)), ixn (by decide)]; exact ⟨rfl, rfl, S⟩) dX5_count_164
    · refine ex_iload_n 1 dX5_count_0 rfl rfl ?_
      refine ex_tableOut (tgt := 143) dX5_count_1 (by decide) (by decide) ?_
      refine ex_iload_n 1 dX5_count_143 rfl rfl ?_
      refine ex_iconst (v := nI 0) dX5_count_144 (by decide) ?_
      refine ex_bipush (v := nI 11) dX5_count_145 (by decide) ?_
      refine ex_callS0 (As := [.int (nI 7), .int (nI 0), .int (nI 11)]) (v := .int (nI 1)) vl_X5_26 (Ct.mono (by rw [inV_t (by decide) (by decide)]) m_in) rfl (by decide) (Nat.le_of_ble_eq_true rfl) (Nat.le_refl _) (Nat.le_refl _) rfl dX5_count_147 ?_
      refine ex_if_eq (tgt := 162) dX5_count_150 (by decide) (fun c_150 => absurd c_150 (by decide)) (fun c_150 => ?_)
      refine ex_aload_n 0 dX5_count_153 rfl rfl ?_
      refine ex_get (v := .ref (m + 1)) fl_X5_7 S.ob rfl dX5_count_154 ?_
      refine ex_iload_n 1 dX5_count_157 rfl rfl ?_
      refine exM_ld (p := 0) (i := 7) (v := nI n) S.rp.rf (by decide) rfl (by decide) rfl dX5_count_158 ?_
      refine ex_goto (tgt := 164) dX5_count_159 (by decide) ?_
      exact ex_iret hQ rfl (by unfold X_count; rw [if_pos (inR_nI hx (by decide)), ixn (by decide)]; exact ⟨rfl, rfl, S⟩) dX5_count_164
    · refine ex_iload_n 1 dX5_count_0 rfl rfl ?_
      refine ex_tableOut (tgt := 143) dX5_count_1 (by decide) (by decide) ?_
      refine ex_iload_n 1 dX5_count_143 rfl rfl ?_
      refine ex_iconst (v := nI 0) dX5_count_144 (by decide) ?_
      refine ex_bipush (v := nI 11) dX5_count_145 (by decide) ?_
      refine ex_callS0 (As := [.int (nI 8), .int (nI 0), .int (nI 11)]) (v := .int (nI 1)) vl_X5_26 (Ct.mono (by rw [inV_t (by decide) (by decide)]) m_in) rfl (by decide) (Nat.le_of_ble_eq_true rfl) (Nat.le_refl _) (Nat.le_refl _) rfl dX5_count_147 ?_
      refine ex_if_eq (tgt := 162) dX5_count_150 (by decide) (fun c_150 => absurd c_150 (by decide)) (fun c_150 => ?_)
      refine ex_aload_n 0 dX5_count_153 rfl rfl ?_
      refine ex_get (v := .ref (m + 1)) fl_X5_7 S.ob rfl dX5_count_154 ?_
      refine ex_iload_n 1 dX5_count_157 rfl rfl ?_
      refine exM_ld (p := 0) (i := 8) (v := u 8) S.rp.rf (by decide) rfl (by decide) rfl dX5_count_158 ?_
      refine ex_goto (tgt := 164) dX5_count_159 (by decide) ?_
      exact ex_iret hQ rfl (by unfold X_count; rw [if_pos (inR_nI hx (by decide)), ixn (by decide)]; exact ⟨rfl, rfl, S⟩) dX5_count_164
    · rcases g with _ | i
      · refine ex_iload_n 1 dX5_count_0 rfl rfl ?_
        refine ex_tableIn (off := 63) (tgt := 64) dX5_count_1 (by decide) (by decide) (by decide) (by decide) ?_
        refine ex_aload_n 0 dX5_count_64 rfl rfl ?_
        refine ex_get (v := .ref (m + 1)) fl_X5_7 S.ob rfl dX5_count_65 ?_
        refine ex_bipush (v := nI 9) dX5_count_68 (by decide) ?_
        refine exM_ld (p := 0) (i := 9) (v := (-1)) S.rp.rf (by decide) rfl (by decide) rfl dX5_count_70 ?_
        refine ex_if_ge (tgt := 79) dX5_count_71 (by decide) (fun c_71 => absurd c_71 (by decide)) (fun c_71 => ?_)
        refine ex_bipush (v := (-6)) dX5_count_74 (by decide) ?_
        refine ex_goto (tgt := 86) dX5_count_76 (by decide) ?_
        exact ex_iret hQ rfl (by unfold X_count; rw [if_pos (inR_nI hx (by decide)), ixn (by decide)]; exact ⟨rfl, rfl, S⟩) dX5_count_86
      · have hi : i < n := gw i rfl
        refine ex_iload_n 1 dX5_count_0 rfl rfl ?_
        refine ex_tableIn (off := 63) (tgt := 64) dX5_count_1 (by decide) (by decide) (by decide) (by decide) ?_
        refine ex_aload_n 0 dX5_count_64 rfl rfl ?_
        refine ex_get (v := .ref (m + 1)) fl_X5_7 S.ob rfl dX5_count_65 ?_
        refine ex_bipush (v := nI 9) dX5_count_68 (by decide) ?_
        refine exM_ld (p := 0) (i := 9) (v := nI i) S.rp.rf (by decide) rfl (by decide) rfl dX5_count_70 ?_
        refine ex_if_ge (tgt := 79) dX5_count_71 (by decide) (fun c_71 => ?_) (fun c_71 => absurd (nI_pos' (by omega)) c_71)
        refine ex_aload_n 0 dX5_count_79 rfl rfl ?_
        refine ex_get (v := .ref (m + 1)) fl_X5_7 S.ob rfl dX5_count_80 ?_
        refine ex_bipush (v := nI 9) dX5_count_83 (by decide) ?_
        refine exM_ld (p := 0) (i := 9) (v := nI i) S.rp.rf (by decide) rfl (by decide) rfl dX5_count_85 ?_
        exact ex_iret hQ rfl (by unfold X_count; rw [if_pos (inR_nI hx (by decide)), ixn (by decide)]; exact ⟨rfl, rfl, S⟩) dX5_count_86
    · rcases g with _ | i
      · refine ex_iload_n 1 dX5_count_0 rfl rfl ?_
        refine ex_tableIn (off := 86) (tgt := 87) dX5_count_1 (by decide) (by decide) (by decide) (by decide) ?_
        refine ex_aload_n 0 dX5_count_87 rfl rfl ?_
        refine ex_get (v := .ref (m + 1)) fl_X5_7 S.ob rfl dX5_count_88 ?_
        refine ex_bipush (v := nI 9) dX5_count_91 (by decide) ?_
        refine exM_ld (p := 0) (i := 9) (v := (-1)) S.rp.rf (by decide) rfl (by decide) rfl dX5_count_93 ?_
        refine ex_if_ge (tgt := 107) dX5_count_94 (by decide) (fun c_94 => absurd c_94 (by decide)) (fun c_94 => ?_)
        refine ex_aload_n 0 dX5_count_97 rfl rfl ?_
        refine ex_get (v := .ref (m + 1)) fl_X5_7 S.ob rfl dX5_count_98 ?_
        refine ex_bipush (v := nI 10) dX5_count_101 (by decide) ?_
        refine exM_ld (p := 0) (i := 10) (v := nI t) S.rp.rf (by decide) rfl (by decide) rfl dX5_count_103 ?_
        refine ex_goto (tgt := 109) dX5_count_104 (by decide) ?_
        exact ex_iret hQ rfl (by unfold X_count; rw [if_pos (inR_nI hx (by decide)), ixn (by decide)]; exact ⟨rfl, rfl, S⟩) dX5_count_109
      · have hi : i < n := gw i rfl
        refine ex_iload_n 1 dX5_count_0 rfl rfl ?_
        refine ex_tableIn (off := 86) (tgt := 87) dX5_count_1 (by decide) (by decide) (by decide) (by decide) ?_
        refine ex_aload_n 0 dX5_count_87 rfl rfl ?_
        refine ex_get (v := .ref (m + 1)) fl_X5_7 S.ob rfl dX5_count_88 ?_
        refine ex_bipush (v := nI 9) dX5_count_91 (by decide) ?_
        refine exM_ld (p := 0) (i := 9) (v := nI i) S.rp.rf (by decide) rfl (by decide) rfl dX5_count_93 ?_
        refine ex_if_ge (tgt := 107) dX5_count_94 (by decide) (fun c_94 => ?_) (fun c_94 => absurd (nI_pos' (by omega)) c_94)
        refine ex_bipush (v := (-6)) dX5_count_107 (by decide) ?_
        exact ex_iret hQ rfl (by unfold X_count; rw [if_pos (inR_nI hx (by decide)), ixn (by decide)]; exact ⟨rfl, rfl, S⟩) dX5_count_109
    · refine ex_iload_n 1 dX5_count_0 rfl rfl ?_
      refine ex_tableIn (off := 142) (tgt := 143) dX5_count_1 (by decide) (by decide) (by decide) (by decide) ?_
      refine ex_iload_n 1 dX5_count_143 rfl rfl ?_
      refine ex_iconst (v := nI 0) dX5_count_144 (by decide) ?_
      refine ex_bipush (v := nI 11) dX5_count_145 (by decide) ?_
      refine ex_callS0 (As := [.int (nI 11), .int (nI 0), .int (nI 11)]) (v := .int (nI 1)) vl_X5_26 (Ct.mono (by rw [inV_t (by decide) (by decide)]) m_in) rfl (by decide) (Nat.le_of_ble_eq_true rfl) (Nat.le_refl _) (Nat.le_refl _) rfl dX5_count_147 ?_
      refine ex_if_eq (tgt := 162) dX5_count_150 (by decide) (fun c_150 => absurd c_150 (by decide)) (fun c_150 => ?_)
      refine ex_aload_n 0 dX5_count_153 rfl rfl ?_
      refine ex_get (v := .ref (m + 1)) fl_X5_7 S.ob rfl dX5_count_154 ?_
      refine ex_iload_n 1 dX5_count_157 rfl rfl ?_
      refine exM_ld (p := 0) (i := 11) (v := u 11) S.rp.rf (by decide) rfl (by decide) rfl dX5_count_158 ?_
      refine ex_goto (tgt := 164) dX5_count_159 (by decide) ?_
      exact ex_iret hQ rfl (by unfold X_count; rw [if_pos (inR_nI hx (by decide)), ixn (by decide)]; exact ⟨rfl, rfl, S⟩) dX5_count_164
    · refine ex_iload_n 1 dX5_count_0 rfl rfl ?_
      refine ex_tableIn (off := 109) (tgt := 110) dX5_count_1 (by decide) (by decide) (by decide) (by decide) ?_
      refine ex_aload_n 0 dX5_count_110 rfl rfl ?_
      refine ex_iload_n 1 dX5_count_111 rfl rfl ?_
      refine ex_call0 (As := [.int (nI 12)]) (v := .int (sumB u q n)) (ci := 5) vl_X5_106 rfl (m_ofB S.rp n8) S.ob rfl (by decide) (Nat.le_of_ble_eq_true rfl) (Nat.le_refl _) (Nat.le_refl _) rfl dX5_count_112 ?_
      exact ex_iret hQ rfl (by unfold X_count; rw [if_pos (inR_nI hx (by decide)), ixn (by decide)]; exact ⟨rfl, rfl, S⟩) dX5_count_115
    · refine ex_iload_n 1 dX5_count_0 rfl rfl ?_
      refine ex_tableIn (off := 115) (tgt := 116) dX5_count_1 (by decide) (by decide) (by decide) (by decide) ?_
      refine ex_aload_n 0 dX5_count_116 rfl rfl ?_
      refine ex_get (v := .ref (m + 1)) fl_X5_7 S.ob rfl dX5_count_117 ?_
      refine ex_iload_n 1 dX5_count_120 rfl rfl ?_
      refine ex_iconst (v := nI 1) dX5_count_121 (by decide) ?_
      refine ex_isubN dX5_count_122 (by decide) ?_
      refine exM_ld (p := 0) (i := 12) (v := u 12) S.rp.rf (by decide) rfl (by decide) rfl dX5_count_123 ?_
      exact ex_iret hQ rfl (by unfold X_count; rw [if_pos (inR_nI hx (by decide)), ixn (by decide)]; exact ⟨rfl, rfl, S⟩) dX5_count_124
    · refine ex_iload_n 1 dX5_count_0 rfl rfl ?_
      refine ex_tableIn (off := 115) (tgt := 116) dX5_count_1 (by decide) (by decide) (by decide) (by decide) ?_
      refine ex_aload_n 0 dX5_count_116 rfl rfl ?_
      refine ex_get (v := .ref (m + 1)) fl_X5_7 S.ob rfl dX5_count_117 ?_
      refine ex_iload_n 1 dX5_count_120 rfl rfl ?_
      refine ex_iconst (v := nI 1) dX5_count_121 (by decide) ?_
      refine ex_isubN dX5_count_122 (by decide) ?_
      refine exM_ld (p := 0) (i := 13) (v := u 13) S.rp.rf (by decide) rfl (by decide) rfl dX5_count_123 ?_
      exact ex_iret hQ rfl (by unfold X_count; rw [if_pos (inR_nI hx (by decide)), ixn (by decide)]; exact ⟨rfl, rfl, S⟩) dX5_count_124
    · refine ex_iload_n 1 dX5_count_0 rfl rfl ?_
      refine ex_tableIn (off := 115) (tgt := 116) dX5_count_1 (by decide) (by decide) (by decide) (by decide) ?_
      refine ex_aload_n 0 dX5_count_116 rfl rfl ?_
      refine ex_get (v := .ref (m + 1)) fl_X5_7 S.ob rfl dX5_count_117 ?_
      refine ex_iload_n 1 dX5_count_120 rfl rfl ?_
      refine ex_iconst (v := nI 1) dX5_count_121 (by decide) ?_
      refine ex_isubN dX5_count_122 (by decide) ?_
      refine exM_ld (p := 0) (i := 14) (v := u 14) S.rp.rf (by decide) rfl (by decide) rfl dX5_count_123 ?_
      exact ex_iret hQ rfl (by unfold X_count; rw [if_pos (inR_nI hx (by decide)), ixn (by decide)]; exact ⟨rfl, rfl, S⟩) dX5_count_124
    · refine ex_iload_n 1 dX5_count_0 rfl rfl ?_
      refine ex_tableIn (off := 115) (tgt := 116) dX5_count_1 (by decide) (by decide) (by decide) (by decide) ?_
      refine ex_aload_n 0 dX5_count_116 rfl rfl ?_
      refine ex_get (v := .ref (m + 1)) fl_X5_7 S.ob rfl dX5_count_117 ?_
      refine ex_iload_n 1 dX5_count_120 rfl rfl ?_
      refine ex_iconst (v := nI 1) dX5_count_121 (by decide) ?_
      refine ex_isubN dX5_count_122 (by decide) ?_
      refine exM_ld (p := 0) (i := 15) (v := u 15) S.rp.rf (by decide) rfl (by decide) rfl dX5_count_123 ?_
      exact ex_iret hQ rfl (by unfold X_count; rw [if_pos (inR_nI hx (by decide)), ixn (by decide)]; exact ⟨rfl, rfl, S⟩) dX5_count_124
    · refine ex_iload_n 1 dX5_count_0 rfl rfl ?_
      refine ex_tableIn (off := 109) (tgt := 110) dX5_count_1 (by decide) (by decide) (by decide) (by decide) ?_
      refine ex_aload_n 0 dX5_count_110 rfl rfl ?_
      refine ex_iload_n 1 dX5_count_111 rfl rfl ?_
      refine ex_call0 (As := [.int (nI 17)]) (v := .int (sumP q n)) (ci := 5) vl_X5_106 rfl (m_ofP S.rp n8) S.ob rfl (by decide) (Nat.le_of_ble_eq_true rfl) (Nat.le_refl _) (Nat.le_refl _) rfl dX5_count_112 ?_
      exact ex_iret hQ rfl (by unfold X_count; rw [if_pos (inR_nI hx (by decide)), ixn (by decide)]; exact ⟨rfl, rfl, S⟩) dX5_count_115
    · refine ex_iload_n 1 dX5_count_0 rfl rfl ?_
      refine ex_tableIn (off := 124) (tgt := 125) dX5_count_1 (by decide) (by decide) (by decide) (by decide) ?_
      refine ex_aload_n 0 dX5_count_125 rfl rfl ?_
      refine ex_get (v := .ref (m + 1)) fl_X5_7 S.ob rfl dX5_count_126 ?_
      refine ex_bipush (v := nI 16) dX5_count_129 (by decide) ?_
      refine exM_ld (p := 0) (i := 16) (v := u 16) S.rp.rf (by decide) rfl (by decide) rfl dX5_count_131 ?_
      exact ex_iret hQ rfl (by unfold X_count; rw [if_pos (inR_nI hx (by decide)), ixn (by decide)]; exact ⟨rfl, rfl, S⟩) dX5_count_132
    · refine ex_iload_n 1 dX5_count_0 rfl rfl ?_
      refine ex_tableIn (off := 132) (tgt := 133) dX5_count_1 (by decide) (by decide) (by decide) (by decide) ?_
      refine ex_aload_n 0 dX5_count_133 rfl rfl ?_
      refine ex_get (v := .int (nI len)) fl_X5_109 S.ob rfl dX5_count_134 ?_
      exact ex_iret hQ rfl (by unfold X_count; rw [if_pos (inR_nI hx (by decide)), ixn (by decide)]; exact ⟨rfl, rfl, S⟩) dX5_count_137
    · refine ex_iload_n 1 dX5_count_0 rfl rfl ?_
      refine ex_tableIn (off := 137) (tgt := 138) dX5_count_1 (by decide) (by decide) (by decide) (by decide) ?_
      refine ex_aload_n 0 dX5_count_138 rfl rfl ?_
      refine ex_get (v := .int (nI k)) fl_X5_30 S.ob rfl dX5_count_139 ?_
      exact ex_iret hQ rfl (by unfold X_count; rw [if_pos (inR_nI hx (by decide)), ixn (by decide)]; exact ⟨rfl, rfl, S⟩) dX5_count_142
  · have h12 : ¬ inR x 12 := fun q9 => hx ⟨q9.1, Int32.lt_of_lt_of_le q9.2 (by decide)⟩
    refine ex_iload_n 1 dX5_count_0 rfl rfl ?_
    refine ex_tableOut (tgt := 143) dX5_count_1 (tabc9 hx) (by decide) ?_
    refine ex_iload_n 1 dX5_count_143 rfl rfl ?_
    refine ex_iconst (v := nI 0) dX5_count_144 (by decide) ?_
    refine ex_bipush (v := nI 11) dX5_count_145 (by decide) ?_
    refine ex_callS0 (As := [.int x, .int (nI 0), .int (nI 11)]) (v := .int (nI 0)) vl_X5_26 (Ct.mono (by rw [inV_f h12 (by decide)]) m_in) rfl (by decide) (Nat.le_of_ble_eq_true rfl) (Nat.le_refl _) (Nat.le_refl _) rfl dX5_count_147 ?_
    refine ex_if_eq (tgt := 162) dX5_count_150 (by decide) (fun c_150 => ?_) (fun c_150 => absurd (by decide) c_150)
    refine ex_bipush (v := (-2)) dX5_count_162 (by decide) ?_
    exact ex_iret hQ rfl (by unfold X_count; rw [if_neg hx]; exact ⟨rfl, rfl, S⟩) dX5_count_164

