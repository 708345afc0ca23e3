theorem mx3a {x : Int32} (hm : 0 ≤ x) (h : x < nI 3) : mxI (nI 0) (x - nI 3) = nI 0 := by
  unfold mxI
  obtain ⟨j, hj, rfl⟩ := nI_of (Int32.not_lt.mpr hm)
  have := (nI_ltI hj (by decide)).mp h
  rcases (show j = 0 ∨ j = 1 ∨ j = 2 by omega) with rfl | rfl | rfl <;> decide
theorem nI_sub {a b : Nat} (h : b ≤ a) : nI a - nI b = nI (a - b) := by
  have e : nI a = nI (a - b) + nI b := by rw [nI_add, Nat.sub_add_cancel h]
  rw [e, Int32.add_sub_cancel]
theorem mx3b {x : Int32} (hm : 0 ≤ x) (h : ¬ x < nI 3) : mxI (nI 0) (x - nI 3) = x - nI 3 := by
  unfold mxI
  obtain ⟨j, hj, rfl⟩ := nI_of (Int32.not_lt.mpr hm)
  have h3 : 3 ≤ j := Nat.not_lt.mp (fun q => h ((nI_ltI hj (by decide)).mpr q))
  rw [nI_sub h3]
  by_cases c : nI 0 < nI (j - 3)
  · rw [if_pos c]
  · rw [if_neg c]
    have h9 : ¬ 0 < j - 3 := fun q => c ((nI_ltI (by decide) (by omega)).mpr q)
    congr 1
    omega

set_option maxRecDepth 20000 in
set_option maxHeartbeats 2000000 in
theorem m_purrs {G : GG} {l : Launch} {h0 : HP} {z m kk len p : Nat} {n : Nat} {g : Option Nat} {t : Nat} {u : Nat → Int32} {q : Nat → Nat → Int32} (S0 : RP G h0 m kk len p (n, g, t, u, q)) (hp : p ≤ 65) (n8 : n ≤ 8) (gw : ∀ i, g = some i → i < n) (tw : t < n ∨ t = 0) (hm : 0 ≤ u 8) : Ct G l 3 0 0 yX5_purrs cX5_purrs 3 (some .boolean) [.ref m, .int (nI p)] h0 z (pR G (some (.int (hB (hA (n, g, t, u, q)).2))) h0 z m kk len p ((hA (n, g, t, u, q)).1)) := by
  refine Ct.intro (lv := [(0, .ref m), (1, .int (nI p))]) (by decide +kernel) (Nat.le_of_ble_eq_true rfl) rfl (fun X Q hQ hnm => ?_)
  have S := S0.rf
  rcases g with _ | i
  · have eA : hA (n, none, t, u, q) = holdA n t u q := rfl
    refine ex_aload_n 0 dX5_purrs_0 rfl rfl ?_
    refine ex_get (v := .ref (m + 1)) fl_X5_7 S.1 rfl dX5_purrs_1 ?_
    refine ex_iload_n 1 dX5_purrs_4 rfl rfl ?_
    refine ex_bipush (v := nI 9) dX5_purrs_5 (by decide) ?_
    refine ex_iaddN dX5_purrs_7 ?_
    refine exM_ld (p := p) (i := 9) (v := (-1)) S hp rfl (by decide) rfl dX5_purrs_8 ?_
    refine ex_if_lt (tgt := 17) dX5_purrs_9 (by decide) (fun c_9 => ?_) (fun c_9 => absurd (by decide) c_9)
    refine ex_aload_n 0 dX5_purrs_17 rfl rfl ?_
    refine ex_iload_n 1 dX5_purrs_18 rfl rfl ?_
    refine ex_call0 (As := [.int (nI p)]) (v := .int (gv (hand n t u q))) (ci := 5) vl_X5_42 rfl (m_hand S.rp hp n8 tw) S.1 rfl (by decide) (Nat.le_of_ble_eq_true rfl) (Nat.le_refl _) (Nat.le_refl _) rfl dX5_purrs_19 ?_
    rcases hh : hand n t u q with _ | j
    · have e1 : hA (n, none, t, u, q) = ((n, none, t, u, q), none) := by rw [eA]; unfold holdA; rw [hh]
      refine ex_istore_n (lv' := [(2, .int (-6)), (0, .ref m), (1, .int (nI p))]) dX5_purrs_22 rfl (by decide) rfl ?_
      refine ex_iload_n 0 dX5_purrs_23 rfl rfl ?_
      refine ex_bipush (v := (-6)) dX5_purrs_24 (by decide) ?_
      refine ex_icmp_ne (tgt := 31) dX5_purrs_26 (by decide) (fun c_26 => absurd (rfl) c_26) (fun c_26 => ?_)
      refine ex_iconst (v := nI 0) dX5_purrs_29 (by decide) ?_
      exact ex_zret hQ rfl (by decide) (by rw [e1]; exact ⟨rfl, rfl, S⟩) dX5_purrs_30
    · have hj : j < n := hand_lt tw hh
      refine ex_istore_n (lv' := [(2, .int (nI j)), (0, .ref m), (1, .int (nI p))]) dX5_purrs_22 rfl (by decide) rfl ?_
      refine ex_iload_n 0 dX5_purrs_23 rfl rfl ?_
      refine ex_bipush (v := (-6)) dX5_purrs_24 (by decide) ?_
      refine ex_icmp_ne (tgt := 31) dX5_purrs_26 (by decide) (fun c_26 => ?_) (fun c_26 => absurd c_26 (nI_n6 (by omega)))
      refine ex_aload_n 1 dX5_purrs_31 rfl rfl ?_
      refine ex_iload_n 2 dX5_purrs_32 rfl rfl ?_
      refine ex_iload_n 0 dX5_purrs_33 rfl rfl ?_
      refine ex_call0 (As := [.int (nI p), .int (nI j)]) (v := .int (scI u q j)) (ci := 5) vl_X5_46 rfl (m_score S.rp hp n8 hj) S.1 rfl (by decide) (Nat.le_of_ble_eq_true rfl) (Nat.le_refl _) (Nat.le_refl _) rfl dX5_purrs_34 ?_
      refine ex_aload_n 1 dX5_purrs_37 rfl rfl ?_
      refine ex_get (v := .ref (m + 1)) fl_X5_7 S.1 rfl dX5_purrs_38 ?_
      refine ex_iload_n 2 dX5_purrs_41 rfl rfl ?_
      refine ex_iconst (v := nI 0) dX5_purrs_42 (by decide) ?_
      refine ex_iaddN dX5_purrs_43 ?_
      refine exM_ld (p := p) (i := 0) (v := u 0) S hp rfl (by decide) rfl dX5_purrs_44 ?_
      refine ex_icmp_lt (tgt := 89) dX5_purrs_45 (by decide) (fun c_45 => ?_) (fun c_45 => ?_)
      · refine ex_aload_n 1 dX5_purrs_89 rfl rfl ?_
        refine ex_iload_n 2 dX5_purrs_90 rfl rfl ?_
        refine ex_iload_n 0 dX5_purrs_91 rfl rfl ?_
        refine exM_call (As := [.int (nI p), .int (nI j)]) (r0 := none) (B := (n, none, t, (upd u 12 ((u 12) + nI 1)), (uq q j 2 ((q j 2) + nI 1)))) vl_X5_49 rfl S (fun S1 => m_scratches S1 hp n8 hj) rfl (by decide) (Nat.le_of_ble_eq_true rfl) (Nat.le_refl _) (Nat.le_refl _) rfl dX5_purrs_92 (fun h S => ?_)
        refine ex_aload_n 1 dX5_purrs_95 rfl rfl ?_
        refine ex_get (v := .ref (m + 1)) fl_X5_7 S.1 rfl dX5_purrs_96 ?_
        refine ex_iload_n 2 dX5_purrs_99 rfl rfl ?_
        refine ex_bipush (v := nI 8) dX5_purrs_100 (by decide) ?_
        refine ex_iaddN dX5_purrs_102 ?_
        refine ex_aload_n 1 dX5_purrs_103 rfl rfl ?_
        refine ex_get (v := .ref (m + 1)) fl_X5_7 S.1 rfl dX5_purrs_104 ?_
        refine ex_iload_n 2 dX5_purrs_107 rfl rfl ?_
        refine ex_bipush (v := nI 8) dX5_purrs_108 (by decide) ?_
        refine ex_iaddN dX5_purrs_110 ?_
        refine exM_ld (p := p) (i := 8) (v := u 8) S hp rfl (by decide) rfl dX5_purrs_111 ?_
        refine ex_iconst (v := nI 3) dX5_purrs_112 (by decide) ?_
        refine ex_icmp_ge (tgt := 120) dX5_purrs_113 (by decide) (fun c_113 => ?_) (fun c_113 => ?_)
        · refine ex_aload_n 1 dX5_purrs_120 rfl rfl ?_
          refine ex_get (v := .ref (m + 1)) fl_X5_7 S.1 rfl dX5_purrs_121 ?_
          refine ex_iload_n 2 dX5_purrs_124 rfl rfl ?_
          refine ex_bipush (v := nI 8) dX5_purrs_125 (by decide) ?_
          refine ex_iaddN dX5_purrs_127 ?_
          refine exM_ld (p := p) (i := 8) (v := u 8) S hp rfl (by decide) rfl dX5_purrs_128 ?_
          refine ex_iconst (v := nI 3) dX5_purrs_129 (by decide) ?_
          refine ex_isub dX5_purrs_130 ?_
          refine exM_stU (p := p) (i := 8) S hp rfl (by decide) (by decide) dX5_purrs_131 (fun h S => ?_)
          refine ex_aload_n 1 dX5_purrs_132 rfl rfl ?_
          refine ex_get (v := .ref (m + 1)) fl_X5_7 S.1 rfl dX5_purrs_133 ?_
          refine ex_iload_n 2 dX5_purrs_136 rfl rfl ?_
          refine ex_bipush (v := nI 10) dX5_purrs_137 (by decide) ?_
          refine ex_iaddN dX5_purrs_139 ?_
          refine ex_aload_n 1 dX5_purrs_140 rfl rfl ?_
          refine ex_iload_n 2 dX5_purrs_141 rfl rfl ?_
          refine ex_iload_n 0 dX5_purrs_142 rfl rfl ?_
          refine ex_call0 (As := [.int (nI p), .int (nI j)]) (v := .int (nI (bh n j))) (ci := 5) vl_X5_53 rfl (m_behind S.rp hp n8 hj) S.1 rfl (by decide) (Nat.le_of_ble_eq_true rfl) (Nat.le_refl _) (Nat.le_refl _) rfl dX5_purrs_143 ?_
          refine exM_stT (p := p) (t1 := bh n j) S hp rfl rfl dX5_purrs_146 (fun h S => ?_)
          refine ex_iconst (v := nI 0) dX5_purrs_147 (by decide) ?_
          have em : mxI (nI 0) (u 8 - nI 3) = (u 8) - (nI 3) := mx3b hm (Int32.not_lt.mpr c_113)
          have e1 : hA (n, none, t, u, q) = ((n, none, bh n j, (upd (upd u 12 ((u 12) + nI 1)) 8 ((u 8) - (nI 3))), (uq q j 2 ((q j 2) + nI 1))), none) := by rw [eA]; unfold holdA; rw [hh]; dsimp only; rw [if_pos c_45, em]
          exact ex_zret hQ rfl (by decide) (by rw [e1]; exact ⟨rfl, rfl, S⟩) dX5_purrs_148
        · refine ex_iconst (v := nI 0) dX5_purrs_116 (by decide) ?_
          refine ex_goto (tgt := 131) dX5_purrs_117 (by decide) ?_
          refine exM_stU (p := p) (i := 8) S hp rfl (by decide) (by decide) dX5_purrs_131 (fun h S => ?_)
          refine ex_aload_n 1 dX5_purrs_132 rfl rfl ?_
          refine ex_get (v := .ref (m + 1)) fl_X5_7 S.1 rfl dX5_purrs_133 ?_
          refine ex_iload_n 2 dX5_purrs_136 rfl rfl ?_
          refine ex_bipush (v := nI 10) dX5_purrs_137 (by decide) ?_
          refine ex_iaddN dX5_purrs_139 ?_
          refine ex_aload_n 1 dX5_purrs_140 rfl rfl ?_
          refine ex_iload_n 2 dX5_purrs_141 rfl rfl ?_
          refine ex_iload_n 0 dX5_purrs_142 rfl rfl ?_
          refine ex_call0 (As := [.int (nI p), .int (nI j)]) (v := .int (nI (bh n j))) (ci := 5) vl_X5_53 rfl (m_behind S.rp hp n8 hj) S.1 rfl (by decide) (Nat.le_of_ble_eq_true rfl) (Nat.le_refl _) (Nat.le_refl _) rfl dX5_purrs_143 ?_
          refine exM_stT (p := p) (t1 := bh n j) S hp rfl rfl dX5_purrs_146 (fun h S => ?_)
          refine ex_iconst (v := nI 0) dX5_purrs_147 (by decide) ?_
          have em : mxI (nI 0) (u 8 - nI 3) = nI 0 := mx3a hm (Int32.not_le.mp c_113)
          have e1 : hA (n, none, t, u, q) = ((n, none, bh n j, (upd (upd u 12 ((u 12) + nI 1)) 8 (nI 0)), (uq q j 2 ((q j 2) + nI 1))), none) := by rw [eA]; unfold holdA; rw [hh]; dsimp only; rw [if_pos c_45, em]
          exact ex_zret hQ rfl (by decide) (by rw [e1]; exact ⟨rfl, rfl, S⟩) dX5_purrs_148
      · refine ex_aload_n 1 dX5_purrs_48 rfl rfl ?_
        refine ex_get (v := .ref (m + 1)) fl_X5_7 S.1 rfl dX5_purrs_49 ?_
        refine ex_iload_n 2 dX5_purrs_52 rfl rfl ?_
        refine ex_bipush (v := nI 9) dX5_purrs_53 (by decide) ?_
        refine ex_iaddN dX5_purrs_55 ?_
        refine ex_iload_n 0 dX5_purrs_56 rfl rfl ?_
        refine exM_stG (p := p) (g1 := (some j)) S hp rfl rfl dX5_purrs_57 (fun h S => ?_)
        refine ex_aload_n 1 dX5_purrs_58 rfl rfl ?_
        refine ex_get (v := .ref (m + 1)) fl_X5_7 S.1 rfl dX5_purrs_59 ?_
        refine ex_iload_n 2 dX5_purrs_62 rfl rfl ?_
        refine ex_iload_n 0 dX5_purrs_63 rfl rfl ?_
        refine ex_callS0 (As := [.int (nI p), .int (nI j)]) (v := .int (nI (p + 17 + 6 * j))) vl_X5_34 (m_at) rfl (by decide) (Nat.le_of_ble_eq_true rfl) (Nat.le_refl _) (Nat.le_refl _) rfl dX5_purrs_64 ?_
        refine ex_iconst (v := nI 4) dX5_purrs_67 (by decide) ?_
        refine ex_iaddN dX5_purrs_68 ?_
        refine ex_dup2 dX5_purrs_69 rfl rfl ?_
        refine exM_ldq (p := p) (j := j) (b := 4) (v := q j 4) S hp rfl hj (by omega) (by decide) rfl dX5_purrs_70 ?_
        refine ex_iconst (v := nI 1) dX5_purrs_71 (by decide) ?_
        refine ex_iadd dX5_purrs_72 ?_
        refine exM_stQ (p := p) (j := j) (b := 4) S hp rfl (by omega) (by decide) dX5_purrs_73 (fun h S => ?_)
        refine ex_aload_n 1 dX5_purrs_74 rfl rfl ?_
        refine ex_get (v := .ref (m + 1)) fl_X5_7 S.1 rfl dX5_purrs_75 ?_
        refine ex_iload_n 2 dX5_purrs_78 rfl rfl ?_
        refine ex_bipush (v := nI 13) dX5_purrs_79 (by decide) ?_
        refine ex_iaddN dX5_purrs_81 ?_
        refine ex_dup2 dX5_purrs_82 rfl rfl ?_
        refine exM_ld (p := p) (i := 13) (v := u 13) S hp rfl (by decide) rfl dX5_purrs_83 ?_
        refine ex_iconst (v := nI 1) dX5_purrs_84 (by decide) ?_
        refine ex_iadd dX5_purrs_85 ?_
        refine exM_stU (p := p) (i := 13) S hp rfl (by decide) (by decide) dX5_purrs_86 (fun h S => ?_)
        refine ex_iconst (v := nI 1) dX5_purrs_87 (by decide) ?_
        have e1 : hA (n, none, t, u, q) = ((n, some j, t, upd u 13 (u 13 + nI 1), uq q j 4 (q j 4 + nI 1)), some j) := by rw [eA]; unfold holdA; rw [hh]; dsimp only; rw [if_neg c_45]
        exact ex_zret hQ rfl (by decide) (by rw [e1]; exact ⟨rfl, rfl, S⟩) dX5_purrs_88
  · have hi : i < n := gw i rfl
    have e1 : hA (n, some i, t, u, q) = ((n, some i, t, u, q), none) := rfl
    refine ex_aload_n 0 dX5_purrs_0 rfl rfl ?_
    refine ex_get (v := .ref (m + 1)) fl_X5_7 S.1 rfl dX5_purrs_1 ?_
    refine ex_iload_n 1 dX5_purrs_4 rfl rfl ?_
    refine ex_bipush (v := nI 9) dX5_purrs_5 (by decide) ?_
    refine ex_iaddN dX5_purrs_7 ?_
    refine exM_ld (p := p) (i := 9) (v := nI i) S hp rfl (by decide) rfl dX5_purrs_8 ?_
    refine ex_if_lt (tgt := 17) dX5_purrs_9 (by decide) (fun c_9 => absurd c_9 (nI_pos (by omega))) (fun c_9 => ?_)
    refine ex_bipush (v := (-6)) dX5_purrs_12 (by decide) ?_
    refine ex_goto (tgt := 22) dX5_purrs_14 (by decide) ?_
    refine ex_istore_n (lv' := [(2, .int (-6)), (0, .ref m), (1, .int (nI p))]) dX5_purrs_22 rfl (by decide) rfl ?_
    refine ex_iload_n 0 dX5_purrs_23 rfl rfl ?_
    refine ex_bipush (v := (-6)) dX5_purrs_24 (by decide) ?_
    refine ex_icmp_ne (tgt := 31) dX5_purrs_26 (by decide) (fun c_26 => absurd (rfl) c_26) (fun c_26 => ?_)
    refine ex_iconst (v := nI 0) dX5_purrs_29 (by decide) ?_
    exact ex_zret hQ rfl (by decide) (by rw [e1]; exact ⟨rfl, rfl, S⟩) dX5_purrs_30

set_option maxRecDepth 20000 in
set_option maxHeartbeats 2000000 in
theorem m_pays {G : GG} {l : Launch} {h0 : HP} {z m kk len p : Nat} {n : Nat} {g : Option Nat} {t : Nat} {u : Nat → Int32} {q : Nat → Nat → Int32} (S0 : RP G h0 m kk len p (n, g, t, u, q)) (hp : p ≤ 65) (n8 : n ≤ 8) (gw : ∀ i, g = some i → i < n) : Ct G l 1 0 0 yX5_pays cX5_pays 5 none [.ref m, .int (nI p)] h0 z (pR G none h0 z m kk len p (monthA (n, g, t, u, q))) := by
  refine Ct.intro (lv := [(0, .ref m), (1, .int (nI p))]) (by decide +kernel) (Nat.le_of_ble_eq_true rfl) rfl (fun X Q hQ hnm => ?_)
  have S := S0.rf
  rcases g with _ | i
  · refine ex_aload_n 0 dX5_pays_0 rfl rfl ?_
    refine ex_get (v := .ref (m + 1)) fl_X5_7 S.1 rfl dX5_pays_1 ?_
    refine ex_iload_n 1 dX5_pays_4 rfl rfl ?_
    refine ex_bipush (v := nI 9) dX5_pays_5 (by decide) ?_
    refine ex_iaddN dX5_pays_7 ?_
    refine exM_ld (p := p) (i := 9) (v := (-1)) S hp rfl (by decide) rfl dX5_pays_8 ?_
    refine ex_istore_n (lv' := [(2, .int (-1)), (0, .ref m), (1, .int (nI p))]) dX5_pays_9 rfl (by decide) rfl ?_
    refine ex_iload_n 0 dX5_pays_10 rfl rfl ?_
    refine ex_if_ge (tgt := 27) dX5_pays_11 (by decide) (fun c_11 => absurd c_11 (by decide)) (fun c_11 => ?_)
    refine ex_aload_n 1 dX5_pays_14 rfl rfl ?_
    refine ex_get (v := .ref (m + 1)) fl_X5_7 S.1 rfl dX5_pays_15 ?_
    refine ex_iload_n 2 dX5_pays_18 rfl rfl ?_
    refine ex_iconst (v := nI 1) dX5_pays_19 (by decide) ?_
    refine ex_iaddN dX5_pays_20 ?_
    refine exM_ld (p := p) (i := 1) (v := u 1) S hp rfl (by decide) rfl dX5_pays_21 ?_
    refine ex_iconst (v := nI 2) dX5_pays_22 (by decide) ?_
    refine ex_idiv dX5_pays_23 (by decide) ?_
    refine ex_goto (tgt := 35) dX5_pays_24 (by decide) ?_
    refine ex_aload_n 1 dX5_pays_35 rfl rfl ?_
    refine ex_get (v := .ref (m + 1)) fl_X5_7 S.1 rfl dX5_pays_36 ?_
    refine ex_iload_n 2 dX5_pays_39 rfl rfl ?_
    refine ex_bipush (v := nI 11) dX5_pays_40 (by decide) ?_
    refine ex_iaddN dX5_pays_42 ?_
    refine exM_ld (p := p) (i := 11) (v := u 11) S hp rfl (by decide) rfl dX5_pays_43 ?_
    refine ex_callS0 (As := [.int ((u 1) / (nI 2)), .int (u 11)]) (v := .int (mnI ((u 1) / (nI 2)) (u 11))) vl_X5_56 (m_less) rfl (by decide) (Nat.le_of_ble_eq_true rfl) (Nat.le_refl _) (Nat.le_refl _) rfl dX5_pays_44 ?_
    refine ex_istore_n (lv' := [(3, .int (mnI ((u 1) / (nI 2)) (u 11))), (2, .int (-1)), (0, .ref m), (1, .int (nI p))]) dX5_pays_47 rfl (by decide) rfl ?_
    refine ex_iload_n 1 dX5_pays_48 rfl rfl ?_
    refine ex_if_ge (tgt := 56) dX5_pays_49 (by decide) (fun c_49 => absurd c_49 (by decide)) (fun c_49 => ?_)
    refine ex_iload_n 0 dX5_pays_52 rfl rfl ?_
    refine ex_goto (tgt := 73) dX5_pays_53 (by decide) ?_
    refine ex_istore (lv' := [(4, .int (mnI ((u 1) / (nI 2)) (u 11))), (3, .int (mnI ((u 1) / (nI 2)) (u 11))), (2, .int (-1)), (0, .ref m), (1, .int (nI p))]) dX5_pays_73 (by decide) rfl ?_
    refine ex_aload_n 3 dX5_pays_75 rfl rfl ?_
    refine ex_get (v := .ref (m + 1)) fl_X5_7 S.1 rfl dX5_pays_76 ?_
    refine ex_iload_n 4 dX5_pays_79 rfl rfl ?_
    refine ex_bipush (v := nI 11) dX5_pays_80 (by decide) ?_
    refine ex_iaddN dX5_pays_82 ?_
    refine ex_dup2 dX5_pays_83 rfl rfl ?_
    refine exM_ld (p := p) (i := 11) (v := u 11) S hp rfl (by decide) rfl dX5_pays_84 ?_
    refine ex_iload_n 1 dX5_pays_85 rfl rfl ?_
    refine ex_isub dX5_pays_86 ?_
    refine exM_stU (p := p) (i := 11) S hp rfl (by decide) (by decide) dX5_pays_87 (fun h S => ?_)
    refine ex_aload_n 3 dX5_pays_88 rfl rfl ?_
    refine ex_get (v := .ref (m + 1)) fl_X5_7 S.1 rfl dX5_pays_89 ?_
    refine ex_iload_n 4 dX5_pays_92 rfl rfl ?_
    refine ex_bipush (v := nI 15) dX5_pays_93 (by decide) ?_
    refine ex_iaddN dX5_pays_95 ?_
    refine ex_dup2 dX5_pays_96 rfl rfl ?_
    refine exM_ld (p := p) (i := 15) (v := u 15) S hp rfl (by decide) rfl dX5_pays_97 ?_
    refine ex_iload 0 dX5_pays_98 rfl ?_
    refine ex_iadd dX5_pays_100 ?_
    refine exM_stU (p := p) (i := 15) S hp rfl (by decide) (by decide) dX5_pays_101 (fun h S => ?_)
    refine ex_iload_n 2 dX5_pays_102 rfl rfl ?_
    refine ex_if_lt (tgt := 179) dX5_pays_103 (by decide) (fun c_103 => ?_) (fun c_103 => absurd (by decide) c_103)
    exact ex_vret hQ rfl ⟨rfl, rfl, S⟩ dX5_pays_179
  · have hj : i < n := gw i rfl
    refine ex_aload_n 0 dX5_pays_0 rfl rfl ?_
    refine ex_get (v := .ref (m + 1)) fl_X5_7 S.1 rfl dX5_pays_1 ?_
    refine ex_iload_n 1 dX5_pays_4 rfl rfl ?_
    refine ex_bipush (v := nI 9) dX5_pays_5 (by decide) ?_
    refine ex_iaddN dX5_pays_7 ?_
    refine exM_ld (p := p) (i := 9) (v := nI i) S hp rfl (by decide) rfl dX5_pays_8 ?_
    refine ex_istore_n (lv' := [(2, .int (nI i)), (0, .ref m), (1, .int (nI p))]) dX5_pays_9 rfl (by decide) rfl ?_
    refine ex_iload_n 0 dX5_pays_10 rfl rfl ?_
    refine ex_if_ge (tgt := 27) dX5_pays_11 (by decide) (fun c_11 => ?_) (fun c_11 => absurd (nI_pos' (by omega)) c_11)
    refine ex_aload_n 1 dX5_pays_27 rfl rfl ?_
    refine ex_get (v := .ref (m + 1)) fl_X5_7 S.1 rfl dX5_pays_28 ?_
    refine ex_iload_n 2 dX5_pays_31 rfl rfl ?_
    refine ex_iconst (v := nI 1) dX5_pays_32 (by decide) ?_
    refine ex_iaddN dX5_pays_33 ?_
    refine exM_ld (p := p) (i := 1) (v := u 1) S hp rfl (by decide) rfl dX5_pays_34 ?_
    refine ex_aload_n 1 dX5_pays_35 rfl rfl ?_
    refine ex_get (v := .ref (m + 1)) fl_X5_7 S.1 rfl dX5_pays_36 ?_
    refine ex_iload_n 2 dX5_pays_39 rfl rfl ?_
    refine ex_bipush (v := nI 11) dX5_pays_40 (by decide) ?_
    refine ex_iaddN dX5_pays_42 ?_
    refine exM_ld (p := p) (i := 11) (v := u 11) S hp rfl (by decide) rfl dX5_pays_43 ?_
    refine ex_callS0 (As := [.int (u 1), .int (u 11)]) (v := .int (mnI (u 1) (u 11))) vl_X5_56 (m_less) rfl (by decide) (Nat.le_of_ble_eq_true rfl) (Nat.le_refl _) (Nat.le_refl _) rfl dX5_pays_44 ?_
    refine ex_istore_n (lv' := [(3, .int (mnI (u 1) (u 11))), (2, .int (nI i)), (0, .ref m), (1, .int (nI p))]) dX5_pays_47 rfl (by decide) rfl ?_
    refine ex_iload_n 1 dX5_pays_48 rfl rfl ?_
    refine ex_if_ge (tgt := 56) dX5_pays_49 (by decide) (fun c_49 => ?_) (fun c_49 => absurd (nI_pos' (by omega)) c_49)
    refine ex_iload_n 0 dX5_pays_56 rfl rfl ?_
    refine ex_aload_n 2 dX5_pays_57 rfl rfl ?_
    refine ex_get (v := .ref (m + 1)) fl_X5_7 S.1 rfl dX5_pays_58 ?_
    refine ex_iload_n 3 dX5_pays_61 rfl rfl ?_
    refine ex_iload_n 1 dX5_pays_62 rfl rfl ?_
    refine ex_callS0 (As := [.int (nI p), .int (nI i)]) (v := .int (nI (p + 17 + 6 * i))) vl_X5_34 (m_at) rfl (by decide) (Nat.le_of_ble_eq_true rfl) (Nat.le_refl _) (Nat.le_refl _) rfl dX5_pays_63 ?_
    refine ex_iconst (v := nI 1) dX5_pays_66 (by decide) ?_
    refine ex_iaddN dX5_pays_67 ?_
    refine exM_ldq (p := p) (j := i) (b := 1) (v := q i 1) S hp rfl hj (by omega) (by decide) rfl dX5_pays_68 ?_
    refine ex_imul dX5_pays_69 ?_
    refine ex_bipush (v := nI 100) dX5_pays_70 (by decide) ?_
    refine ex_idiv dX5_pays_72 (by decide) ?_
    refine ex_istore (lv' := [(4, .int (((mnI (u 1) (u 11)) * (q i 1)) / (nI 100))), (3, .int (mnI (u 1) (u 11))), (2, .int (nI i)), (0, .ref m), (1, .int (nI p))]) dX5_pays_73 (by decide) rfl ?_
    refine ex_aload_n 3 dX5_pays_75 rfl rfl ?_
    refine ex_get (v := .ref (m + 1)) fl_X5_7 S.1 rfl dX5_pays_76 ?_
    refine ex_iload_n 4 dX5_pays_79 rfl rfl ?_
    refine ex_bipush (v := nI 11) dX5_pays_80 (by decide) ?_
    refine ex_iaddN dX5_pays_82 ?_
    refine ex_dup2 dX5_pays_83 rfl rfl ?_
    refine exM_ld (p := p) (i := 11) (v := u 11) S hp rfl (by decide) rfl dX5_pays_84 ?_
    refine ex_iload_n 1 dX5_pays_85 rfl rfl ?_
    refine ex_isub dX5_pays_86 ?_
    refine exM_stU (p := p) (i := 11) S hp rfl (by decide) (by decide) dX5_pays_87 (fun h S => ?_)
    refine ex_aload_n 3 dX5_pays_88 rfl rfl ?_
    refine ex_get (v := .ref (m + 1)) fl_X5_7 S.1 rfl dX5_pays_89 ?_
    refine ex_iload_n 4 dX5_pays_92 rfl rfl ?_
    refine ex_bipush (v := nI 15) dX5_pays_93 (by decide) ?_
    refine ex_iaddN dX5_pays_95 ?_
    refine ex_dup2 dX5_pays_96 rfl rfl ?_
    refine exM_ld (p := p) (i := 15) (v := u 15) S hp rfl (by decide) rfl dX5_pays_97 ?_
    refine ex_iload 0 dX5_pays_98 rfl ?_
    refine ex_iadd dX5_pays_100 ?_
    refine exM_stU (p := p) (i := 15) S hp rfl (by decide) (by decide) dX5_pays_101 (fun h S => ?_)
    refine ex_iload_n 2 dX5_pays_102 rfl rfl ?_
    refine ex_if_lt (tgt := 179) dX5_pays_103 (by decide) (fun c_103 => absurd c_103 (nI_pos (by omega))) (fun c_103 => ?_)
    refine ex_aload_n 3 dX5_pays_106 rfl rfl ?_
    refine ex_get (v := .ref (m + 1)) fl_X5_7 S.1 rfl dX5_pays_107 ?_
    refine ex_iload_n 4 dX5_pays_110 rfl rfl ?_
    refine ex_iload_n 2 dX5_pays_111 rfl rfl ?_
    refine ex_callS0 (As := [.int (nI p), .int (nI i)]) (v := .int (nI (p + 17 + 6 * i))) vl_X5_34 (m_at) rfl (by decide) (Nat.le_of_ble_eq_true rfl) (Nat.le_refl _) (Nat.le_refl _) rfl dX5_pays_112 ?_
    refine ex_iconst (v := nI 3) dX5_pays_115 (by decide) ?_
    refine ex_iaddN dX5_pays_116 ?_
    refine ex_dup2 dX5_pays_117 rfl rfl ?_
    refine exM_ldq (p := p) (j := i) (b := 3) (v := q i 3) S hp rfl hj (by omega) (by decide) rfl dX5_pays_118 ?_
    refine ex_iload_n 1 dX5_pays_119 rfl rfl ?_
    refine ex_iload 0 dX5_pays_120 rfl ?_
    refine ex_isub dX5_pays_122 ?_
    refine ex_iadd dX5_pays_123 ?_
    refine exM_stQ (p := p) (j := i) (b := 3) S hp rfl (by omega) (by decide) dX5_pays_124 (fun h S => ?_)
    refine ex_aload_n 3 dX5_pays_125 rfl rfl ?_
    refine ex_get (v := .ref (m + 1)) fl_X5_7 S.1 rfl dX5_pays_126 ?_
    refine ex_iload_n 4 dX5_pays_129 rfl rfl ?_
    refine ex_bipush (v := nI 8) dX5_pays_130 (by decide) ?_
    refine ex_iaddN dX5_pays_132 ?_
    refine ex_aload_n 3 dX5_pays_133 rfl rfl ?_
    refine ex_get (v := .ref (m + 1)) fl_X5_7 S.1 rfl dX5_pays_134 ?_
    refine ex_iload_n 4 dX5_pays_137 rfl rfl ?_
    refine ex_bipush (v := nI 8) dX5_pays_138 (by decide) ?_
    refine ex_iaddN dX5_pays_140 ?_
    refine exM_ld (p := p) (i := 8) (v := u 8) S hp rfl (by decide) rfl dX5_pays_141 ?_
    refine ex_iload 0 dX5_pays_142 rfl ?_
    refine ex_iconst (v := nI 2) dX5_pays_144 (by decide) ?_
    refine ex_idiv dX5_pays_145 (by decide) ?_
    refine ex_iadd dX5_pays_146 ?_
    refine ex_bipush (v := nI 99) dX5_pays_147 (by decide) ?_
    refine ex_callS0 (As := [.int ((u 8) + ((((mnI (u 1) (u 11)) * (q i 1)) / (nI 100)) / (nI 2))), .int (nI 99)]) (v := .int (mnI (nI 99) ((u 8) + ((((mnI (u 1) (u 11)) * (q i 1)) / (nI 100)) / (nI 2))))) vl_X5_56 (Ct.mono (by rw [mnI_comm]) (m_less)) rfl (by decide) (Nat.le_of_ble_eq_true rfl) (Nat.le_refl _) (Nat.le_refl _) rfl dX5_pays_149 ?_
    refine exM_stU (p := p) (i := 8) S hp rfl (by decide) (by decide) dX5_pays_152 (fun h S => ?_)
    refine ex_aload_n 3 dX5_pays_153 rfl rfl ?_
    refine ex_get (v := .ref (m + 1)) fl_X5_7 S.1 rfl dX5_pays_154 ?_
    refine ex_iload_n 4 dX5_pays_157 rfl rfl ?_
    refine ex_bipush (v := nI 8) dX5_pays_158 (by decide) ?_
    refine ex_iaddN dX5_pays_160 ?_
    refine exM_ld (p := p) (i := 8) (v := mnI (nI 99) ((u 8) + ((((mnI (u 1) (u 11)) * (q i 1)) / (nI 100)) / (nI 2)))) S hp rfl (by decide) rfl dX5_pays_161 ?_
    refine ex_aload_n 3 dX5_pays_162 rfl rfl ?_
    refine ex_get (v := .ref (m + 1)) fl_X5_7 S.1 rfl dX5_pays_163 ?_
    refine ex_iload_n 4 dX5_pays_166 rfl rfl ?_
    refine ex_iconst (v := nI 5) dX5_pays_167 (by decide) ?_
    refine ex_iaddN dX5_pays_168 ?_
    refine exM_ld (p := p) (i := 5) (v := u 5) S hp rfl (by decide) rfl dX5_pays_169 ?_
    refine ex_icmp_ge (tgt := 179) dX5_pays_170 (by decide) (fun c_170 => ?_) (fun c_170 => ?_)
    · exact ex_vret hQ rfl (by unfold monthA; dsimp only; rw [if_neg (Int32.not_lt.mpr c_170)]; exact ⟨rfl, rfl, S⟩) dX5_pays_179
    · refine ex_aload_n 3 dX5_pays_173 rfl rfl ?_
      refine ex_iload_n 4 dX5_pays_174 rfl rfl ?_
      refine ex_iconst (v := nI 0) dX5_pays_175 (by decide) ?_
      refine exM_call (As := [.int (nI p), .int (nI 0)]) (r0 := none) (B := (n, none, 0, (upd (upd (upd (upd u 11 ((u 11) - (mnI (u 1) (u 11)))) 15 ((u 15) + (((mnI (u 1) (u 11)) * (q i 1)) / (nI 100)))) 8 (mnI (nI 99) ((u 8) + ((((mnI (u 1) (u 11)) * (q i 1)) / (nI 100)) / (nI 2))))) 14 ((u 14) + nI 1)), (uq q i 3 ((q i 3) + ((mnI (u 1) (u 11)) - (((mnI (u 1) (u 11)) * (q i 1)) / (nI 100))))))) vl_X5_59 rfl S (fun S1 => m_deposes S1 hp n8) rfl (by decide) (Nat.le_of_ble_eq_true rfl) (Nat.le_refl _) (Nat.le_refl _) rfl dX5_pays_176 (fun h S => ?_)
      exact ex_vret hQ rfl (by unfold monthA; dsimp only; rw [if_pos (Int32.not_le.mp c_170)]; exact ⟨rfl, rfl, S⟩) dX5_pays_179

