set_option maxRecDepth 20000 in
set_option maxHeartbeats 2000000 in
theorem m_low {G : GG} {l : Launch} {h0 : HP} {z : Nat} {j : Nat} (hj : j < 6) : Ct G l 0 0 0 yX5_lowOf cX5_lowOf 1 (some .int) [.int (nI j)] h0 z (p0 (.int (stV 1 j)) h0 z) := by
  refine Ct.intro (lv := [(0, .int (nI j))]) (by decide +kernel) (Nat.le_of_ble_eq_true rfl) rfl (fun X Q hQ hnm => ?_)
  rcases (show j = 0 ∨ j = 1 ∨ j = 2 ∨ j = 3 ∨ j = 4 ∨ j = 5 by omega) with rfl | rfl | rfl | rfl | rfl | rfl
  · refine ex_iload_n 0 dX5_lowOf_0 rfl rfl ?_
    refine ex_if_eq (tgt := 9) dX5_lowOf_1 (by decide) (fun c_1 => ?_) (fun c_1 => absurd (by decide) c_1)
    refine ex_iconst (v := nI 1) dX5_lowOf_9 (by decide) ?_
    refine ex_goto (tgt := 23) dX5_lowOf_10 (by decide) ?_
    exact ex_iret hQ rfl ⟨rfl, rfl, rfl⟩ dX5_lowOf_23
  · refine ex_iload_n 0 dX5_lowOf_0 rfl rfl ?_
    refine ex_if_eq (tgt := 9) dX5_lowOf_1 (by decide) (fun c_1 => absurd c_1 (by decide)) (fun c_1 => ?_)
    refine ex_iload_n 0 dX5_lowOf_4 rfl rfl ?_
    refine ex_iconst (v := nI 4) dX5_lowOf_5 (by decide) ?_
    refine ex_icmp_ne (tgt := 13) dX5_lowOf_6 (by decide) (fun c_6 => ?_) (fun c_6 => absurd c_6 (by decide))
    refine ex_iload_n 0 dX5_lowOf_13 rfl rfl ?_
    refine ex_iconst (v := nI 3) dX5_lowOf_14 (by decide) ?_
    refine ex_icmp_ne (tgt := 22) dX5_lowOf_15 (by decide) (fun c_15 => ?_) (fun c_15 => absurd c_15 (by decide))
    refine ex_iconst (v := nI 0) dX5_lowOf_22 (by decide) ?_
    exact ex_iret hQ rfl ⟨rfl, rfl, rfl⟩ dX5_lowOf_23
  · refine ex_iload_n 0 dX5_lowOf_0 rfl rfl ?_
    refine ex_if_eq (tgt := 9) dX5_lowOf_1 (by decide) (fun c_1 => absurd c_1 (by decide)) (fun c_1 => ?_)
    refine ex_iload_n 0 dX5_lowOf_4 rfl rfl ?_
    refine ex_iconst (v := nI 4) dX5_lowOf_5 (by decide) ?_
    refine ex_icmp_ne (tgt := 13) dX5_lowOf_6 (by decide) (fun c_6 => ?_) (fun c_6 => absurd c_6 (by decide))
    refine ex_iload_n 0 dX5_lowOf_13 rfl rfl ?_
    refine ex_iconst (v := nI 3) dX5_lowOf_14 (by decide) ?_
    refine ex_icmp_ne (tgt := 22) dX5_lowOf_15 (by decide) (fun c_15 => ?_) (fun c_15 => absurd c_15 (by decide))
    refine ex_iconst (v := nI 0) dX5_lowOf_22 (by decide) ?_
    exact ex_iret hQ rfl ⟨rfl, rfl, rfl⟩ dX5_lowOf_23
  · refine ex_iload_n 0 dX5_lowOf_0 rfl rfl ?_
    refine ex_if_eq (tgt := 9) dX5_lowOf_1 (by decide) (fun c_1 => absurd c_1 (by decide)) (fun c_1 => ?_)
    refine ex_iload_n 0 dX5_lowOf_4 rfl rfl ?_
    refine ex_iconst (v := nI 4) dX5_lowOf_5 (by decide) ?_
    refine ex_icmp_ne (tgt := 13) dX5_lowOf_6 (by decide) (fun c_6 => ?_) (fun c_6 => absurd c_6 (by decide))
    refine ex_iload_n 0 dX5_lowOf_13 rfl rfl ?_
    refine ex_iconst (v := nI 3) dX5_lowOf_14 (by decide) ?_
    refine ex_icmp_ne (tgt := 22) dX5_lowOf_15 (by decide) (fun c_15 => absurd (by decide) c_15) (fun c_15 => ?_)
    refine ex_iconst (v := nI 5) dX5_lowOf_18 (by decide) ?_
    refine ex_goto (tgt := 23) dX5_lowOf_19 (by decide) ?_
    exact ex_iret hQ rfl ⟨rfl, rfl, rfl⟩ dX5_lowOf_23
  · refine ex_iload_n 0 dX5_lowOf_0 rfl rfl ?_
    refine ex_if_eq (tgt := 9) dX5_lowOf_1 (by decide) (fun c_1 => absurd c_1 (by decide)) (fun c_1 => ?_)
    refine ex_iload_n 0 dX5_lowOf_4 rfl rfl ?_
    refine ex_iconst (v := nI 4) dX5_lowOf_5 (by decide) ?_
    refine ex_icmp_ne (tgt := 13) dX5_lowOf_6 (by decide) (fun c_6 => absurd (by decide) c_6) (fun c_6 => ?_)
    refine ex_iconst (v := nI 1) dX5_lowOf_9 (by decide) ?_
    refine ex_goto (tgt := 23) dX5_lowOf_10 (by decide) ?_
    exact ex_iret hQ rfl ⟨rfl, rfl, rfl⟩ dX5_lowOf_23
  · refine ex_iload_n 0 dX5_lowOf_0 rfl rfl ?_
    refine ex_if_eq (tgt := 9) dX5_lowOf_1 (by decide) (fun c_1 => absurd c_1 (by decide)) (fun c_1 => ?_)
    refine ex_iload_n 0 dX5_lowOf_4 rfl rfl ?_
    refine ex_iconst (v := nI 4) dX5_lowOf_5 (by decide) ?_
    refine ex_icmp_ne (tgt := 13) dX5_lowOf_6 (by decide) (fun c_6 => ?_) (fun c_6 => absurd c_6 (by decide))
    refine ex_iload_n 0 dX5_lowOf_13 rfl rfl ?_
    refine ex_iconst (v := nI 3) dX5_lowOf_14 (by decide) ?_
    refine ex_icmp_ne (tgt := 22) dX5_lowOf_15 (by decide) (fun c_15 => ?_) (fun c_15 => absurd c_15 (by decide))
    refine ex_iconst (v := nI 0) dX5_lowOf_22 (by decide) ?_
    exact ex_iret hQ rfl ⟨rfl, rfl, rfl⟩ dX5_lowOf_23

set_option maxRecDepth 20000 in
set_option maxHeartbeats 2000000 in
theorem m_high {G : GG} {l : Launch} {h0 : HP} {z : Nat} {j : Nat} (hj : j < 6) : Ct G l 0 0 0 yX5_highOf cX5_highOf 1 (some .int) [.int (nI j)] h0 z (p0 (.int (stV 2 j)) h0 z) := by
  refine Ct.intro (lv := [(0, .int (nI j))]) (by decide +kernel) (Nat.le_of_ble_eq_true rfl) rfl (fun X Q hQ hnm => ?_)
  rcases (show j = 0 ∨ j = 1 ∨ j = 2 ∨ j = 3 ∨ j = 4 ∨ j = 5 by omega) with rfl | rfl | rfl | rfl | rfl | rfl
  · refine ex_iload_n 0 dX5_highOf_0 rfl rfl ?_
    refine ex_tableOut (tgt := 44) dX5_highOf_1 (by decide) (by decide) ?_
    refine ex_sipush (v := nI 200) dX5_highOf_44 (by decide) ?_
    exact ex_iret hQ rfl ⟨rfl, rfl, rfl⟩ dX5_highOf_47
  · refine ex_iload_n 0 dX5_highOf_0 rfl rfl ?_
    refine ex_tableOut (tgt := 44) dX5_highOf_1 (by decide) (by decide) ?_
    refine ex_sipush (v := nI 200) dX5_highOf_44 (by decide) ?_
    exact ex_iret hQ rfl ⟨rfl, rfl, rfl⟩ dX5_highOf_47
  · refine ex_iload_n 0 dX5_highOf_0 rfl rfl ?_
    refine ex_tableIn (off := 31) (tgt := 32) dX5_highOf_1 (by decide) (by decide) (by decide) (by decide) ?_
    refine ex_bipush (v := nI 99) dX5_highOf_32 (by decide) ?_
    exact ex_iret hQ rfl ⟨rfl, rfl, rfl⟩ dX5_highOf_34
  · refine ex_iload_n 0 dX5_highOf_0 rfl rfl ?_
    refine ex_tableIn (off := 34) (tgt := 35) dX5_highOf_1 (by decide) (by decide) (by decide) (by decide) ?_
    refine ex_bipush (v := nI 40) dX5_highOf_35 (by decide) ?_
    exact ex_iret hQ rfl ⟨rfl, rfl, rfl⟩ dX5_highOf_37
  · refine ex_iload_n 0 dX5_highOf_0 rfl rfl ?_
    refine ex_tableIn (off := 37) (tgt := 38) dX5_highOf_1 (by decide) (by decide) (by decide) (by decide) ?_
    refine ex_bipush (v := nI 9) dX5_highOf_38 (by decide) ?_
    exact ex_iret hQ rfl ⟨rfl, rfl, rfl⟩ dX5_highOf_40
  · refine ex_iload_n 0 dX5_highOf_0 rfl rfl ?_
    refine ex_tableIn (off := 40) (tgt := 41) dX5_highOf_1 (by decide) (by decide) (by decide) (by decide) ?_
    refine ex_bipush (v := nI 60) dX5_highOf_41 (by decide) ?_
    exact ex_iret hQ rfl ⟨rfl, rfl, rfl⟩ dX5_highOf_43

theorem inV_n {x : Int32} {n : Nat} (h : ¬ inR x n) (hn : n ≤ 8) : inV x (nI 0) (nI n - nI 1) = nI 0 := by
  rcases Nat.eq_zero_or_pos n with c | c
  · subst c
    unfold inV
    rw [if_neg (fun q => absurd (Int32.le_trans q.1 q.2) (by decide))]
  · rw [nI_sub c]
    exact inV_f (K := n - 1) (by rw [Nat.sub_add_cancel c]; exact h) (by omega)
theorem inV_m {j n : Nat} (h : j < n) (hn : n ≤ 8) : inV (nI j) (nI 0) (nI n - nI 1) = nI 1 := by
  rw [nI_sub (by omega)]
  exact inV_t (by omega) (by omega)

set_option maxRecDepth 20000 in
set_option maxHeartbeats 2000000 in
theorem m_isPersonT {G : GG} {l : Launch} {h0 : HP} {z m kk len : Nat} {n : Nat} {g : Option Nat} {t : Nat} {u : Nat → Int32} {q : Nat → Nat → Int32} (S0 : RP G h0 m kk len 0 (n, g, t, u, q)) (n8 : n ≤ 8) {j : Nat} (hj : j < n) : Ct G l 1 0 0 yX5_isPerson cX5_isPerson 2 (some .boolean) [.ref m, .int (nI j)] h0 z (p0 (.int (nI 1)) h0 z) := by
  refine Ct.intro (lv := [(0, .ref m), (1, .int (nI j))]) (by decide +kernel) (Nat.le_of_ble_eq_true rfl) rfl (fun X Q hQ hnm => ?_)
  have S := S0.rf
  refine ex_iload_n 1 dX5_isPerson_0 rfl rfl ?_
  refine ex_iconst (v := nI 0) dX5_isPerson_1 (by decide) ?_
  refine ex_aload_n 0 dX5_isPerson_2 rfl rfl ?_
  refine ex_get (v := .ref (m + 1)) fl_X5_7 S.1 rfl dX5_isPerson_3 ?_
  refine ex_bipush (v := nI 7) dX5_isPerson_6 (by decide) ?_
  refine exM_ld (p := 0) (i := 7) (v := nI n) S (by decide) rfl (by decide) rfl dX5_isPerson_8 ?_
  refine ex_iconst (v := nI 1) dX5_isPerson_9 (by decide) ?_
  refine ex_isub dX5_isPerson_10 ?_
  refine ex_callS0 (As := [.int (nI j), .int (nI 0), .int ((nI n) - (nI 1))]) (v := .int (nI 1)) vl_X5_26 (Ct.mono (by rw [inV_m hj n8]) m_in) rfl (by decide) (Nat.le_of_ble_eq_true rfl) (Nat.le_refl _) (Nat.le_refl _) rfl dX5_isPerson_11 ?_
  exact ex_zret hQ rfl (by decide) ⟨rfl, rfl, rfl⟩ dX5_isPerson_14

set_option maxRecDepth 20000 in
set_option maxHeartbeats 2000000 in
theorem m_isPersonF {G : GG} {l : Launch} {h0 : HP} {z m kk len : Nat} {n : Nat} {g : Option Nat} {t : Nat} {u : Nat → Int32} {q : Nat → Nat → Int32} (S0 : RP G h0 m kk len 0 (n, g, t, u, q)) (n8 : n ≤ 8) {x : Int32} (hx : ¬ inR x n) : Ct G l 1 0 0 yX5_isPerson cX5_isPerson 2 (some .boolean) [.ref m, .int x] h0 z (p0 (.int (nI 0)) h0 z) := by
  refine Ct.intro (lv := [(0, .ref m), (1, .int x)]) (by decide +kernel) (Nat.le_of_ble_eq_true rfl) rfl (fun X Q hQ hnm => ?_)
  have S := S0.rf
  refine ex_iload_n 1 dX5_isPerson_0 rfl rfl ?_
  refine ex_iconst (v := nI 0) dX5_isPerson_1 (by decide) ?_
  refine ex_aload_n 0 dX5_isPerson_2 rfl rfl ?_
  refine ex_get (v := .ref (m + 1)) fl_X5_7 S.1 rfl dX5_isPerson_3 ?_
  refine ex_bipush (v := nI 7) dX5_isPerson_6 (by decide) ?_
  refine exM_ld (p := 0) (i := 7) (v := nI n) S (by decide) rfl (by decide) rfl dX5_isPerson_8 ?_
  refine ex_iconst (v := nI 1) dX5_isPerson_9 (by decide) ?_
  refine ex_isub dX5_isPerson_10 ?_
  refine ex_callS0 (As := [.int x, .int (nI 0), .int ((nI n) - (nI 1))]) (v := .int (nI 0)) vl_X5_26 (Ct.mono (by rw [inV_n hx n8]) m_in) rfl (by decide) (Nat.le_of_ble_eq_true rfl) (Nat.le_refl _) (Nat.le_refl _) rfl dX5_isPerson_11 ?_
  exact ex_zret hQ rfl (by decide) ⟨rfl, rfl, rfl⟩ dX5_isPerson_14

set_option maxRecDepth 20000 in
set_option maxHeartbeats 2000000 in
theorem m_set {G : GG} {l : Launch} {h0 : HP} {z m : Nat} {n : Nat} {g : Option Nat} {t : Nat} {u : Nat → Int32} {q : Nat → Nat → Int32} {k len : Nat} {L : Nat → AS} {V : Nat → Option AS} {c : Nat → Nat} (S0 : MP G h0 m ((n, g, t, u, q), k, L, V, len, c)) (n8 : n ≤ 8) (nL : ∀ j, j < k → (L j).1 ≤ 8) {s v : Int32} : Ct G l 1 0 0 yX5_set cX5_set 4 (some .int) [.ref m, .int s, .int v] h0 z (pM G (X_set ((n, g, t, u, q), k, L, V, len, c) s v) h0 z m) := by
  refine Ct.intro (lv := [(0, .ref m), (1, .int s), (2, .int v)]) (by decide +kernel) (Nat.le_of_ble_eq_true rfl) rfl (fun X Q hQ hnm => ?_)
  have S := S0
  rcases inR_or s 6 (by omega) with ⟨j, hs, rfl⟩ | hs
  · refine ex_iload_n 1 dX5_set_0 rfl rfl ?_
    refine ex_iconst (v := nI 0) dX5_set_1 (by decide) ?_
    refine ex_iconst (v := nI 5) dX5_set_2 (by decide) ?_
    refine ex_callS0 (As := [.int (nI j), .int (nI 0), .int (nI 5)]) (v := .int (nI 1)) vl_X5_26 (Ct.mono (by rw [inV_t (show j ≤ 5 by omega) (by decide)]) m_in) rfl (by decide) (Nat.le_of_ble_eq_true rfl) (Nat.le_refl _) (Nat.le_refl _) rfl dX5_set_3 ?_
    refine ex_if_eq (tgt := 24) dX5_set_6 (by decide) (fun c_6 => absurd c_6 (by decide)) (fun c_6 => ?_)
    refine ex_iload_n 2 dX5_set_9 rfl rfl ?_
    refine ex_iload_n 1 dX5_set_10 rfl rfl ?_
    refine ex_callS0 (As := [.int (nI j)]) (v := .int (stV 1 j)) vl_X5_81 (m_low hs) rfl (by decide) (Nat.le_of_ble_eq_true rfl) (Nat.le_refl _) (Nat.le_refl _) rfl dX5_set_11 ?_
    refine ex_iload_n 1 dX5_set_14 rfl rfl ?_
    refine ex_callS0 (As := [.int (nI j)]) (v := .int (stV 2 j)) vl_X5_84 (m_high hs) rfl (by decide) (Nat.le_of_ble_eq_true rfl) (Nat.le_refl _) (Nat.le_refl _) rfl dX5_set_15 ?_
    by_cases hv : stV 1 j ≤ v ∧ v ≤ stV 2 j
    · refine ex_callS0 (As := [.int v, .int (stV 1 j), .int (stV 2 j)]) (v := .int (nI 1)) vl_X5_26 (Ct.mono (by rw [show inV v (stV 1 j) (stV 2 j) = nI 1 from if_pos hv]) m_in) rfl (by decide) (Nat.le_of_ble_eq_true rfl) (Nat.le_refl _) (Nat.le_refl _) rfl dX5_set_18 ?_
      refine ex_if_ne (tgt := 27) dX5_set_21 (by decide) (fun c_21 => ?_) (fun c_21 => absurd c_21 (by decide))
      refine ex_aload_n 0 dX5_set_27 rfl rfl ?_
      refine ex_callV (As := []) (ci := 5) vl_X5_87 rfl (m_rem (S.kept (fun _ _ _ => rfl)) n8 nL) S.ob rfl (by decide) (Nat.le_of_ble_eq_true rfl) (Nat.le_refl _) (Nat.le_refl _) rfl dX5_set_28 (fun r9 h9 z9 hp9 => ?_)
      obtain ⟨rfl, rfl, S9⟩ := hp9
      have S : MF G h0 h9 m ((n, g, t, u, q), (if k < 6 then k + 1 else 6), (recR k L (n, g, t, u, q)), V, len, c) := S.trans S9
      clear S9
      refine ex_aload_n 0 dX5_set_31 rfl rfl ?_
      refine ex_get (v := .ref (m + 1)) fl_X5_7 S.ob rfl dX5_set_32 ?_
      refine ex_iload_n 1 dX5_set_35 rfl rfl ?_
      refine exM_ld (p := 0) (i := j) (v := u j) S.rp.rf (by decide) (by rw [Nat.zero_add]) (by omega) (mu_u (by omega) (by omega) (by omega)) dX5_set_36 ?_
      refine ex_istore_n (lv' := [(3, .int (u j)), (0, .ref m), (1, .int (nI j)), (2, .int v)]) dX5_set_37 rfl (by decide) rfl ?_
      refine ex_aload_n 1 dX5_set_38 rfl rfl ?_
      refine ex_get (v := .ref (m + 1)) fl_X5_7 S.ob rfl dX5_set_39 ?_
      refine ex_iload_n 2 dX5_set_42 rfl rfl ?_
      refine ex_iload_n 3 dX5_set_43 rfl rfl ?_
      refine exM_stU (p := 0) (i := j) S.rp.rf (by decide) (by rw [Nat.zero_add]) (by omega) (by omega) dX5_set_44 (fun h N => ?_)
      have S : MF G h0 h m ((n, g, t, (upd u j v), q), (if k < 6 then k + 1 else 6), (recR k L (n, g, t, u, q)), V, len, c) := S.now N
      refine ex_iload_n 0 dX5_set_45 rfl rfl ?_
      exact ex_iret hQ rfl (by unfold X_set; rw [ixn (by omega), if_pos ⟨inR_nI hs (by decide), fun q9 => q9.elim (fun q8 => absurd hv.1 (Int32.not_le.mpr q8)) (fun q8 => absurd hv.2 (Int32.not_le.mpr q8))⟩]; exact ⟨rfl, rfl, S⟩) dX5_set_46
    · refine ex_callS0 (As := [.int v, .int (stV 1 j), .int (stV 2 j)]) (v := .int (nI 0)) vl_X5_26 (Ct.mono (by rw [show inV v (stV 1 j) (stV 2 j) = nI 0 from if_neg hv]) m_in) rfl (by decide) (Nat.le_of_ble_eq_true rfl) (Nat.le_refl _) (Nat.le_refl _) rfl dX5_set_18 ?_
      refine ex_if_ne (tgt := 27) dX5_set_21 (by decide) (fun c_21 => absurd (by decide) c_21) (fun c_21 => ?_)
      refine ex_bipush (v := (-2)) dX5_set_24 (by decide) ?_
      exact ex_iret hQ rfl (by unfold X_set; rw [if_neg (fun q9 => hv ⟨Int32.not_lt.mp (fun q8 => q9.2 (Or.inl (by rw [ixn (by omega)]; exact q8))), Int32.not_lt.mp (fun q8 => q9.2 (Or.inr (by rw [ixn (by omega)]; exact q8)))⟩)]; exact ⟨rfl, rfl, S⟩) dX5_set_26
  · refine ex_iload_n 1 dX5_set_0 rfl rfl ?_
    refine ex_iconst (v := nI 0) dX5_set_1 (by decide) ?_
    refine ex_iconst (v := nI 5) dX5_set_2 (by decide) ?_
    refine ex_callS0 (As := [.int s, .int (nI 0), .int (nI 5)]) (v := .int (nI 0)) vl_X5_26 (Ct.mono (by rw [inV_f hs (by decide)]) m_in) rfl (by decide) (Nat.le_of_ble_eq_true rfl) (Nat.le_refl _) (Nat.le_refl _) rfl dX5_set_3 ?_
    refine ex_if_eq (tgt := 24) dX5_set_6 (by decide) (fun c_6 => ?_) (fun c_6 => absurd (by decide) c_6)
    refine ex_bipush (v := (-2)) dX5_set_24 (by decide) ?_
    exact ex_iret hQ rfl (by unfold X_set; rw [if_neg (fun q9 => hs q9.1)]; exact ⟨rfl, rfl, S⟩) dX5_set_26

theorem absn : ∀ a, a < 8 → ∀ b, b < 8 → abI (nI a - nI b) = nI (if a < b then b - a else a - b) := by decide

set_option maxRecDepth 20000 in
set_option maxHeartbeats 2000000 in
theorem m_move {G : GG} {l : Launch} {h0 : HP} {z m : Nat} {n : Nat} {g : Option Nat} {t : Nat} {u : Nat → Int32} {q : Nat → Nat → Int32} {k len : Nat} {L : Nat → AS} {V : Nat → Option AS} {c : Nat → Nat} (S0 : MP G h0 m ((n, g, t, u, q), k, L, V, len, c)) (n8 : n ≤ 8) (nL : ∀ j, j < k → (L j).1 ≤ 8) (gw : ∀ i, g = some i → i < n) (tw : t < n ∨ t = 0) {p y : Int32} : Ct G l 3 0 0 yX5_move cX5_move 4 (some .int) [.ref m, .int p, .int y] h0 z (pM G (X_move ((n, g, t, u, q), k, L, V, len, c) p y) h0 z m) := by
  refine Ct.intro (lv := [(0, .ref m), (1, .int p), (2, .int y)]) (by decide +kernel) (Nat.le_of_ble_eq_true rfl) rfl (fun X Q hQ hnm => ?_)
  have S := S0
  rcases inR_or p n (by omega) with ⟨i, hp, rfl⟩ | hp
  · rcases inR_or y n (by omega) with ⟨r, hy, rfl⟩ | hy
    · refine ex_aload_n 0 dX5_move_0 rfl rfl ?_
      refine ex_iload_n 1 dX5_move_1 rfl rfl ?_
      refine ex_call0 (As := [.int (nI i)]) (v := .int (nI 1)) (ci := 5) vl_X5_93 rfl (m_isPersonT S.rp n8 hp) S.ob rfl (by decide) (Nat.le_of_ble_eq_true rfl) (Nat.le_refl _) (Nat.le_refl _) rfl dX5_move_2 ?_
      refine ex_if_eq (tgt := 16) dX5_move_5 (by decide) (fun c_5 => absurd c_5 (by decide)) (fun c_5 => ?_)
      refine ex_aload_n 0 dX5_move_8 rfl rfl ?_
      refine ex_iload_n 2 dX5_move_9 rfl rfl ?_
      refine ex_call0 (As := [.int (nI r)]) (v := .int (nI 1)) (ci := 5) vl_X5_93 rfl (m_isPersonT S.rp n8 hy) S.ob rfl (by decide) (Nat.le_of_ble_eq_true rfl) (Nat.le_refl _) (Nat.le_refl _) rfl dX5_move_10 ?_
      refine ex_if_ne (tgt := 18) dX5_move_13 (by decide) (fun c_13 => ?_) (fun c_13 => absurd c_13 (by decide))
      refine ex_aload_n 0 dX5_move_18 rfl rfl ?_
      refine ex_callV (As := []) (ci := 5) vl_X5_87 rfl (m_rem (S.kept (fun _ _ _ => rfl)) n8 nL) S.ob rfl (by decide) (Nat.le_of_ble_eq_true rfl) (Nat.le_refl _) (Nat.le_refl _) rfl dX5_move_19 (fun r9 h9 z9 hp9 => ?_)
      obtain ⟨rfl, rfl, S9⟩ := hp9
      have S : MF G h0 h9 m ((n, g, t, u, q), (if k < 6 then k + 1 else 6), (recR k L (n, g, t, u, q)), V, len, c) := S.trans S9
      clear S9
      refine ex_aload_n 0 dX5_move_22 rfl rfl ?_
      refine ex_iconst (v := nI 0) dX5_move_23 (by decide) ?_
      refine ex_iload_n 1 dX5_move_24 rfl rfl ?_
      refine ex_iload_n 2 dX5_move_25 rfl rfl ?_
      refine exM_call (As := [.int (nI 0), .int (nI i), .int (nI r)]) (r0 := none) (B := (moveA (n, g, t, u, q) i r)) vl_X5_96 rfl S.rp.rf (fun S1 => m_moves S1 (by decide) n8 gw tw hp hy) rfl (by decide) (Nat.le_of_ble_eq_true rfl) (Nat.le_refl _) (Nat.le_refl _) rfl dX5_move_26 (fun h N => ?_)
      have S : MF G h0 h m ((moveA (n, g, t, u, q) i r), (if k < 6 then k + 1 else 6), (recR k L (n, g, t, u, q)), V, len, c) := S.now N
      refine ex_iload_n 1 dX5_move_29 rfl rfl ?_
      refine ex_iload_n 2 dX5_move_30 rfl rfl ?_
      refine ex_icmp_ge (tgt := 40) dX5_move_31 (by decide) (fun c_31 => ?_) (fun c_31 => ?_)
      · have n_31 : r ≤ i := (nI_leI (by omega) (by omega)).mp c_31
        refine ex_iload_n 1 dX5_move_40 rfl rfl ?_
        refine ex_iload_n 2 dX5_move_41 rfl rfl ?_
        refine ex_isubN dX5_move_42 (by omega) ?_
        refine ex_istore_n (lv' := [(3, .int (nI (i - r))), (0, .ref m), (1, .int (nI i)), (2, .int (nI r))]) dX5_move_43 rfl (by decide) rfl ?_
        refine ex_iload_n 0 dX5_move_44 rfl rfl ?_
        refine ex_if_ne (tgt := 52) dX5_move_45 (by decide) (fun c_45 => ?_) (fun c_45 => ?_)
        · have n_45 : ¬ ((i - r) = 0) := fun q9 => c_45 ((nI_eq (b := 0) (by omega) (by omega)).mpr q9)
          refine ex_iload_n 0 dX5_move_52 rfl rfl ?_
          refine ex_iconst (v := nI 1) dX5_move_53 (by decide) ?_
          refine ex_iaddN dX5_move_54 ?_
          exact ex_iret hQ rfl (by unfold X_move; dsimp only; rw [if_pos ⟨inR_nI hp (by omega), inR_nI hy (by omega)⟩, ixn (by omega), ixn (by omega)]; rw [if_neg (fun q9 => absurd ((nI_eq (by omega) (by omega)).mp q9) (by omega)), absn i (by omega) r (by omega), if_neg (by omega)]; exact ⟨congrArg (fun x => some (Value.int x)) (nI_add _ 1).symm, rfl, S⟩) dX5_move_55
        · have n_45 : (i - r) = 0 := (nI_eq (b := 0) (by omega) (by omega)).mp c_45
          refine ex_iconst (v := nI 0) dX5_move_48 (by decide) ?_
          refine ex_goto (tgt := 55) dX5_move_49 (by decide) ?_
          exact ex_iret hQ rfl (by unfold X_move; dsimp only; rw [if_pos ⟨inR_nI hp (by omega), inR_nI hy (by omega)⟩, ixn (by omega), ixn (by omega)]; rw [if_pos (congrArg nI (show i = r by omega))]; exact ⟨rfl, rfl, S⟩) dX5_move_55
      · have n_31 : ¬ (r ≤ i) := fun q9 => c_31 ((nI_leI (by omega) (by omega)).mpr q9)
        refine ex_iload_n 2 dX5_move_34 rfl rfl ?_
        refine ex_iload_n 1 dX5_move_35 rfl rfl ?_
        refine ex_isubN dX5_move_36 (by omega) ?_
        refine ex_goto (tgt := 43) dX5_move_37 (by decide) ?_
        refine ex_istore_n (lv' := [(3, .int (nI (r - i))), (0, .ref m), (1, .int (nI i)), (2, .int (nI r))]) dX5_move_43 rfl (by decide) rfl ?_
        refine ex_iload_n 0 dX5_move_44 rfl rfl ?_
        refine ex_if_ne (tgt := 52) dX5_move_45 (by decide) (fun c_45 => ?_) (fun c_45 => ?_)
        · have n_45 : ¬ ((r - i) = 0) := fun q9 => c_45 ((nI_eq (b := 0) (by omega) (by omega)).mpr q9)
          refine ex_iload_n 0 dX5_move_52 rfl rfl ?_
          refine ex_iconst (v := nI 1) dX5_move_53 (by decide) ?_
          refine ex_iaddN dX5_move_54 ?_
          exact ex_iret hQ rfl (by unfold X_move; dsimp only; rw [if_pos ⟨inR_nI hp (by omega), inR_nI hy (by omega)⟩, ixn (by omega), ixn (by omega)]; rw [if_neg (fun q9 => absurd ((nI_eq (by omega) (by omega)).mp q9) (by omega)), absn i (by omega) r (by omega), if_pos (by omega)]; exact ⟨congrArg (fun x => some (Value.int x)) (nI_add _ 1).symm, rfl, S⟩) dX5_move_55
        · have n_45 : (r - i) = 0 := (nI_eq (b := 0) (by omega) (by omega)).mp c_45
          refine ex_iconst (v := nI 0) dX5_move_48 (by decide) ?_
          refine ex_goto (tgt := 55) dX5_move_49 (by decide) ?_
          exact ex_iret hQ rfl (by unfold X_move; dsimp only; rw [if_pos ⟨inR_nI hp (by omega), inR_nI hy (by omega)⟩, ixn (by omega), ixn (by omega)]; rw [if_pos (congrArg nI (show i = r by omega))]; exact ⟨rfl, rfl, S⟩) dX5_move_55
    · refine ex_aload_n 0 dX5_move_0 rfl rfl ?_
      refine ex_iload_n 1 dX5_move_1 rfl rfl ?_
      refine ex_call0 (As := [.int (nI i)]) (v := .int (nI 1)) (ci := 5) vl_X5_93 rfl (m_isPersonT S.rp n8 hp) S.ob rfl (by decide) (Nat.le_of_ble_eq_true rfl) (Nat.le_refl _) (Nat.le_refl _) rfl dX5_move_2 ?_
      refine ex_if_eq (tgt := 16) dX5_move_5 (by decide) (fun c_5 => absurd c_5 (by decide)) (fun c_5 => ?_)
      refine ex_aload_n 0 dX5_move_8 rfl rfl ?_
      refine ex_iload_n 2 dX5_move_9 rfl rfl ?_
      refine ex_call0 (As := [.int y]) (v := .int (nI 0)) (ci := 5) vl_X5_93 rfl (m_isPersonF S.rp n8 hy) S.ob rfl (by decide) (Nat.le_of_ble_eq_true rfl) (Nat.le_refl _) (Nat.le_refl _) rfl dX5_move_10 ?_
      refine ex_if_ne (tgt := 18) dX5_move_13 (by decide) (fun c_13 => absurd (by decide) c_13) (fun c_13 => ?_)
      refine ex_iconst (v := (-1)) dX5_move_16 (by decide) ?_
      exact ex_iret hQ rfl (by unfold X_move; dsimp only; rw [if_neg (fun q9 => hy q9.2)]; exact ⟨rfl, rfl, S⟩) dX5_move_17
  · refine ex_aload_n 0 dX5_move_0 rfl rfl ?_
    refine ex_iload_n 1 dX5_move_1 rfl rfl ?_
    refine ex_call0 (As := [.int p]) (v := .int (nI 0)) (ci := 5) vl_X5_93 rfl (m_isPersonF S.rp n8 hp) S.ob rfl (by decide) (Nat.le_of_ble_eq_true rfl) (Nat.le_refl _) (Nat.le_refl _) rfl dX5_move_2 ?_
    refine ex_if_eq (tgt := 16) dX5_move_5 (by decide) (fun c_5 => ?_) (fun c_5 => absurd (by decide) c_5)
    refine ex_iconst (v := (-1)) dX5_move_16 (by decide) ?_
    exact ex_iret hQ rfl (by unfold X_move; dsimp only; rw [if_neg (fun q9 => hp q9.1)]; exact ⟨rfl, rfl, S⟩) dX5_move_17

set_option maxRecDepth 20000 in
set_option maxHeartbeats 2000000 in
theorem m_stepDown {G : GG} {l : Launch} {h0 : HP} {z m : Nat} {n : Nat} {g : Option Nat} {t : Nat} {u : Nat → Int32} {q : Nat → Nat → Int32} {k len : Nat} {L : Nat → AS} {V : Nat → Option AS} {c : Nat → Nat} (S0 : MP G h0 m ((n, g, t, u, q), k, L, V, len, c)) (n8 : n ≤ 8) (nL : ∀ j, j < k → (L j).1 ≤ 8) (gw : ∀ i, g = some i → i < n) : Ct G l 1 0 0 yX5_stepDown cX5_stepDown 2 (some .int) [.ref m] h0 z (pM G (X_stepDown ((n, g, t, u, q), k, L, V, len, c)) h0 z m) := by
  refine Ct.intro (lv := [(0, .ref m)]) (by decide +kernel) (Nat.le_of_ble_eq_true rfl) rfl (fun X Q hQ hnm => ?_)
  have S := S0
  rcases g with _ | i
  · refine ex_aload_n 0 dX5_stepDown_0 rfl rfl ?_
    refine ex_get (v := .ref (m + 1)) fl_X5_7 S.ob rfl dX5_stepDown_1 ?_
    refine ex_bipush (v := nI 9) dX5_stepDown_4 (by decide) ?_
    refine exM_ld (p := 0) (i := 9) (v := (-1)) S.rp.rf (by decide) rfl (by decide) rfl dX5_stepDown_6 ?_
    refine ex_istore_n (lv' := [(1, .int (-1)), (0, .ref m)]) dX5_stepDown_7 rfl (by decide) rfl ?_
    refine ex_iload_n 0 dX5_stepDown_8 rfl rfl ?_
    refine ex_if_ge (tgt := 15) dX5_stepDown_9 (by decide) (fun c_9 => absurd c_9 (by decide)) (fun c_9 => ?_)
    refine ex_bipush (v := (-5)) dX5_stepDown_12 (by decide) ?_
    exact ex_iret hQ rfl (by exact ⟨rfl, rfl, S⟩) dX5_stepDown_14
  · have hj : i < n := gw i rfl
    refine ex_aload_n 0 dX5_stepDown_0 rfl rfl ?_
    refine ex_get (v := .ref (m + 1)) fl_X5_7 S.ob rfl dX5_stepDown_1 ?_
    refine ex_bipush (v := nI 9) dX5_stepDown_4 (by decide) ?_
    refine exM_ld (p := 0) (i := 9) (v := nI i) S.rp.rf (by decide) rfl (by decide) rfl dX5_stepDown_6 ?_
    refine ex_istore_n (lv' := [(1, .int (nI i)), (0, .ref m)]) dX5_stepDown_7 rfl (by decide) rfl ?_
    refine ex_iload_n 0 dX5_stepDown_8 rfl rfl ?_
    refine ex_if_ge (tgt := 15) dX5_stepDown_9 (by decide) (fun c_9 => ?_) (fun c_9 => absurd (nI_pos' (by omega)) c_9)
    refine ex_aload_n 1 dX5_stepDown_15 rfl rfl ?_
    refine ex_callV (As := []) (ci := 5) vl_X5_87 rfl (m_rem (S.kept (fun _ _ _ => rfl)) n8 nL) S.ob rfl (by decide) (Nat.le_of_ble_eq_true rfl) (Nat.le_refl _) (Nat.le_refl _) rfl dX5_stepDown_16 (fun r9 h9 z9 hp9 => ?_)
    obtain ⟨rfl, rfl, S9⟩ := hp9
    have S : MF G h0 h9 m ((n, (some i), t, u, q), (if k < 6 then k + 1 else 6), (recR k L (n, (some i), t, u, q)), V, len, c) := S.trans S9
    clear S9
    refine ex_aload_n 1 dX5_stepDown_19 rfl rfl ?_
    refine ex_get (v := .ref (m + 1)) fl_X5_7 S.ob rfl dX5_stepDown_20 ?_
    refine ex_bipush (v := nI 9) dX5_stepDown_23 (by decide) ?_
    refine ex_iconst (v := (-1)) dX5_stepDown_25 (by decide) ?_
    refine exM_stG (p := 0) (g1 := none) S.rp.rf (by decide) rfl rfl dX5_stepDown_26 (fun h N => ?_)
    have S : MF G h0 h m ((n, none, t, u, q), (if k < 6 then k + 1 else 6), (recR k L (n, (some i), t, u, q)), V, len, c) := S.now N
    refine ex_aload_n 1 dX5_stepDown_27 rfl rfl ?_
    refine ex_get (v := .ref (m + 1)) fl_X5_7 S.ob rfl dX5_stepDown_28 ?_
    refine ex_bipush (v := nI 10) dX5_stepDown_31 (by decide) ?_
    refine ex_aload_n 1 dX5_stepDown_33 rfl rfl ?_
    refine ex_iconst (v := nI 0) dX5_stepDown_34 (by decide) ?_
    refine ex_iload_n 0 dX5_stepDown_35 rfl rfl ?_
    refine ex_call0 (As := [.int (nI 0), .int (nI i)]) (v := .int (nI (bh n i))) (ci := 5) vl_X5_53 rfl (m_behind S.rp (by decide) n8 hj) S.ob rfl (by decide) (Nat.le_of_ble_eq_true rfl) (Nat.le_refl _) (Nat.le_refl _) rfl dX5_stepDown_36 ?_
    refine exM_stT (p := 0) (t1 := bh n i) S.rp.rf (by decide) rfl rfl dX5_stepDown_39 (fun h N => ?_)
    have S : MF G h0 h m ((n, none, bh n i, u, q), (if k < 6 then k + 1 else 6), (recR k L (n, (some i), t, u, q)), V, len, c) := S.now N
    refine ex_iload_n 0 dX5_stepDown_40 rfl rfl ?_
    exact ex_iret hQ rfl (by exact ⟨rfl, rfl, S⟩) dX5_stepDown_41

set_option maxRecDepth 20000 in
set_option maxHeartbeats 2000000 in
theorem m_canAppeal {G : GG} {l : Launch} {h0 : HP} {z m kk len : Nat} {n : Nat} {g : Option Nat} {t : Nat} {u : Nat → Int32} {q : Nat → Nat → Int32} (S0 : RP G h0 m kk len 0 (n, g, t, u, q)) (n8 : n ≤ 8) (gw : ∀ i, g = some i → i < n) {j : Nat} (hj : j < n) : Ct G l 2 0 0 yX5_canAppeal cX5_canAppeal 3 (some .boolean) [.ref m, .int (nI j)] h0 z (p0 (.int (mayI n g u q j)) h0 z) := by
  refine Ct.intro (lv := [(0, .ref m), (1, .int (nI j))]) (by decide +kernel) (Nat.le_of_ble_eq_true rfl) rfl (fun X Q hQ hnm => ?_)
  have S := S0.rf
  rcases g with _ | i
  · refine ex_aload_n 0 dX5_canAppeal_0 rfl rfl ?_
    refine ex_get (v := .ref (m + 1)) fl_X5_7 S.1 rfl dX5_canAppeal_1 ?_
    refine ex_bipush (v := nI 9) dX5_canAppeal_4 (by decide) ?_
    refine exM_ld (p := 0) (i := 9) (v := (-1)) S (by decide) rfl (by decide) rfl dX5_canAppeal_6 ?_
    refine ex_if_lt (tgt := 34) dX5_canAppeal_7 (by decide) (fun c_7 => ?_) (fun c_7 => absurd (by decide) c_7)
    refine ex_iconst (v := nI 0) dX5_canAppeal_34 (by decide) ?_
    refine ex_istore_n (lv' := [(2, .int (nI 0)), (0, .ref m), (1, .int (nI j))]) dX5_canAppeal_35 rfl (by decide) rfl ?_
    refine ex_iload_n 0 dX5_canAppeal_36 rfl rfl ?_
    refine ex_if_eq (tgt := 65) dX5_canAppeal_37 (by decide) (fun c_37 => ?_) (fun c_37 => absurd (by decide) c_37)
    refine ex_iconst (v := nI 0) dX5_canAppeal_65 (by decide) ?_
    exact ex_zret hQ rfl (by decide) ⟨congrArg (fun x => some (Value.int x)) (by unfold mayI; rw [if_neg (fun q9 => q9.1 rfl)]), rfl, rfl⟩ dX5_canAppeal_66
  · have hi : i < n := gw i rfl
    refine ex_aload_n 0 dX5_canAppeal_0 rfl rfl ?_
    refine ex_get (v := .ref (m + 1)) fl_X5_7 S.1 rfl dX5_canAppeal_1 ?_
    refine ex_bipush (v := nI 9) dX5_canAppeal_4 (by decide) ?_
    refine exM_ld (p := 0) (i := 9) (v := nI i) S (by decide) rfl (by decide) rfl dX5_canAppeal_6 ?_
    refine ex_if_lt (tgt := 34) dX5_canAppeal_7 (by decide) (fun c_7 => absurd c_7 (nI_pos (by omega))) (fun c_7 => ?_)
    refine ex_aload_n 0 dX5_canAppeal_10 rfl rfl ?_
    refine ex_get (v := .ref (m + 1)) fl_X5_7 S.1 rfl dX5_canAppeal_11 ?_
    refine ex_bipush (v := nI 9) dX5_canAppeal_14 (by decide) ?_
    refine exM_ld (p := 0) (i := 9) (v := nI i) S (by decide) rfl (by decide) rfl dX5_canAppeal_16 ?_
    refine ex_iload_n 1 dX5_canAppeal_17 rfl rfl ?_
    refine ex_icmp_eq (tgt := 34) dX5_canAppeal_18 (by decide) (fun c_18 => ?_) (fun c_18 => ?_)
    · have n_18 : i = j := (nI_eq (by omega) (by omega)).mp c_18
      refine ex_iconst (v := nI 0) dX5_canAppeal_34 (by decide) ?_
      refine ex_istore_n (lv' := [(2, .int (nI 0)), (0, .ref m), (1, .int (nI j))]) dX5_canAppeal_35 rfl (by decide) rfl ?_
      refine ex_iload_n 0 dX5_canAppeal_36 rfl rfl ?_
      refine ex_if_eq (tgt := 65) dX5_canAppeal_37 (by decide) (fun c_37 => ?_) (fun c_37 => absurd (by decide) c_37)
      refine ex_iconst (v := nI 0) dX5_canAppeal_65 (by decide) ?_
      exact ex_zret hQ rfl (by decide) ⟨congrArg (fun x => some (Value.int x)) (by unfold mayI; rw [if_neg (fun q9 => by first | exact q9.2.1 (congrArg some n_18) | exact absurd q9.2.2.1 (bB_1 c_27) | exact q9.2.2.2 c_58 | exact q9.2.2.2 (Int32.not_le.mp c_58))]), rfl, rfl⟩ dX5_canAppeal_66
    · have n_18 : ¬ (i = j) := fun q9 => c_18 ((nI_eq (by omega) (by omega)).mpr q9)
      refine ex_aload_n 0 dX5_canAppeal_21 rfl rfl ?_
      refine ex_iconst (v := nI 0) dX5_canAppeal_22 (by decide) ?_
      refine ex_iload_n 1 dX5_canAppeal_23 rfl rfl ?_
      refine ex_call0 (As := [.int (nI 0), .int (nI j)]) (v := .int (bB u q j)) (ci := 5) vl_X5_38 rfl (m_isBarred S.rp (by decide) n8 hj) S.1 rfl (by decide) (Nat.le_of_ble_eq_true rfl) (Nat.le_refl _) (Nat.le_refl _) rfl dX5_canAppeal_24 ?_
      refine ex_if_ne (tgt := 34) dX5_canAppeal_27 (by decide) (fun c_27 => ?_) (fun c_27 => ?_)
      · refine ex_iconst (v := nI 0) dX5_canAppeal_34 (by decide) ?_
        refine ex_istore_n (lv' := [(2, .int (nI 0)), (0, .ref m), (1, .int (nI j))]) dX5_canAppeal_35 rfl (by decide) rfl ?_
        refine ex_iload_n 0 dX5_canAppeal_36 rfl rfl ?_
        refine ex_if_eq (tgt := 65) dX5_canAppeal_37 (by decide) (fun c_37 => ?_) (fun c_37 => absurd (by decide) c_37)
        refine ex_iconst (v := nI 0) dX5_canAppeal_65 (by decide) ?_
        exact ex_zret hQ rfl (by decide) ⟨congrArg (fun x => some (Value.int x)) (by unfold mayI; rw [if_neg (fun q9 => by first | exact q9.2.1 (congrArg some n_18) | exact absurd q9.2.2.1 (bB_1 c_27) | exact q9.2.2.2 c_58 | exact q9.2.2.2 (Int32.not_le.mp c_58))]), rfl, rfl⟩ dX5_canAppeal_66
      · refine ex_iconst (v := nI 1) dX5_canAppeal_30 (by decide) ?_
        refine ex_goto (tgt := 35) dX5_canAppeal_31 (by decide) ?_
        refine ex_istore_n (lv' := [(2, .int (nI 1)), (0, .ref m), (1, .int (nI j))]) dX5_canAppeal_35 rfl (by decide) rfl ?_
        refine ex_iload_n 0 dX5_canAppeal_36 rfl rfl ?_
        refine ex_if_eq (tgt := 65) dX5_canAppeal_37 (by decide) (fun c_37 => absurd c_37 (by decide)) (fun c_37 => ?_)
        refine ex_aload_n 1 dX5_canAppeal_40 rfl rfl ?_
        refine ex_get (v := .ref (m + 1)) fl_X5_7 S.1 rfl dX5_canAppeal_41 ?_
        refine ex_iconst (v := nI 0) dX5_canAppeal_44 (by decide) ?_
        refine ex_iload_n 2 dX5_canAppeal_45 rfl rfl ?_
        refine ex_callS0 (As := [.int (nI 0), .int (nI j)]) (v := .int (nI (0 + 17 + 6 * j))) vl_X5_34 (m_at) rfl (by decide) (Nat.le_of_ble_eq_true rfl) (Nat.le_refl _) (Nat.le_refl _) rfl dX5_canAppeal_46 ?_
        refine ex_iconst (v := nI 3) dX5_canAppeal_49 (by decide) ?_
        refine ex_iaddN dX5_canAppeal_50 ?_
        refine exM_ldq (p := 0) (j := j) (b := 3) (v := q j 3) S (by decide) rfl hj (by omega) (by decide) rfl dX5_canAppeal_51 ?_
        refine ex_aload_n 1 dX5_canAppeal_52 rfl rfl ?_
        refine ex_get (v := .ref (m + 1)) fl_X5_7 S.1 rfl dX5_canAppeal_53 ?_
        refine ex_iconst (v := nI 2) dX5_canAppeal_56 (by decide) ?_
        refine exM_ld (p := 0) (i := 2) (v := u 2) S (by decide) rfl (by decide) rfl dX5_canAppeal_57 ?_
        refine ex_icmp_lt (tgt := 65) dX5_canAppeal_58 (by decide) (fun c_58 => ?_) (fun c_58 => ?_)
        · refine ex_iconst (v := nI 0) dX5_canAppeal_65 (by decide) ?_
          exact ex_zret hQ rfl (by decide) ⟨congrArg (fun x => some (Value.int x)) (by unfold mayI; rw [if_neg (fun q9 => by first | exact q9.2.1 (congrArg some n_18) | exact absurd q9.2.2.1 (bB_1 c_27) | exact q9.2.2.2 c_58 | exact q9.2.2.2 (Int32.not_le.mp c_58))]), rfl, rfl⟩ dX5_canAppeal_66
        · refine ex_iconst (v := nI 1) dX5_canAppeal_61 (by decide) ?_
          refine ex_goto (tgt := 66) dX5_canAppeal_62 (by decide) ?_
          exact ex_zret hQ rfl (by decide) ⟨congrArg (fun x => some (Value.int x)) (by unfold mayI; rw [if_pos ⟨(by simp), fun q9 => n_18 (Option.some.inj q9), bB_0 c_27, (by first | exact c_58 | exact Int32.not_lt.mpr c_58)⟩]), rfl, rfl⟩ dX5_canAppeal_66

