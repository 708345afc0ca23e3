theorem handF_6 {n : Nat} {u : Nat → Int32} {q : Nat → Nat → Int32} {v : Int32} : ∀ (k t : Nat), handF n (upd u 6 v) q t k = handF n u q t k
  | 0, _ => rfl
  | k + 1, t => by
    rw [handF, handF, handF_6 k, upd_n (by decide)]
/-- on the day of a purr there is no guardian, and who gets it holds out the hand -/
theorem dayR_s {A : AS} {j : Nat} (h : dayR A = some j) : A.2.1 = none ∧ hand A.1 A.2.2.1 A.2.2.2.1 A.2.2.2.2 = some j := by
  obtain ⟨n, _ | i, t, u, q⟩ := A
  · refine ⟨rfl, ?_⟩
    have h2 : (holdA n t (upd u 6 (u 6 + nI 1)) q).2 = some j := h
    have e : hand n t (upd u 6 (u 6 + nI 1)) q = hand n t u q := handF_6 n t
    unfold holdA at h2
    rw [e] at h2
    show hand n t u q = some j
    split at h2
    · cases h2
    · rename_i j1 hj
      split at h2
      · cases h2
      · cases h2
        exact hj
  · cases (show (none : Option Nat) = some j from h)
theorem m_handA {G : GG} {l : Launch} {h0 : HP} {z m kk len p : Nat} {A : AS} (S0 : RP G h0 m kk len p A) (hp : p ≤ 65) (w : wfA A) : Ct G l 2 0 0 yX5_hand cX5_hand 4 (some .int) [.ref m, .int (nI p)] h0 z (p0 (.int (gv (hand A.1 A.2.2.1 A.2.2.2.1 A.2.2.2.2))) h0 z) := by
  obtain ⟨n, g, t, u, q⟩ := A
  exact m_hand S0 hp w.1 w.2.2
theorem had_lt {K : Nat} {A : AS} {j : Nat} (h : okA K A) (hK : K < 2 ^ 30) (hr : dayR A = some j) : A.2.2.2.1 13 < (dayA A).2.2.2.1 13 := by
  obtain ⟨a, e, ha⟩ := h.2.2.2.2.2.1
  rw [dayA_13, hr, e]
  show nI a < nI a + nI 1
  rw [nI_add]
  exact (nI_ltI (by omega) (by omega)).mpr (by omega)

theorem in01 {x : Int32} (h : nI 0 ≤ x ∧ x ≤ nI 1) : x = 0 ∨ x = nI 1 := by
  obtain ⟨j, j1, j2, rfl⟩ := rngI (a := 0) (b := 1) (by decide) (by decide) (Int32.not_lt.mpr h.1) h.2
  rcases (show j = 0 ∨ j = 1 by omega) with rfl | rfl
  · exact Or.inl rfl
  · exact Or.inr rfl

set_option maxRecDepth 20000 in
set_option maxHeartbeats 2000000 in
theorem m_next {G : GG} {l : Launch} {h0 : HP} {z m : Nat} {n : Nat} {g : Option Nat} {t : Nat} {u : Nat → Int32} {q : Nat → Nat → Int32} {k len : Nat} {L : Nat → AS} {V : Nat → Option AS} {c : Nat → Nat} (S0 : MP G h0 m ((n, g, t, u, q), k, L, V, len, c)) (nL : ∀ j, j < k → (L j).1 ≤ 8) {K : Nat} (ok : okA K (n, g, t, u, q)) (hK : K < 2 ^ 29) {x : Int32} : Ct G l 5 0 0 yX5_next cX5_next 6 (some .int) [.ref m, .int x] h0 z (pM G (X_next ((n, g, t, u, q), k, L, V, len, c) x, ((n, g, t, u, q), k, L, V, len, c)) h0 z m) := by
  refine Ct.intro (lv := [(0, .ref m), (1, .int x)]) (by decide +kernel) (Nat.le_of_ble_eq_true rfl) rfl (fun X Q hQ hnm => ?_)
  have S := S0
  have n8 : n ≤ 8 := ok.1.1
  have gw : ∀ i, g = some i → i < n := ok.1.2.1
  have tw : t < n ∨ t = 0 := ok.1.2.2
  refine ex_iload_n 1 dX5_next_0 rfl rfl ?_
  refine ex_iconst (v := nI 0) dX5_next_1 (by decide) ?_
  refine ex_iconst (v := nI 1) dX5_next_2 (by decide) ?_
  by_cases h1 : nI 0 ≤ x ∧ x ≤ nI 1
  · refine ex_callS0 (As := [.int x, .int (nI 0), .int (nI 1)]) (v := .int (nI 1)) vl_X5_26 (Ct.mono (by rw [show inV x (nI 0) (nI 1) = nI 1 from if_pos h1]) m_in) rfl (by decide) (Nat.le_of_ble_eq_true rfl) (Nat.le_refl _) (Nat.le_refl _) rfl dX5_next_3 ?_
    refine ex_if_ne (tgt := 12) dX5_next_6 (by decide) (fun c_6 => ?_) (fun c_6 => absurd c_6 (by decide))
    have hx : x = 0 ∨ x = nI 1 := in01 h1
    refine ex_aload_n 0 dX5_next_12 rfl rfl ?_
    refine ex_callV (As := []) (ci := 5) vl_X5_112 rfl (m_copies (S.kept (fun _ _ _ => rfl)) n8) S.ob rfl (by decide) (Nat.le_of_ble_eq_true rfl) (Nat.le_refl _) (Nat.le_refl _) rfl dX5_next_13 (fun r9 h9 z9 hp9 => ?_)
    obtain ⟨e9, e8, N9⟩ := hp9
    subst e9
    subst e8
    have S : MF G h0 h9 m ((n, g, t, u, q), k, L, V, len, c) := S.trial n8 N9
    have T : RP G h9 m k len 65 (n, g, t, u, q) := N9.rp
    clear N9
    refine ex_iconst (v := nI 1) dX5_next_16 (by decide) ?_
    refine ex_istore_n (lv' := [(2, .int (nI 1)), (0, .ref m), (1, .int x)]) dX5_next_17 rfl (by decide) rfl ?_
    suffices H : ∀ (k2 d : Nat) (h : HP), d + k2 = 500 → MF G h0 h m ((n, g, t, u, q), k, L, V, len, c) → RP G h m k len 65 (itA d (n, g, t, u, q)) → nxG (n, g, t, u, q) x k2 d = nxG (n, g, t, u, q) x 500 0 → ex G l X Q 5 0 0 0 0 cX5_next yX5_next.cls 6 (some .int) h z9 18 [(2, .int (nI (d + 1))), (0, .ref m), (1, .int x)] [] from by
      have e2 := H 500 0 h9 (by omega) S T rfl
      refine ex_lv (lv2 := [(2, .int (nI 1)), (0, .ref m), (1, .int x)]) [0, 1, 2] rfl ?_
      exact e2
    intro k2
    induction k2 with
    | zero =>
      intro d h hd S T hh
      refine ex_iload_n 0 dX5_next_18 rfl rfl ?_
      refine ex_sipush (v := nI 500) dX5_next_19 (by decide) ?_
      refine ex_icmp_gt (tgt := 97) dX5_next_22 (by decide) (fun c_22 => ?_) (fun c_22 => absurd ((nI_ltI (by omega) (by omega)).mpr (by omega)) c_22)
      refine ex_bipush (v := (-6)) dX5_next_97 (by decide) ?_
      exact ex_iret hQ rfl (by unfold X_next; rw [if_pos hx]; exact ⟨congrArg (fun x => some (Value.int x)) hh, rfl, S⟩) dX5_next_99
    | succ k2 ih =>
      intro d h hd S T hh
      rw [nxG] at hh
      refine ex_iload_n 0 dX5_next_18 rfl rfl ?_
      refine ex_sipush (v := nI 500) dX5_next_19 (by decide) ?_
      refine ex_icmp_gt (tgt := 97) dX5_next_22 (by decide) (fun c_22 => absurd c_22 (fun q9 => absurd ((nI_ltI (by omega) (by omega)).mp q9) (by omega))) (fun c_22 => ?_)
      refine ex_aload_n 1 dX5_next_25 rfl rfl ?_
      refine ex_get (v := .ref (m + 1)) fl_X5_7 S.ob rfl dX5_next_26 ?_
      refine ex_bipush (v := nI 78) dX5_next_29 (by decide) ?_
      refine exM_ld (p := 65) (i := 13) (v := (itA d (n, g, t, u, q)).2.2.2.1 13) T.rf (by decide) rfl (by decide) rfl dX5_next_31 ?_
      refine ex_istore_n (lv' := [(3, .int ((itA d (n, g, t, u, q)).2.2.2.1 13)), (2, .int (nI (d + 1))), (0, .ref m), (1, .int x)]) dX5_next_32 rfl (by decide) rfl ?_
      rcases hr : dayR (itA d (n, g, t, u, q)) with _ | j
      · rw [hr] at hh
        refine ex_aload_n 2 dX5_next_33 rfl rfl ?_
        refine ex_get (v := .ref (m + 1)) fl_X5_7 S.ob rfl dX5_next_34 ?_
        refine ex_bipush (v := nI 74) dX5_next_37 (by decide) ?_
        refine exM_ld (p := 65) (i := 9) (v := mg (itA d (n, g, t, u, q)).2.1) T.rf (by decide) rfl (by decide) rfl dX5_next_39 ?_
        refine ex_if_lt (tgt := 48) dX5_next_40 (by decide) (fun c_40 => ?_) (fun c_40 => ?_)
        · refine ex_aload_n 2 dX5_next_48 rfl rfl ?_
          refine ex_bipush (v := nI 65) dX5_next_49 (by decide) ?_
          refine ex_call0 (As := [.int (nI 65)]) (v := .int (gv (hand (itA d (n, g, t, u, q)).1 (itA d (n, g, t, u, q)).2.2.1 (itA d (n, g, t, u, q)).2.2.2.1 (itA d (n, g, t, u, q)).2.2.2.2))) (ci := 5) vl_X5_42 rfl (m_handA T (by decide) (itA_wf ok.1 d)) S.ob rfl (by decide) (Nat.le_of_ble_eq_true rfl) (Nat.le_refl _) (Nat.le_refl _) rfl dX5_next_51 ?_
          refine ex_istore (lv' := [(4, .int (gv (hand (itA d (n, g, t, u, q)).1 (itA d (n, g, t, u, q)).2.2.1 (itA d (n, g, t, u, q)).2.2.2.1 (itA d (n, g, t, u, q)).2.2.2.2))), (3, .int ((itA d (n, g, t, u, q)).2.2.2.1 13)), (2, .int (nI (d + 1))), (0, .ref m), (1, .int x)]) dX5_next_54 (by decide) rfl ?_
          refine ex_aload_n 3 dX5_next_56 rfl rfl ?_
          refine ex_bipush (v := nI 65) dX5_next_57 (by decide) ?_
          refine exM_call (As := [.int (nI 65)]) (r0 := (some (.int (hB (dayR (itA d (n, g, t, u, q))))))) (B := (itA (d + 1) (n, g, t, u, q))) vl_X5_70 rfl T.rf (fun S1 => m_day S1 (by decide) (itA_ok ok d (by omega))) rfl (by decide) (Nat.le_of_ble_eq_true rfl) (Nat.le_refl _) (Nat.le_refl _) rfl dX5_next_59 (fun h N => ?_)
          have S := S.trial n8 N
          have T := N.rp
          clear N
          refine ex_istore (lv' := [(5, .int (hB (dayR (itA d (n, g, t, u, q))))), (4, .int (gv (hand (itA d (n, g, t, u, q)).1 (itA d (n, g, t, u, q)).2.2.1 (itA d (n, g, t, u, q)).2.2.2.1 (itA d (n, g, t, u, q)).2.2.2.2))), (3, .int ((itA d (n, g, t, u, q)).2.2.2.1 13)), (2, .int (nI (d + 1))), (0, .ref m), (1, .int x)]) dX5_next_62 (by decide) rfl ?_
          refine ex_iload 0 dX5_next_64 rfl ?_
          refine ex_if_eq (tgt := 91) dX5_next_66 (by decide) (fun c_66 => ?_) (fun c_66 => absurd (by rw [hr]; rfl) c_66)
          refine ex_iinc (v := nI (d + 1 + 1)) (lv' := [(2, .int (nI (d + 1 + 1))), (5, .int (hB (dayR (itA d (n, g, t, u, q))))), (4, .int (gv (hand (itA d (n, g, t, u, q)).1 (itA d (n, g, t, u, q)).2.2.1 (itA d (n, g, t, u, q)).2.2.2.1 (itA d (n, g, t, u, q)).2.2.2.2))), (3, .int ((itA d (n, g, t, u, q)).2.2.2.1 13)), (0, .ref m), (1, .int x)]) 3 dX5_next_91 rfl (nI_1 (d + 1)) (by decide) rfl ?_
          refine ex_goto (tgt := 18) dX5_next_94 (by decide) ?_
          have e2 := ih (d + 1) h (by omega) S T hh
          refine ex_lv (lv2 := [(2, .int (nI (d + 1 + 1))), (0, .ref m), (1, .int x)]) [0, 4, 5] rfl ?_
          exact e2
        · refine ex_bipush (v := (-6)) dX5_next_43 (by decide) ?_
          refine ex_goto (tgt := 54) dX5_next_45 (by decide) ?_
          refine ex_istore (lv' := [(4, .int (-6)), (3, .int ((itA d (n, g, t, u, q)).2.2.2.1 13)), (2, .int (nI (d + 1))), (0, .ref m), (1, .int x)]) dX5_next_54 (by decide) rfl ?_
          refine ex_aload_n 3 dX5_next_56 rfl rfl ?_
          refine ex_bipush (v := nI 65) dX5_next_57 (by decide) ?_
          refine exM_call (As := [.int (nI 65)]) (r0 := (some (.int (hB (dayR (itA d (n, g, t, u, q))))))) (B := (itA (d + 1) (n, g, t, u, q))) vl_X5_70 rfl T.rf (fun S1 => m_day S1 (by decide) (itA_ok ok d (by omega))) rfl (by decide) (Nat.le_of_ble_eq_true rfl) (Nat.le_refl _) (Nat.le_refl _) rfl dX5_next_59 (fun h N => ?_)
          have S := S.trial n8 N
          have T := N.rp
          clear N
          refine ex_istore (lv' := [(5, .int (hB (dayR (itA d (n, g, t, u, q))))), (4, .int (-6)), (3, .int ((itA d (n, g, t, u, q)).2.2.2.1 13)), (2, .int (nI (d + 1))), (0, .ref m), (1, .int x)]) dX5_next_62 (by decide) rfl ?_
          refine ex_iload 0 dX5_next_64 rfl ?_
          refine ex_if_eq (tgt := 91) dX5_next_66 (by decide) (fun c_66 => ?_) (fun c_66 => absurd (by rw [hr]; rfl) c_66)
          refine ex_iinc (v := nI (d + 1 + 1)) (lv' := [(2, .int (nI (d + 1 + 1))), (5, .int (hB (dayR (itA d (n, g, t, u, q))))), (4, .int (-6)), (3, .int ((itA d (n, g, t, u, q)).2.2.2.1 13)), (0, .ref m), (1, .int x)]) 3 dX5_next_91 rfl (nI_1 (d + 1)) (by decide) rfl ?_
          refine ex_goto (tgt := 18) dX5_next_94 (by decide) ?_
          have e2 := ih (d + 1) h (by omega) S T hh
          refine ex_lv (lv2 := [(2, .int (nI (d + 1 + 1))), (0, .ref m), (1, .int x)]) [0, 4, 5] rfl ?_
          exact e2
      · rw [hr] at hh
        obtain ⟨hg, hd2⟩ := dayR_s hr
        have hl := had_lt (itA_ok ok d (by omega)) (by omega) hr
        refine ex_aload_n 2 dX5_next_33 rfl rfl ?_
        refine ex_get (v := .ref (m + 1)) fl_X5_7 S.ob rfl dX5_next_34 ?_
        refine ex_bipush (v := nI 74) dX5_next_37 (by decide) ?_
        refine exM_ld (p := 65) (i := 9) (v := mg (itA d (n, g, t, u, q)).2.1) T.rf (by decide) rfl (by decide) rfl dX5_next_39 ?_
        refine ex_if_lt (tgt := 48) dX5_next_40 (by decide) (fun c_40 => ?_) (fun c_40 => absurd (by rw [hg]; decide) c_40)
        refine ex_aload_n 2 dX5_next_48 rfl rfl ?_
        refine ex_bipush (v := nI 65) dX5_next_49 (by decide) ?_
        refine ex_call0 (As := [.int (nI 65)]) (v := .int (gv (hand (itA d (n, g, t, u, q)).1 (itA d (n, g, t, u, q)).2.2.1 (itA d (n, g, t, u, q)).2.2.2.1 (itA d (n, g, t, u, q)).2.2.2.2))) (ci := 5) vl_X5_42 rfl (m_handA T (by decide) (itA_wf ok.1 d)) S.ob rfl (by decide) (Nat.le_of_ble_eq_true rfl) (Nat.le_refl _) (Nat.le_refl _) rfl dX5_next_51 ?_
        rw [hd2]
        refine ex_istore (lv' := [(4, .int (nI j)), (3, .int ((itA d (n, g, t, u, q)).2.2.2.1 13)), (2, .int (nI (d + 1))), (0, .ref m), (1, .int x)]) dX5_next_54 (by decide) rfl ?_
        refine ex_aload_n 3 dX5_next_56 rfl rfl ?_
        refine ex_bipush (v := nI 65) dX5_next_57 (by decide) ?_
        refine exM_call (As := [.int (nI 65)]) (r0 := (some (.int (hB (dayR (itA d (n, g, t, u, q))))))) (B := (itA (d + 1) (n, g, t, u, q))) vl_X5_70 rfl T.rf (fun S1 => m_day S1 (by decide) (itA_ok ok d (by omega))) rfl (by decide) (Nat.le_of_ble_eq_true rfl) (Nat.le_refl _) (Nat.le_refl _) rfl dX5_next_59 (fun h N => ?_)
        have S := S.trial n8 N
        have T := N.rp
        clear N
        refine ex_istore (lv' := [(5, .int (hB (dayR (itA d (n, g, t, u, q))))), (4, .int (nI j)), (3, .int ((itA d (n, g, t, u, q)).2.2.2.1 13)), (2, .int (nI (d + 1))), (0, .ref m), (1, .int x)]) dX5_next_62 (by decide) rfl ?_
        refine ex_iload 0 dX5_next_64 rfl ?_
        refine ex_if_eq (tgt := 91) dX5_next_66 (by decide) (fun c_66 => absurd c_66 (by rw [hr]; exact (by decide : ¬ nI 1 = 0))) (fun c_66 => ?_)
        refine ex_aload_n 4 dX5_next_69 rfl rfl ?_
        refine ex_get (v := .ref (m + 1)) fl_X5_7 S.ob rfl dX5_next_70 ?_
        refine ex_bipush (v := nI 78) dX5_next_73 (by decide) ?_
        refine exM_ld (p := 65) (i := 13) (v := ((itA (d + 1) (n, g, t, u, q))).2.2.2.1 13) T.rf (by decide) rfl (by decide) rfl dX5_next_75 ?_
        refine ex_iload_n 2 dX5_next_76 rfl rfl ?_
        refine ex_icmp_le (tgt := 91) dX5_next_77 (by decide) (fun c_77 => absurd c_77 (Int32.not_le.mpr hl)) (fun c_77 => ?_)
        refine ex_iload_n 5 dX5_next_80 rfl rfl ?_
        refine ex_if_ne (tgt := 89) dX5_next_81 (by decide) (fun c_81 => ?_) (fun c_81 => ?_)
        · refine ex_iload_n 3 dX5_next_89 rfl rfl ?_
          exact ex_iret hQ rfl (by unfold X_next; rw [if_pos hx, ← hh]; dsimp only; first | (rw [if_pos c_81]; exact ⟨rfl, rfl, S⟩) | (rw [if_neg c_81]; exact ⟨rfl, rfl, S⟩)) dX5_next_90
        · refine ex_iload 1 dX5_next_84 rfl ?_
          refine ex_goto (tgt := 90) dX5_next_86 (by decide) ?_
          exact ex_iret hQ rfl (by unfold X_next; rw [if_pos hx, ← hh]; dsimp only; first | (rw [if_pos c_81]; exact ⟨rfl, rfl, S⟩) | (rw [if_neg c_81]; exact ⟨rfl, rfl, S⟩)) dX5_next_90
  · refine ex_callS0 (As := [.int x, .int (nI 0), .int (nI 1)]) (v := .int (nI 0)) vl_X5_26 (Ct.mono (by rw [show inV x (nI 0) (nI 1) = nI 0 from if_neg h1]) m_in) rfl (by decide) (Nat.le_of_ble_eq_true rfl) (Nat.le_refl _) (Nat.le_refl _) rfl dX5_next_3 ?_
    refine ex_if_ne (tgt := 12) dX5_next_6 (by decide) (fun c_6 => absurd (by decide) c_6) (fun c_6 => ?_)
    refine ex_bipush (v := (-2)) dX5_next_9 (by decide) ?_
    exact ex_iret hQ rfl (by have hx : ¬ (x = 0 ∨ x = nI 1) := fun q9 => h1 (q9.elim (fun q9 => by rw [q9]; decide) (fun q9 => by rw [q9]; decide)); unfold X_next; rw [if_neg hx]; exact ⟨rfl, rfl, S⟩) dX5_next_11

set_option maxRecDepth 20000 in
set_option maxHeartbeats 2000000 in
theorem m_untilEmpty {G : GG} {l : Launch} {h0 : HP} {z m : Nat} {n : Nat} {g : Option Nat} {t : Nat} {u : Nat → Int32} {q : Nat → Nat → Int32} {k len : Nat} {L : Nat → AS} {V : Nat → Option AS} {c : Nat → Nat} (S0 : MP G h0 m ((n, g, t, u, q), k, L, V, len, c)) (nL : ∀ j, j < k → (L j).1 ≤ 8) {K : Nat} (ok : okA K (n, g, t, u, q)) (hK : K < 2 ^ 29) : Ct G l 5 0 0 yX5_untilEmpty cX5_untilEmpty 3 (some .int) [.ref m] h0 z (pM G (X_untilEmpty ((n, g, t, u, q), k, L, V, len, c), ((n, g, t, u, q), k, L, V, len, c)) h0 z m) := by
  refine Ct.intro (lv := [(0, .ref m)]) (by decide +kernel) (Nat.le_of_ble_eq_true rfl) rfl (fun X Q hQ hnm => ?_)
  have S := S0
  have n8 : n ≤ 8 := ok.1.1
  have gw : ∀ i, g = some i → i < n := ok.1.2.1
  have tw : t < n ∨ t = 0 := ok.1.2.2
  refine ex_aload_n 0 dX5_untilEmpty_0 rfl rfl ?_
  refine ex_callV (As := []) (ci := 5) vl_X5_112 rfl (m_copies (S.kept (fun _ _ _ => rfl)) n8) S.ob rfl (by decide) (Nat.le_of_ble_eq_true rfl) (Nat.le_refl _) (Nat.le_refl _) rfl dX5_untilEmpty_1 (fun r9 h9 z9 hp9 => ?_)
  obtain ⟨e9, e8, N9⟩ := hp9
  subst e9
  subst e8
  have S : MF G h0 h9 m ((n, g, t, u, q), k, L, V, len, c) := S.trial n8 N9
  have T : RP G h9 m k len 65 (n, g, t, u, q) := N9.rp
  clear N9
  refine ex_iconst (v := nI 0) dX5_untilEmpty_4 (by decide) ?_
  refine ex_istore_n (lv' := [(1, .int (nI 0)), (0, .ref m)]) dX5_untilEmpty_5 rfl (by decide) rfl ?_
  suffices H : ∀ (k2 d : Nat) (h : HP), d + k2 = 2001 → MF G h0 h m ((n, g, t, u, q), k, L, V, len, c) → RP G h m k len 65 (itA d (n, g, t, u, q)) → ueG (n, g, t, u, q) k2 d = ueG (n, g, t, u, q) 2001 0 → ex G l X Q 5 0 0 0 0 cX5_untilEmpty yX5_untilEmpty.cls 3 (some .int) h z9 6 [(1, .int (nI d)), (0, .ref m)] [] from by
    have e2 := H 2001 0 h9 (by omega) S T rfl
    refine ex_lv (lv2 := [(1, .int (nI 0)), (0, .ref m)]) [0, 1] rfl ?_
    exact e2
  intro k2
  induction k2 with
  | zero =>
    intro d h hd S T hh
    refine ex_iload_n 0 dX5_untilEmpty_6 rfl rfl ?_
    refine ex_sipush (v := nI 2000) dX5_untilEmpty_7 (by decide) ?_
    refine ex_icmp_gt (tgt := 38) dX5_untilEmpty_10 (by decide) (fun c_10 => ?_) (fun c_10 => absurd ((nI_ltI (by omega) (by omega)).mpr (by omega)) c_10)
    refine ex_bipush (v := (-6)) dX5_untilEmpty_38 (by decide) ?_
    exact ex_iret hQ rfl (by exact ⟨congrArg (fun x => some (Value.int x)) hh, rfl, S⟩) dX5_untilEmpty_40
  | succ k2 ih =>
    intro d h hd S T hh
    rw [ueG] at hh
    refine ex_iload_n 0 dX5_untilEmpty_6 rfl rfl ?_
    refine ex_sipush (v := nI 2000) dX5_untilEmpty_7 (by decide) ?_
    refine ex_icmp_gt (tgt := 38) dX5_untilEmpty_10 (by decide) (fun c_10 => absurd c_10 (fun q9 => absurd ((nI_ltI (by omega) (by omega)).mp q9) (by omega))) (fun c_10 => ?_)
    refine ex_aload_n 1 dX5_untilEmpty_13 rfl rfl ?_
    refine ex_get (v := .ref (m + 1)) fl_X5_7 S.ob rfl dX5_untilEmpty_14 ?_
    refine ex_bipush (v := nI 76) dX5_untilEmpty_17 (by decide) ?_
    refine exM_ld (p := 65) (i := 11) (v := (itA d (n, g, t, u, q)).2.2.2.1 11) T.rf (by decide) rfl (by decide) rfl dX5_untilEmpty_19 ?_
    refine ex_if_ne (tgt := 25) dX5_untilEmpty_20 (by decide) (fun c_20 => ?_) (fun c_20 => ?_)
    · refine ex_aload_n 1 dX5_untilEmpty_25 rfl rfl ?_
      refine ex_bipush (v := nI 65) dX5_untilEmpty_26 (by decide) ?_
      refine exM_call (As := [.int (nI 65)]) (r0 := (some (.int (hB (dayR (itA d (n, g, t, u, q))))))) (B := (itA (d + 1) (n, g, t, u, q))) vl_X5_70 rfl T.rf (fun S1 => m_day S1 (by decide) (itA_ok ok d (by omega))) rfl (by decide) (Nat.le_of_ble_eq_true rfl) (Nat.le_refl _) (Nat.le_refl _) rfl dX5_untilEmpty_28 (fun h N => ?_)
      have S := S.trial n8 N
      have T := N.rp
      clear N
      refine ex_istore_n (lv' := [(2, .int (hB (dayR (itA d (n, g, t, u, q))))), (1, .int (nI d)), (0, .ref m)]) dX5_untilEmpty_31 rfl (by decide) rfl ?_
      refine ex_iinc (v := nI (d + 1)) (lv' := [(1, .int (nI (d + 1))), (2, .int (hB (dayR (itA d (n, g, t, u, q))))), (0, .ref m)]) 1 dX5_untilEmpty_32 rfl (nI_1 d) (by decide) rfl ?_
      refine ex_goto (tgt := 6) dX5_untilEmpty_35 (by decide) ?_
      have e2 := ih (d + 1) h (by omega) S T (by rw [← hh, if_neg c_20])
      refine ex_lv (lv2 := [(1, .int (nI (d + 1))), (0, .ref m)]) [0, 2] rfl ?_
      exact e2
    · refine ex_iload_n 0 dX5_untilEmpty_23 rfl rfl ?_
      exact ex_iret hQ rfl (by rw [if_pos c_20] at hh; exact ⟨congrArg (fun x => some (Value.int x)) hh, rfl, S⟩) dX5_untilEmpty_24

theorem mgv_n {g : Option Nat} {n : Nat} (gw : ∀ i, g = some i → i < n) (n8 : n ≤ 8) (h : ¬ 0 ≤ mg g) : gv g = -6 := by
  cases g with
  | none => rfl
  | some i => exact absurd (nI_pos' (by have := gw i rfl; omega)) h
theorem mgv_s {g : Option Nat} (h : 0 ≤ mg g) : gv g = mg g := by
  cases g with
  | none => exact absurd h (by decide)
  | some i => rfl

set_option maxRecDepth 20000 in
set_option maxHeartbeats 2000000 in
theorem m_ifPassed {G : GG} {l : Launch} {h0 : HP} {z m : Nat} {n : Nat} {g : Option Nat} {t : Nat} {u : Nat → Int32} {q : Nat → Nat → Int32} {k len : Nat} {L : Nat → AS} {V : Nat → Option AS} {c : Nat → Nat} (S0 : MP G h0 m ((n, g, t, u, q), k, L, V, len, c)) (nL : ∀ j, j < k → (L j).1 ≤ 8) {K : Nat} (ok : okA K (n, g, t, u, q)) (hK : K < 2 ^ 29) {v x : Int32} : Ct G l 6 0 0 yX5_ifPassed cX5_ifPassed 4 (some .int) [.ref m, .int v, .int x] h0 z (pM G (X_ifPassed ((n, g, t, u, q), k, L, V, len, c) v x, ((n, g, t, u, q), k, L, V, len, c)) h0 z m) := by
  refine Ct.intro (lv := [(0, .ref m), (1, .int v), (2, .int x)]) (by decide +kernel) (Nat.le_of_ble_eq_true rfl) rfl (fun X Q hQ hnm => ?_)
  have S := S0
  have n8 : n ≤ 8 := ok.1.1
  have gw : ∀ i, g = some i → i < n := ok.1.2.1
  have tw : t < n ∨ t = 0 := ok.1.2.2
  refine ex_iload_n 1 dX5_ifPassed_0 rfl rfl ?_
  refine ex_iconst (v := nI 1) dX5_ifPassed_1 (by decide) ?_
  refine ex_sipush (v := nI 500) dX5_ifPassed_2 (by decide) ?_
  by_cases h1 : nI 1 ≤ v ∧ v ≤ nI 500
  · refine ex_callS0 (As := [.int v, .int (nI 1), .int (nI 500)]) (v := .int (nI 1)) vl_X5_26 (Ct.mono (by rw [show inV v (nI 1) (nI 500) = nI 1 from if_pos h1]) m_in) rfl (by decide) (Nat.le_of_ble_eq_true rfl) (Nat.le_refl _) (Nat.le_refl _) rfl dX5_ifPassed_5 ?_
    refine ex_if_eq (tgt := 20) dX5_ifPassed_8 (by decide) (fun c_8 => absurd c_8 (by decide)) (fun c_8 => ?_)
    refine ex_iload_n 2 dX5_ifPassed_11 rfl rfl ?_
    refine ex_iconst (v := nI 0) dX5_ifPassed_12 (by decide) ?_
    refine ex_iconst (v := nI 4) dX5_ifPassed_13 (by decide) ?_
    by_cases h2 : nI 0 ≤ x ∧ x ≤ nI 4
    · refine ex_callS0 (As := [.int x, .int (nI 0), .int (nI 4)]) (v := .int (nI 1)) vl_X5_26 (Ct.mono (by rw [show inV x (nI 0) (nI 4) = nI 1 from if_pos h2]) m_in) rfl (by decide) (Nat.le_of_ble_eq_true rfl) (Nat.le_refl _) (Nat.le_refl _) rfl dX5_ifPassed_14 ?_
      refine ex_if_ne (tgt := 23) dX5_ifPassed_17 (by decide) (fun c_17 => ?_) (fun c_17 => absurd c_17 (by decide))
      have hc : ¬ (v < nI 1 ∨ nI 500 < v ∨ x < 0 ∨ nI 4 < x) := fun q9 => q9.elim (fun q9 => absurd h1.1 (Int32.not_le.mpr q9)) (fun q9 => q9.elim (fun q9 => absurd h1.2 (Int32.not_le.mpr q9)) (fun q9 => q9.elim (fun q9 => absurd h2.1 (Int32.not_le.mpr q9)) (fun q9 => absurd h2.2 (Int32.not_le.mpr q9))))
      obtain ⟨j, j1, j2, rfl⟩ := rngI (by omega) (by omega) (Int32.not_lt.mpr h1.1) h1.2
      obtain ⟨r, r1, r2, rfl⟩ := rngI (a := 0) (by omega) (by omega) (Int32.not_lt.mpr h2.1) h2.2
      rcases (show r = 0 ∨ r = 1 ∨ r = 2 ∨ r = 3 ∨ r = 4 by omega) with rfl | rfl | rfl | rfl | rfl
      · refine ex_aload_n 0 dX5_ifPassed_23 rfl rfl ?_
        refine ex_callV (As := []) (ci := 5) vl_X5_112 rfl (m_copies (S.kept (fun _ _ _ => rfl)) n8) S.ob rfl (by decide) (Nat.le_of_ble_eq_true rfl) (Nat.le_refl _) (Nat.le_refl _) rfl dX5_ifPassed_24 (fun r9 h9 z9 hp9 => ?_)
        obtain ⟨e9, e8, N9⟩ := hp9
        subst e9
        subst e8
        have S : MF G h0 h9 m ((n, g, t, u, q), k, L, V, len, c) := S.trial n8 N9
        have T : RP G h9 m k len 65 (n, g, t, u, q) := N9.rp
        clear N9
        refine ex_aload_n 0 dX5_ifPassed_27 rfl rfl ?_
        refine ex_bipush (v := nI 65) dX5_ifPassed_28 (by decide) ?_
        refine ex_iload_n 1 dX5_ifPassed_30 rfl rfl ?_
        refine exM_call (As := [.int (nI 65), .int (nI j)]) (r0 := (some (.int (nI (pcN (n, g, t, u, q) j))))) (B := (itA j (n, g, t, u, q))) vl_X5_103 rfl T.rf (fun S1 => m_passes S1 (by decide) ok (by omega) hK) rfl (by decide) (Nat.le_of_ble_eq_true rfl) (Nat.le_refl _) (Nat.le_refl _) rfl dX5_ifPassed_31 (fun h N => ?_)
        have S := S.trial n8 N
        have T := N.rp
        clear N
        refine ex_istore_n (lv' := [(3, .int (nI (pcN (n, g, t, u, q) j))), (0, .ref m), (1, .int (nI j)), (2, .int (nI 0))]) dX5_ifPassed_34 rfl (by decide) rfl ?_
        refine ex_iload_n 3 dX5_ifPassed_35 rfl rfl ?_
        refine ex_tableIn (off := 32) (tgt := 68) dX5_ifPassed_36 (by decide) (by decide) (by decide) (by decide) ?_
        refine ex_iload_n 0 dX5_ifPassed_68 rfl rfl ?_
        exact ex_iret hQ rfl (by unfold X_ifPassed; rw [if_neg hc, ixn (by omega), ixn (by decide)]; exact ⟨congrArg (fun x => some (Value.int x)) pcN_sub.symm, rfl, S⟩) dX5_ifPassed_69
      · refine ex_aload_n 0 dX5_ifPassed_23 rfl rfl ?_
        refine ex_callV (As := []) (ci := 5) vl_X5_112 rfl (m_copies (S.kept (fun _ _ _ => rfl)) n8) S.ob rfl (by decide) (Nat.le_of_ble_eq_true rfl) (Nat.le_refl _) (Nat.le_refl _) rfl dX5_ifPassed_24 (fun r9 h9 z9 hp9 => ?_)
        obtain ⟨e9, e8, N9⟩ := hp9
        subst e9
        subst e8
        have S : MF G h0 h9 m ((n, g, t, u, q), k, L, V, len, c) := S.trial n8 N9
        have T : RP G h9 m k len 65 (n, g, t, u, q) := N9.rp
        clear N9
        refine ex_aload_n 0 dX5_ifPassed_27 rfl rfl ?_
        refine ex_bipush (v := nI 65) dX5_ifPassed_28 (by decide) ?_
        refine ex_iload_n 1 dX5_ifPassed_30 rfl rfl ?_
        refine exM_call (As := [.int (nI 65), .int (nI j)]) (r0 := (some (.int (nI (pcN (n, g, t, u, q) j))))) (B := (itA j (n, g, t, u, q))) vl_X5_103 rfl T.rf (fun S1 => m_passes S1 (by decide) ok (by omega) hK) rfl (by decide) (Nat.le_of_ble_eq_true rfl) (Nat.le_refl _) (Nat.le_refl _) rfl dX5_ifPassed_31 (fun h N => ?_)
        have S := S.trial n8 N
        have T := N.rp
        clear N
        refine ex_istore_n (lv' := [(3, .int (nI (pcN (n, g, t, u, q) j))), (0, .ref m), (1, .int (nI j)), (2, .int (nI 1))]) dX5_ifPassed_34 rfl (by decide) rfl ?_
        refine ex_iload_n 3 dX5_ifPassed_35 rfl rfl ?_
        refine ex_tableIn (off := 34) (tgt := 70) dX5_ifPassed_36 (by decide) (by decide) (by decide) (by decide) ?_
        refine ex_aload_n 1 dX5_ifPassed_70 rfl rfl ?_
        refine ex_get (v := .ref (m + 1)) fl_X5_7 S.ob rfl dX5_ifPassed_71 ?_
        refine ex_bipush (v := nI 77) dX5_ifPassed_74 (by decide) ?_
        refine exM_ld (p := 65) (i := 12) (v := ((itA j (n, g, t, u, q))).2.2.2.1 12) T.rf (by decide) rfl (by decide) rfl dX5_ifPassed_76 ?_
        refine ex_aload_n 1 dX5_ifPassed_77 rfl rfl ?_
        refine ex_get (v := .ref (m + 1)) fl_X5_7 S.ob rfl dX5_ifPassed_78 ?_
        refine ex_bipush (v := nI 12) dX5_ifPassed_81 (by decide) ?_
        refine exM_ld (p := 0) (i := 12) (v := u 12) S.rp.rf (by decide) rfl (by decide) rfl dX5_ifPassed_83 ?_
        refine ex_isub dX5_ifPassed_84 ?_
        exact ex_iret hQ rfl (by unfold X_ifPassed; rw [if_neg hc, ixn (by omega), ixn (by decide)]; exact ⟨rfl, rfl, S⟩) dX5_ifPassed_85
      · refine ex_aload_n 0 dX5_ifPassed_23 rfl rfl ?_
        refine ex_callV (As := []) (ci := 5) vl_X5_112 rfl (m_copies (S.kept (fun _ _ _ => rfl)) n8) S.ob rfl (by decide) (Nat.le_of_ble_eq_true rfl) (Nat.le_refl _) (Nat.le_refl _) rfl dX5_ifPassed_24 (fun r9 h9 z9 hp9 => ?_)
        obtain ⟨e9, e8, N9⟩ := hp9
        subst e9
        subst e8
        have S : MF G h0 h9 m ((n, g, t, u, q), k, L, V, len, c) := S.trial n8 N9
        have T : RP G h9 m k len 65 (n, g, t, u, q) := N9.rp
        clear N9
        refine ex_aload_n 0 dX5_ifPassed_27 rfl rfl ?_
        refine ex_bipush (v := nI 65) dX5_ifPassed_28 (by decide) ?_
        refine ex_iload_n 1 dX5_ifPassed_30 rfl rfl ?_
        refine exM_call (As := [.int (nI 65), .int (nI j)]) (r0 := (some (.int (nI (pcN (n, g, t, u, q) j))))) (B := (itA j (n, g, t, u, q))) vl_X5_103 rfl T.rf (fun S1 => m_passes S1 (by decide) ok (by omega) hK) rfl (by decide) (Nat.le_of_ble_eq_true rfl) (Nat.le_refl _) (Nat.le_refl _) rfl dX5_ifPassed_31 (fun h N => ?_)
        have S := S.trial n8 N
        have T := N.rp
        clear N
        refine ex_istore_n (lv' := [(3, .int (nI (pcN (n, g, t, u, q) j))), (0, .ref m), (1, .int (nI j)), (2, .int (nI 2))]) dX5_ifPassed_34 rfl (by decide) rfl ?_
        refine ex_iload_n 3 dX5_ifPassed_35 rfl rfl ?_
        refine ex_tableIn (off := 50) (tgt := 86) dX5_ifPassed_36 (by decide) (by decide) (by decide) (by decide) ?_
        refine ex_aload_n 1 dX5_ifPassed_86 rfl rfl ?_
        refine ex_get (v := .ref (m + 1)) fl_X5_7 S.ob rfl dX5_ifPassed_87 ?_
        refine ex_bipush (v := nI 80) dX5_ifPassed_90 (by decide) ?_
        refine exM_ld (p := 65) (i := 15) (v := ((itA j (n, g, t, u, q))).2.2.2.1 15) T.rf (by decide) rfl (by decide) rfl dX5_ifPassed_92 ?_
        refine ex_aload_n 1 dX5_ifPassed_93 rfl rfl ?_
        refine ex_get (v := .ref (m + 1)) fl_X5_7 S.ob rfl dX5_ifPassed_94 ?_
        refine ex_bipush (v := nI 15) dX5_ifPassed_97 (by decide) ?_
        refine exM_ld (p := 0) (i := 15) (v := u 15) S.rp.rf (by decide) rfl (by decide) rfl dX5_ifPassed_99 ?_
        refine ex_isub dX5_ifPassed_100 ?_
        exact ex_iret hQ rfl (by unfold X_ifPassed; rw [if_neg hc, ixn (by omega), ixn (by decide)]; exact ⟨rfl, rfl, S⟩) dX5_ifPassed_101
      · refine ex_aload_n 0 dX5_ifPassed_23 rfl rfl ?_
        refine ex_callV (As := []) (ci := 5) vl_X5_112 rfl (m_copies (S.kept (fun _ _ _ => rfl)) n8) S.ob rfl (by decide) (Nat.le_of_ble_eq_true rfl) (Nat.le_refl _) (Nat.le_refl _) rfl dX5_ifPassed_24 (fun r9 h9 z9 hp9 => ?_)
        obtain ⟨e9, e8, N9⟩ := hp9
        subst e9
        subst e8
        have S : MF G h0 h9 m ((n, g, t, u, q), k, L, V, len, c) := S.trial n8 N9
        have T : RP G h9 m k len 65 (n, g, t, u, q) := N9.rp
        clear N9
        refine ex_aload_n 0 dX5_ifPassed_27 rfl rfl ?_
        refine ex_bipush (v := nI 65) dX5_ifPassed_28 (by decide) ?_
        refine ex_iload_n 1 dX5_ifPassed_30 rfl rfl ?_
        refine exM_call (As := [.int (nI 65), .int (nI j)]) (r0 := (some (.int (nI (pcN (n, g, t, u, q) j))))) (B := (itA j (n, g, t, u, q))) vl_X5_103 rfl T.rf (fun S1 => m_passes S1 (by decide) ok (by omega) hK) rfl (by decide) (Nat.le_of_ble_eq_true rfl) (Nat.le_refl _) (Nat.le_refl _) rfl dX5_ifPassed_31 (fun h N => ?_)
        have S := S.trial n8 N
        have T := N.rp
        clear N
        refine ex_istore_n (lv' := [(3, .int (nI (pcN (n, g, t, u, q) j))), (0, .ref m), (1, .int (nI j)), (2, .int (nI 3))]) dX5_ifPassed_34 rfl (by decide) rfl ?_
        refine ex_iload_n 3 dX5_ifPassed_35 rfl rfl ?_
        refine ex_tableIn (off := 66) (tgt := 102) dX5_ifPassed_36 (by decide) (by decide) (by decide) (by decide) ?_
        refine ex_aload_n 1 dX5_ifPassed_102 rfl rfl ?_
        refine ex_get (v := .ref (m + 1)) fl_X5_7 S.ob rfl dX5_ifPassed_103 ?_
        refine ex_bipush (v := nI 73) dX5_ifPassed_106 (by decide) ?_
        refine exM_ld (p := 65) (i := 8) (v := ((itA j (n, g, t, u, q))).2.2.2.1 8) T.rf (by decide) rfl (by decide) rfl dX5_ifPassed_108 ?_
        exact ex_iret hQ rfl (by unfold X_ifPassed; rw [if_neg hc, ixn (by omega), ixn (by decide)]; exact ⟨rfl, rfl, S⟩) dX5_ifPassed_109
      · have gwT := (itA_wf ok.1 j).2.1
        have n8T := (itA_wf ok.1 j).1
        refine ex_aload_n 0 dX5_ifPassed_23 rfl rfl ?_
        refine ex_callV (As := []) (ci := 5) vl_X5_112 rfl (m_copies (S.kept (fun _ _ _ => rfl)) n8) S.ob rfl (by decide) (Nat.le_of_ble_eq_true rfl) (Nat.le_refl _) (Nat.le_refl _) rfl dX5_ifPassed_24 (fun r9 h9 z9 hp9 => ?_)
        obtain ⟨e9, e8, N9⟩ := hp9
        subst e9
        subst e8
        have S : MF G h0 h9 m ((n, g, t, u, q), k, L, V, len, c) := S.trial n8 N9
        have T : RP G h9 m k len 65 (n, g, t, u, q) := N9.rp
        clear N9
        refine ex_aload_n 0 dX5_ifPassed_27 rfl rfl ?_
        refine ex_bipush (v := nI 65) dX5_ifPassed_28 (by decide) ?_
        refine ex_iload_n 1 dX5_ifPassed_30 rfl rfl ?_
        refine exM_call (As := [.int (nI 65), .int (nI j)]) (r0 := (some (.int (nI (pcN (n, g, t, u, q) j))))) (B := (itA j (n, g, t, u, q))) vl_X5_103 rfl T.rf (fun S1 => m_passes S1 (by decide) ok (by omega) hK) rfl (by decide) (Nat.le_of_ble_eq_true rfl) (Nat.le_refl _) (Nat.le_refl _) rfl dX5_ifPassed_31 (fun h N => ?_)
        have S := S.trial n8 N
        have T := N.rp
        clear N
        refine ex_istore_n (lv' := [(3, .int (nI (pcN (n, g, t, u, q) j))), (0, .ref m), (1, .int (nI j)), (2, .int (nI 4))]) dX5_ifPassed_34 rfl (by decide) rfl ?_
        refine ex_iload_n 3 dX5_ifPassed_35 rfl rfl ?_
        refine ex_tableOut (tgt := 110) dX5_ifPassed_36 (by decide) (by decide) ?_
        refine ex_aload_n 1 dX5_ifPassed_110 rfl rfl ?_
        refine ex_get (v := .ref (m + 1)) fl_X5_7 S.ob rfl dX5_ifPassed_111 ?_
        refine ex_bipush (v := nI 74) dX5_ifPassed_114 (by decide) ?_
        refine exM_ld (p := 65) (i := 9) (v := mg ((itA j (n, g, t, u, q))).2.1) T.rf (by decide) rfl (by decide) rfl dX5_ifPassed_116 ?_
        refine ex_if_ge (tgt := 125) dX5_ifPassed_117 (by decide) (fun c_117 => ?_) (fun c_117 => ?_)
        · refine ex_aload_n 1 dX5_ifPassed_125 rfl rfl ?_
          refine ex_get (v := .ref (m + 1)) fl_X5_7 S.ob rfl dX5_ifPassed_126 ?_
          refine ex_bipush (v := nI 74) dX5_ifPassed_129 (by decide) ?_
          refine exM_ld (p := 65) (i := 9) (v := mg ((itA j (n, g, t, u, q))).2.1) T.rf (by decide) rfl (by decide) rfl dX5_ifPassed_131 ?_
          exact ex_iret hQ rfl (by unfold X_ifPassed; rw [if_neg hc, ixn (by omega), ixn (by decide)]; first | exact ⟨congrArg (fun x => some (Value.int x)) (mgv_n gwT n8T c_117).symm, rfl, S⟩ | exact ⟨congrArg (fun x => some (Value.int x)) (mgv_s c_117).symm, rfl, S⟩) dX5_ifPassed_132
        · refine ex_bipush (v := (-6)) dX5_ifPassed_120 (by decide) ?_
          refine ex_goto (tgt := 132) dX5_ifPassed_122 (by decide) ?_
          exact ex_iret hQ rfl (by unfold X_ifPassed; rw [if_neg hc, ixn (by omega), ixn (by decide)]; first | exact ⟨congrArg (fun x => some (Value.int x)) (mgv_n gwT n8T c_117).symm, rfl, S⟩ | exact ⟨congrArg (fun x => some (Value.int x)) (mgv_s c_117).symm, rfl, S⟩) dX5_ifPassed_132
    · refine ex_callS0 (As := [.int x, .int (nI 0), .int (nI 4)]) (v := .int (nI 0)) vl_X5_26 (Ct.mono (by rw [show inV x (nI 0) (nI 4) = nI 0 from if_neg h2]) m_in) rfl (by decide) (Nat.le_of_ble_eq_true rfl) (Nat.le_refl _) (Nat.le_refl _) rfl dX5_ifPassed_14 ?_
      refine ex_if_ne (tgt := 23) dX5_ifPassed_17 (by decide) (fun c_17 => absurd (by decide) c_17) (fun c_17 => ?_)
      refine ex_bipush (v := (-2)) dX5_ifPassed_20 (by decide) ?_
      exact ex_iret hQ rfl (by unfold X_ifPassed; rw [if_pos (Decidable.byContradiction (fun q9 => by first | exact h1 ⟨Int32.not_lt.mp (fun q8 => q9 (Or.inl q8)), Int32.not_lt.mp (fun q8 => q9 (Or.inr (Or.inl q8)))⟩ | exact h2 ⟨Int32.not_lt.mp (fun q8 => q9 (Or.inr (Or.inr (Or.inl q8)))), Int32.not_lt.mp (fun q8 => q9 (Or.inr (Or.inr (Or.inr q8))))⟩))]; exact ⟨rfl, rfl, S⟩) dX5_ifPassed_22
  · refine ex_callS0 (As := [.int v, .int (nI 1), .int (nI 500)]) (v := .int (nI 0)) vl_X5_26 (Ct.mono (by rw [show inV v (nI 1) (nI 500) = nI 0 from if_neg h1]) m_in) rfl (by decide) (Nat.le_of_ble_eq_true rfl) (Nat.le_refl _) (Nat.le_refl _) rfl dX5_ifPassed_5 ?_
    refine ex_if_eq (tgt := 20) dX5_ifPassed_8 (by decide) (fun c_8 => ?_) (fun c_8 => absurd (by decide) c_8)
    refine ex_bipush (v := (-2)) dX5_ifPassed_20 (by decide) ?_
    exact ex_iret hQ rfl (by unfold X_ifPassed; rw [if_pos (Decidable.byContradiction (fun q9 => by first | exact h1 ⟨Int32.not_lt.mp (fun q8 => q9 (Or.inl q8)), Int32.not_lt.mp (fun q8 => q9 (Or.inr (Or.inl q8)))⟩ | exact h2 ⟨Int32.not_lt.mp (fun q8 => q9 (Or.inr (Or.inr (Or.inl q8)))), Int32.not_lt.mp (fun q8 => q9 (Or.inr (Or.inr (Or.inr q8))))⟩))]; exact ⟨rfl, rfl, S⟩) dX5_ifPassed_22

set_option maxRecDepth 20000 in
set_option maxHeartbeats 2000000 in
theorem m_bestPlace {G : GG} {l : Launch} {h0 : HP} {z m : Nat} {n : Nat} {g : Option Nat} {t : Nat} {u : Nat → Int32} {q : Nat → Nat → Int32} {k len : Nat} {L : Nat → AS} {V : Nat → Option AS} {c : Nat → Nat} (S0 : MP G h0 m ((n, g, t, u, q), k, L, V, len, c)) (nL : ∀ j, j < k → (L j).1 ≤ 8) {K : Nat} (ok : okA K (n, g, t, u, q)) (hK : K < 2 ^ 29) {y x : Int32} : Ct G l 6 0 0 yX5_bestPlace cX5_bestPlace 9 (some .int) [.ref m, .int y, .int x] h0 z (pM G (X_bestPlace ((n, g, t, u, q), k, L, V, len, c) y x, ((n, g, t, u, q), k, L, V, len, c)) h0 z m) := by
  refine Ct.intro (lv := [(0, .ref m), (1, .int y), (2, .int x)]) (by decide +kernel) (Nat.le_of_ble_eq_true rfl) rfl (fun X Q hQ hnm => ?_)
  have S := S0
  have n8 : n ≤ 8 := ok.1.1
  have gw : ∀ i, g = some i → i < n := ok.1.2.1
  have tw : t < n ∨ t = 0 := ok.1.2.2
  rcases inR_or y n (by omega) with ⟨i, hp, rfl⟩ | hp
  · refine ex_aload_n 0 dX5_bestPlace_0 rfl rfl ?_
    refine ex_iload_n 1 dX5_bestPlace_1 rfl rfl ?_
    refine ex_call0 (As := [.int (nI i)]) (v := .int (nI 1)) (ci := 5) vl_X5_93 rfl (m_isPersonT S.rp n8 hp) S.ob rfl (by decide) (Nat.le_of_ble_eq_true rfl) (Nat.le_refl _) (Nat.le_refl _) rfl dX5_bestPlace_2 ?_
    refine ex_if_ne (tgt := 10) dX5_bestPlace_5 (by decide) (fun c_5 => ?_) (fun c_5 => absurd c_5 (by decide))
    refine ex_iload_n 2 dX5_bestPlace_10 rfl rfl ?_
    refine ex_iconst (v := nI 0) dX5_bestPlace_11 (by decide) ?_
    refine ex_iconst (v := nI 1) dX5_bestPlace_12 (by decide) ?_
    by_cases h1 : nI 0 ≤ x ∧ x ≤ nI 1
    · refine ex_callS0 (As := [.int x, .int (nI 0), .int (nI 1)]) (v := .int (nI 1)) vl_X5_26 (Ct.mono (by rw [show inV x (nI 0) (nI 1) = nI 1 from if_pos h1]) m_in) rfl (by decide) (Nat.le_of_ble_eq_true rfl) (Nat.le_refl _) (Nat.le_refl _) rfl dX5_bestPlace_13 ?_
      refine ex_if_ne (tgt := 22) dX5_bestPlace_16 (by decide) (fun c_16 => ?_) (fun c_16 => absurd c_16 (by decide))
      have hx : x = 0 ∨ x = nI 1 := in01 h1
      refine ex_iconst (v := nI 0) dX5_bestPlace_22 (by decide) ?_
      refine ex_istore_n (lv' := [(3, .int (nI 0)), (0, .ref m), (1, .int (nI i)), (2, .int x)]) dX5_bestPlace_23 rfl (by decide) rfl ?_
      refine ex_iconst (v := (-1)) dX5_bestPlace_24 (by decide) ?_
      refine ex_istore (lv' := [(4, .int (-1)), (3, .int (nI 0)), (0, .ref m), (1, .int (nI i)), (2, .int x)]) dX5_bestPlace_25 (by decide) rfl ?_
      refine ex_iconst (v := nI 0) dX5_bestPlace_27 (by decide) ?_
      refine ex_istore (lv' := [(5, .int (nI 0)), (4, .int (-1)), (3, .int (nI 0)), (0, .ref m), (1, .int (nI i)), (2, .int x)]) dX5_bestPlace_28 (by decide) rfl ?_
      suffices H : ∀ (k2 p best : Nat) (most : Int32) (h : HP), p + k2 = n → MF G h0 h m ((n, g, t, u, q), k, L, V, len, c) → bpG (n, g, t, u, q) i k2 p best most = bpG (n, g, t, u, q) i n 0 0 (-1) → ex G l X Q 6 0 0 0 0 cX5_bestPlace yX5_bestPlace.cls 9 (some .int) h z 30 [(5, .int (nI p)), (4, .int most), (3, .int (nI best)), (0, .ref m), (1, .int (nI i)), (2, .int x)] [] from by
        have e2 := H n 0 0 (-1) h0 (by omega) S rfl
        refine ex_lv (lv2 := [(5, .int (nI 0)), (4, .int (-1)), (3, .int (nI 0)), (0, .ref m), (1, .int (nI i)), (2, .int x)]) [0, 1, 2, 3, 4, 5] rfl ?_
        exact e2
      intro k2
      induction k2 with
      | zero =>
        intro p best most h hd S hh
        refine ex_iload 0 dX5_bestPlace_30 rfl ?_
        refine ex_aload_n 3 dX5_bestPlace_32 rfl rfl ?_
        refine ex_get (v := .ref (m + 1)) fl_X5_7 S.ob rfl dX5_bestPlace_33 ?_
        refine ex_bipush (v := nI 7) dX5_bestPlace_36 (by decide) ?_
        refine exM_ld (p := 0) (i := 7) (v := nI n) S.rp.rf (by decide) rfl (by decide) rfl dX5_bestPlace_38 ?_
        refine ex_icmp_ge (tgt := 136) dX5_bestPlace_39 (by decide) (fun c_39 => ?_) (fun c_39 => absurd ((nI_leI (by omega) (by omega)).mpr (by omega)) c_39)
        refine ex_iload_n 5 dX5_bestPlace_136 rfl rfl ?_
        refine ex_if_ne (tgt := 144) dX5_bestPlace_137 (by decide) (fun c_137 => ?_) (fun c_137 => ?_)
        · refine ex_iload 1 dX5_bestPlace_144 rfl ?_
          exact ex_iret hQ rfl (by unfold X_bestPlace; dsimp only; rw [if_pos (inR_nI hp (by omega)), if_pos hx, ixn (by omega), ← hh]; first | (rw [if_pos c_137]; exact ⟨rfl, rfl, S⟩) | (rw [if_neg c_137]; exact ⟨rfl, rfl, S⟩)) dX5_bestPlace_146
        · refine ex_iload_n 2 dX5_bestPlace_140 rfl rfl ?_
          refine ex_goto (tgt := 146) dX5_bestPlace_141 (by decide) ?_
          exact ex_iret hQ rfl (by unfold X_bestPlace; dsimp only; rw [if_pos (inR_nI hp (by omega)), if_pos hx, ixn (by omega), ← hh]; first | (rw [if_pos c_137]; exact ⟨rfl, rfl, S⟩) | (rw [if_neg c_137]; exact ⟨rfl, rfl, S⟩)) dX5_bestPlace_146
      | succ k2 ih =>
        intro p best most h hd S hh
        rw [bpG] at hh
        refine ex_iload 0 dX5_bestPlace_30 rfl ?_
        refine ex_aload_n 3 dX5_bestPlace_32 rfl rfl ?_
        refine ex_get (v := .ref (m + 1)) fl_X5_7 S.ob rfl dX5_bestPlace_33 ?_
        refine ex_bipush (v := nI 7) dX5_bestPlace_36 (by decide) ?_
        refine exM_ld (p := 0) (i := 7) (v := nI n) S.rp.rf (by decide) rfl (by decide) rfl dX5_bestPlace_38 ?_
        refine ex_icmp_ge (tgt := 136) dX5_bestPlace_39 (by decide) (fun c_39 => absurd c_39 (fun q9 => absurd ((nI_leI (by omega) (by omega)).mp q9) (by omega))) (fun c_39 => ?_)
        refine ex_aload_n 3 dX5_bestPlace_42 rfl rfl ?_
        refine ex_callV (As := []) (ci := 5) vl_X5_112 rfl (m_copies (S.kept (fun _ _ _ => rfl)) n8) S.ob rfl (by decide) (Nat.le_of_ble_eq_true rfl) (Nat.le_refl _) (Nat.le_refl _) rfl dX5_bestPlace_43 (fun r9 h9 z9 hp9 => ?_)
        obtain ⟨e9, e8, N9⟩ := hp9
        subst e9
        subst e8
        have S : MF G h0 h9 m ((n, g, t, u, q), k, L, V, len, c) := S.trial n8 N9
        have T : RP G h9 m k len 65 (n, g, t, u, q) := N9.rp
        clear N9
        refine ex_aload_n 3 dX5_bestPlace_46 rfl rfl ?_
        refine ex_bipush (v := nI 65) dX5_bestPlace_47 (by decide) ?_
        refine ex_iload_n 4 dX5_bestPlace_49 rfl rfl ?_
        refine ex_iload 0 dX5_bestPlace_50 rfl ?_
        refine exM_call (As := [.int (nI 65), .int (nI i), .int (nI p)]) (r0 := none) (B := (moveA (n, g, t, u, q) i p)) vl_X5_96 rfl T.rf (fun S1 => m_moves S1 (by decide) n8 gw tw hp (show p < n by omega)) rfl (by decide) (Nat.le_of_ble_eq_true rfl) (Nat.le_refl _) (Nat.le_refl _) rfl dX5_bestPlace_52 (fun h N => ?_)
        have S := S.trial n8 N
        have T := N.rp
        clear N
        refine ex_aload_n 3 dX5_bestPlace_55 rfl rfl ?_
        refine ex_get (v := .ref (m + 1)) fl_X5_7 S.ob rfl dX5_bestPlace_56 ?_
        refine ex_bipush (v := nI 65) dX5_bestPlace_59 (by decide) ?_
        refine ex_iload 0 dX5_bestPlace_61 rfl ?_
        refine ex_callS0 (As := [.int (nI 65), .int (nI p)]) (v := .int (nI (65 + 17 + 6 * p))) vl_X5_34 (m_at) rfl (by decide) (Nat.le_of_ble_eq_true rfl) (Nat.le_refl _) (Nat.le_refl _) rfl dX5_bestPlace_63 ?_
        refine ex_iconst (v := nI 5) dX5_bestPlace_66 (by decide) ?_
        refine ex_iaddN dX5_bestPlace_67 ?_
        refine exM_ldq (p := 65) (j := p) (b := 5) (v := ((moveA (n, g, t, u, q) i p)).2.2.2.2 p 5) T.rf (by decide) rfl (show p < n by omega) (by omega) (by decide) rfl dX5_bestPlace_68 ?_
        refine ex_istore (lv' := [(6, .int (((moveA (n, g, t, u, q) i p)).2.2.2.2 p 5)), (5, .int (nI p)), (4, .int most), (3, .int (nI best)), (0, .ref m), (1, .int (nI i)), (2, .int x)]) dX5_bestPlace_69 (by decide) rfl ?_
        refine ex_aload_n 4 dX5_bestPlace_71 rfl rfl ?_
        refine ex_bipush (v := nI 65) dX5_bestPlace_72 (by decide) ?_
        refine ex_bipush (v := nI 100) dX5_bestPlace_74 (by decide) ?_
        refine exM_call (As := [.int (nI 65), .int (nI 100)]) (r0 := (some (.int (nI (pcN (moveA (n, g, t, u, q) i p) 100))))) (B := (itA 100 (moveA (n, g, t, u, q) i p))) vl_X5_103 rfl T.rf (fun S1 => m_passes S1 (by decide) (moveA_ok ok hp (show p < n by omega)) (by decide) hK) rfl (by decide) (Nat.le_of_ble_eq_true rfl) (Nat.le_refl _) (Nat.le_refl _) rfl dX5_bestPlace_76 (fun h N => ?_)
        have S := S.trial n8 N
        have T := N.rp
        clear N
        refine ex_istore (lv' := [(7, .int (nI (pcN (moveA (n, g, t, u, q) i p) 100))), (6, .int (((moveA (n, g, t, u, q) i p)).2.2.2.2 p 5)), (5, .int (nI p)), (4, .int most), (3, .int (nI best)), (0, .ref m), (1, .int (nI i)), (2, .int x)]) dX5_bestPlace_79 (by decide) rfl ?_
        refine ex_aload_n 5 dX5_bestPlace_81 rfl rfl ?_
        refine ex_get (v := .ref (m + 1)) fl_X5_7 S.ob rfl dX5_bestPlace_82 ?_
        refine ex_bipush (v := nI 65) dX5_bestPlace_85 (by decide) ?_
        refine ex_iload 2 dX5_bestPlace_87 rfl ?_
        refine ex_callS0 (As := [.int (nI 65), .int (nI p)]) (v := .int (nI (65 + 17 + 6 * p))) vl_X5_34 (m_at) rfl (by decide) (Nat.le_of_ble_eq_true rfl) (Nat.le_refl _) (Nat.le_refl _) rfl dX5_bestPlace_89 ?_
        refine ex_iconst (v := nI 5) dX5_bestPlace_92 (by decide) ?_
        refine ex_iaddN dX5_bestPlace_93 ?_
        refine exM_ldq (p := 65) (j := p) (b := 5) (v := ((itA 100 (moveA (n, g, t, u, q) i p))).2.2.2.2 p 5) T.rf (by decide) rfl (by rw [itA_1]; exact (show p < n by omega)) (by omega) (by decide) rfl dX5_bestPlace_94 ?_
        refine ex_iload 1 dX5_bestPlace_95 rfl ?_
        refine ex_isub dX5_bestPlace_97 ?_
        refine ex_istore (lv' := [(8, .int ((((itA 100 (moveA (n, g, t, u, q) i p))).2.2.2.2 p 5) - (((moveA (n, g, t, u, q) i p)).2.2.2.2 p 5))), (7, .int (nI (pcN (moveA (n, g, t, u, q) i p) 100))), (6, .int (((moveA (n, g, t, u, q) i p)).2.2.2.2 p 5)), (5, .int (nI p)), (4, .int most), (3, .int (nI best)), (0, .ref m), (1, .int (nI i)), (2, .int x)]) dX5_bestPlace_98 (by decide) rfl ?_
        refine ex_iload 0 dX5_bestPlace_100 rfl ?_
        refine ex_iload 4 dX5_bestPlace_102 rfl ?_
        refine ex_icmp_le (tgt := 112) dX5_bestPlace_104 (by decide) (fun c_104 => ?_) (fun c_104 => ?_)
        · refine ex_iload_n 5 dX5_bestPlace_112 rfl rfl ?_
          refine ex_istore_n (lv' := [(3, .int (nI best)), (8, .int ((((itA 100 (moveA (n, g, t, u, q) i p))).2.2.2.2 p 5) - (((moveA (n, g, t, u, q) i p)).2.2.2.2 p 5))), (7, .int (nI (pcN (moveA (n, g, t, u, q) i p) 100))), (6, .int (((moveA (n, g, t, u, q) i p)).2.2.2.2 p 5)), (5, .int (nI p)), (4, .int most), (0, .ref m), (1, .int (nI i)), (2, .int x)]) dX5_bestPlace_113 rfl (by decide) rfl ?_
          refine ex_iload 1 dX5_bestPlace_114 rfl ?_
          refine ex_iload 5 dX5_bestPlace_116 rfl ?_
          refine ex_icmp_le (tgt := 126) dX5_bestPlace_118 (by decide) (fun c_118 => ?_) (fun c_118 => ?_)
          · refine ex_iload 5 dX5_bestPlace_126 rfl ?_
            refine ex_istore (lv' := [(4, .int most), (3, .int (nI best)), (8, .int ((((itA 100 (moveA (n, g, t, u, q) i p))).2.2.2.2 p 5) - (((moveA (n, g, t, u, q) i p)).2.2.2.2 p 5))), (7, .int (nI (pcN (moveA (n, g, t, u, q) i p) 100))), (6, .int (((moveA (n, g, t, u, q) i p)).2.2.2.2 p 5)), (5, .int (nI p)), (0, .ref m), (1, .int (nI i)), (2, .int x)]) dX5_bestPlace_128 (by decide) rfl ?_
            refine ex_iinc (v := nI (p + 1)) (lv' := [(5, .int (nI (p + 1))), (4, .int most), (3, .int (nI best)), (8, .int ((((itA 100 (moveA (n, g, t, u, q) i p))).2.2.2.2 p 5) - (((moveA (n, g, t, u, q) i p)).2.2.2.2 p 5))), (7, .int (nI (pcN (moveA (n, g, t, u, q) i p) 100))), (6, .int (((moveA (n, g, t, u, q) i p)).2.2.2.2 p 5)), (0, .ref m), (1, .int (nI i)), (2, .int x)]) 5 dX5_bestPlace_130 rfl (nI_1 p) (by decide) rfl ?_
            refine ex_goto (tgt := 30) dX5_bestPlace_133 (by decide) ?_
            have e2 := ih (p + 1) best most h (by omega) S (by rw [← hh]; first | exact (if_neg (Int32.not_lt.mpr c_104)).symm | rw [if_neg (Int32.not_lt.mpr c_104)])
            refine ex_lv (lv2 := [(5, .int (nI (p + 1))), (4, .int most), (3, .int (nI best)), (0, .ref m), (1, .int (nI i)), (2, .int x)]) [0, 1, 2, 6, 7, 8] rfl ?_
            exact e2
          · refine ex_iload 1 dX5_bestPlace_121 rfl ?_
            refine ex_goto (tgt := 128) dX5_bestPlace_123 (by decide) ?_
            refine ex_istore (lv' := [(4, .int ((((itA 100 (moveA (n, g, t, u, q) i p))).2.2.2.2 p 5) - (((moveA (n, g, t, u, q) i p)).2.2.2.2 p 5))), (3, .int (nI best)), (8, .int ((((itA 100 (moveA (n, g, t, u, q) i p))).2.2.2.2 p 5) - (((moveA (n, g, t, u, q) i p)).2.2.2.2 p 5))), (7, .int (nI (pcN (moveA (n, g, t, u, q) i p) 100))), (6, .int (((moveA (n, g, t, u, q) i p)).2.2.2.2 p 5)), (5, .int (nI p)), (0, .ref m), (1, .int (nI i)), (2, .int x)]) dX5_bestPlace_128 (by decide) rfl ?_
            refine ex_iinc (v := nI (p + 1)) (lv' := [(5, .int (nI (p + 1))), (4, .int ((((itA 100 (moveA (n, g, t, u, q) i p))).2.2.2.2 p 5) - (((moveA (n, g, t, u, q) i p)).2.2.2.2 p 5))), (3, .int (nI best)), (8, .int ((((itA 100 (moveA (n, g, t, u, q) i p))).2.2.2.2 p 5) - (((moveA (n, g, t, u, q) i p)).2.2.2.2 p 5))), (7, .int (nI (pcN (moveA (n, g, t, u, q) i p) 100))), (6, .int (((moveA (n, g, t, u, q) i p)).2.2.2.2 p 5)), (0, .ref m), (1, .int (nI i)), (2, .int x)]) 5 dX5_bestPlace_130 rfl (nI_1 p) (by decide) rfl ?_
            refine ex_goto (tgt := 30) dX5_bestPlace_133 (by decide) ?_
            exact absurd c_104 c_118
        · refine ex_iload 3 dX5_bestPlace_107 rfl ?_
          refine ex_goto (tgt := 113) dX5_bestPlace_109 (by decide) ?_
          refine ex_istore_n (lv' := [(3, .int (nI p)), (8, .int ((((itA 100 (moveA (n, g, t, u, q) i p))).2.2.2.2 p 5) - (((moveA (n, g, t, u, q) i p)).2.2.2.2 p 5))), (7, .int (nI (pcN (moveA (n, g, t, u, q) i p) 100))), (6, .int (((moveA (n, g, t, u, q) i p)).2.2.2.2 p 5)), (5, .int (nI p)), (4, .int most), (0, .ref m), (1, .int (nI i)), (2, .int x)]) dX5_bestPlace_113 rfl (by decide) rfl ?_
          refine ex_iload 1 dX5_bestPlace_114 rfl ?_
          refine ex_iload 5 dX5_bestPlace_116 rfl ?_
          refine ex_icmp_le (tgt := 126) dX5_bestPlace_118 (by decide) (fun c_118 => ?_) (fun c_118 => ?_)
          · refine ex_iload 5 dX5_bestPlace_126 rfl ?_
            refine ex_istore (lv' := [(4, .int most), (3, .int (nI p)), (8, .int ((((itA 100 (moveA (n, g, t, u, q) i p))).2.2.2.2 p 5) - (((moveA (n, g, t, u, q) i p)).2.2.2.2 p 5))), (7, .int (nI (pcN (moveA (n, g, t, u, q) i p) 100))), (6, .int (((moveA (n, g, t, u, q) i p)).2.2.2.2 p 5)), (5, .int (nI p)), (0, .ref m), (1, .int (nI i)), (2, .int x)]) dX5_bestPlace_128 (by decide) rfl ?_
            refine ex_iinc (v := nI (p + 1)) (lv' := [(5, .int (nI (p + 1))), (4, .int most), (3, .int (nI p)), (8, .int ((((itA 100 (moveA (n, g, t, u, q) i p))).2.2.2.2 p 5) - (((moveA (n, g, t, u, q) i p)).2.2.2.2 p 5))), (7, .int (nI (pcN (moveA (n, g, t, u, q) i p) 100))), (6, .int (((moveA (n, g, t, u, q) i p)).2.2.2.2 p 5)), (0, .ref m), (1, .int (nI i)), (2, .int x)]) 5 dX5_bestPlace_130 rfl (nI_1 p) (by decide) rfl ?_
            refine ex_goto (tgt := 30) dX5_bestPlace_133 (by decide) ?_
            exact absurd c_118 c_104
          · refine ex_iload 1 dX5_bestPlace_121 rfl ?_
            refine ex_goto (tgt := 128) dX5_bestPlace_123 (by decide) ?_
            refine ex_istore (lv' := [(4, .int ((((itA 100 (moveA (n, g, t, u, q) i p))).2.2.2.2 p 5) - (((moveA (n, g, t, u, q) i p)).2.2.2.2 p 5))), (3, .int (nI p)), (8, .int ((((itA 100 (moveA (n, g, t, u, q) i p))).2.2.2.2 p 5) - (((moveA (n, g, t, u, q) i p)).2.2.2.2 p 5))), (7, .int (nI (pcN (moveA (n, g, t, u, q) i p) 100))), (6, .int (((moveA (n, g, t, u, q) i p)).2.2.2.2 p 5)), (5, .int (nI p)), (0, .ref m), (1, .int (nI i)), (2, .int x)]) dX5_bestPlace_128 (by decide) rfl ?_
            refine ex_iinc (v := nI (p + 1)) (lv' := [(5, .int (nI (p + 1))), (4, .int ((((itA 100 (moveA (n, g, t, u, q) i p))).2.2.2.2 p 5) - (((moveA (n, g, t, u, q) i p)).2.2.2.2 p 5))), (3, .int (nI p)), (8, .int ((((itA 100 (moveA (n, g, t, u, q) i p))).2.2.2.2 p 5) - (((moveA (n, g, t, u, q) i p)).2.2.2.2 p 5))), (7, .int (nI (pcN (moveA (n, g, t, u, q) i p) 100))), (6, .int (((moveA (n, g, t, u, q) i p)).2.2.2.2 p 5)), (0, .ref m), (1, .int (nI i)), (2, .int x)]) 5 dX5_bestPlace_130 rfl (nI_1 p) (by decide) rfl ?_
            refine ex_goto (tgt := 30) dX5_bestPlace_133 (by decide) ?_
            have e2 := ih (p + 1) p (dgM (n, g, t, u, q) i p) h (by omega) S (by rw [← hh]; first | exact (if_pos (Int32.not_le.mp c_104)).symm | rw [if_pos (Int32.not_le.mp c_104)])
            unfold dgM at e2
            refine ex_lv (lv2 := [(5, .int (nI (p + 1))), (4, .int ((((itA 100 (moveA (n, g, t, u, q) i p))).2.2.2.2 p 5) - (((moveA (n, g, t, u, q) i p)).2.2.2.2 p 5))), (3, .int (nI p)), (0, .ref m), (1, .int (nI i)), (2, .int x)]) [0, 1, 2, 6, 7, 8] rfl ?_
            exact e2
    · refine ex_callS0 (As := [.int x, .int (nI 0), .int (nI 1)]) (v := .int (nI 0)) vl_X5_26 (Ct.mono (by rw [show inV x (nI 0) (nI 1) = nI 0 from if_neg h1]) m_in) rfl (by decide) (Nat.le_of_ble_eq_true rfl) (Nat.le_refl _) (Nat.le_refl _) rfl dX5_bestPlace_13 ?_
      refine ex_if_ne (tgt := 22) dX5_bestPlace_16 (by decide) (fun c_16 => absurd (by decide) c_16) (fun c_16 => ?_)
      refine ex_bipush (v := (-2)) dX5_bestPlace_19 (by decide) ?_
      exact ex_iret hQ rfl (by have hx : ¬ (x = 0 ∨ x = nI 1) := fun q9 => h1 (q9.elim (fun q9 => by rw [q9]; decide) (fun q9 => by rw [q9]; decide)); unfold X_bestPlace; dsimp only; rw [if_pos (inR_nI hp (by omega)), if_neg hx]; exact ⟨rfl, rfl, S⟩) dX5_bestPlace_21
  · refine ex_aload_n 0 dX5_bestPlace_0 rfl rfl ?_
    refine ex_iload_n 1 dX5_bestPlace_1 rfl rfl ?_
    refine ex_call0 (As := [.int y]) (v := .int (nI 0)) (ci := 5) vl_X5_93 rfl (m_isPersonF S.rp n8 hp) S.ob rfl (by decide) (Nat.le_of_ble_eq_true rfl) (Nat.le_refl _) (Nat.le_refl _) rfl dX5_bestPlace_2 ?_
    refine ex_if_ne (tgt := 10) dX5_bestPlace_5 (by decide) (fun c_5 => absurd (by decide) c_5) (fun c_5 => ?_)
    refine ex_iconst (v := (-1)) dX5_bestPlace_8 (by decide) ?_
    exact ex_iret hQ rfl (by unfold X_bestPlace; dsimp only; rw [if_neg hp]; exact ⟨rfl, rfl, S⟩) dX5_bestPlace_9

