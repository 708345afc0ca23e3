set_option maxRecDepth 20000 in
set_option maxHeartbeats 2000000 in
theorem c_at {G : GG} {l : Launch} {h0 : HP} {z o : Nat} {π : Nat → Nat} {n : Nat} {g : Option Nat} {t : Nat} {u : Nat → Int32} {q : Nat → Nat → Int32} (S0 : SP G h0 o π (n, g, t, u, q)) {j : Nat} (h8 : j < 8) (hn : j < n) (n8 : n ≤ 8) : Ct G l 0 0 0 yX3_at cX3_at 2 (some (.object "PurrProbates$Person")) [.ref o, .int (nI j)] h0 z (p0 (.ref (o + 3 + π j)) h0 z) := by
  refine Ct.intro (lv := [(0, .ref o), (1, .int (nI j))]) (by decide +kernel) (Nat.le_of_ble_eq_true rfl) rfl (fun X Q hQ hnm => ?_)
  have S := S0.sf
  refine ex_iload_n 1 dX3_at_0 rfl rfl ?_
  refine ex_if_lt (tgt := 27) dX3_at_1 (by decide) (fun c_1 => absurd c_1 (nI_pos (by omega))) (fun c_1 => ?_)
  refine ex_iload_n 1 dX3_at_4 rfl rfl ?_
  refine ex_aload_n 0 dX3_at_5 rfl rfl ?_
  refine ex_get (v := .int (nI n)) fl_X3_29 S.ob rfl dX3_at_6 ?_
  refine ex_icmp_ge (tgt := 27) dX3_at_9 (by decide) (fun c_9 => absurd c_9 (fun q9 => absurd ((nI_leI (by omega) (by omega)).mp q9) (by omega))) (fun c_9 => ?_)
  refine ex_iload_n 1 dX3_at_12 rfl rfl ?_
  refine ex_bipush (v := nI 8) dX3_at_13 (by decide) ?_
  refine ex_icmp_ge (tgt := 27) dX3_at_15 (by decide) (fun c_15 => absurd c_15 (fun q9 => absurd ((nI_leI (by omega) (by omega)).mp q9) (by omega))) (fun c_15 => ?_)
  refine ex_aload_n 0 dX3_at_18 rfl rfl ?_
  refine ex_get (v := .ref (o + 2)) fl_X3_25 S.ob rfl dX3_at_19 ?_
  refine ex_iload_n 1 dX3_at_22 rfl rfl ?_
  refine exS_pl (i := j) S rfl h8 dX3_at_23 ?_
  refine ex_goto (tgt := 28) dX3_at_24 (by decide) ?_
  exact ex_aret hQ rfl (Or.inr ⟨_, rfl⟩) ⟨rfl, rfl, rfl⟩ dX3_at_28

set_option maxRecDepth 20000 in
set_option maxHeartbeats 2000000 in
theorem c_atN {G : GG} {l : Launch} {h0 : HP} {z o : Nat} {π : Nat → Nat} {n : Nat} {g : Option Nat} {t : Nat} {u : Nat → Int32} {q : Nat → Nat → Int32} (S0 : SP G h0 o π (n, g, t, u, q)) {x : Int32} (hx : x < 0 ∨ nI n ≤ x) (n8 : n ≤ 8) : Ct G l 0 0 0 yX3_at cX3_at 2 (some (.object "PurrProbates$Person")) [.ref o, .int x] h0 z (p0 .null h0 z) := by
  refine Ct.intro (lv := [(0, .ref o), (1, .int x)]) (by decide +kernel) (Nat.le_of_ble_eq_true rfl) rfl (fun X Q hQ hnm => ?_)
  have S := S0.sf
  refine ex_iload_n 1 dX3_at_0 rfl rfl ?_
  refine ex_if_lt (tgt := 27) dX3_at_1 (by decide) (fun c_1 => ?_) (fun c_1 => ?_)
  · refine ex_null dX3_at_27 ?_
    exact ex_aret hQ rfl (Or.inl rfl) ⟨rfl, rfl, rfl⟩ dX3_at_28
  · refine ex_iload_n 1 dX3_at_4 rfl rfl ?_
    refine ex_aload_n 0 dX3_at_5 rfl rfl ?_
    refine ex_get (v := .int (nI n)) fl_X3_29 S.ob rfl dX3_at_6 ?_
    refine ex_icmp_ge (tgt := 27) dX3_at_9 (by decide) (fun c_9 => ?_) (fun c_9 => absurd (hx.resolve_left c_1) c_9)
    refine ex_null dX3_at_27 ?_
    exact ex_aret hQ rfl (Or.inl rfl) ⟨rfl, rfl, rfl⟩ dX3_at_28

set_option maxRecDepth 20000 in
set_option maxHeartbeats 2000000 in
theorem c_behind {G : GG} {l : Launch} {h0 : HP} {z o : Nat} {π : Nat → Nat} {n : Nat} {g : Option Nat} {t : Nat} {u : Nat → Int32} {q : Nat → Nat → Int32} (S0 : SP G h0 o π (n, g, t, u, q)) {j : Nat} (hj : j < 9) (n8 : n ≤ 8) : Ct G l 0 0 0 yX3_behind cX3_behind 2 (some .int) [.ref o, .int (nI j)] h0 z (p0 (.int (nI (bh n j))) h0 z) := by
  refine Ct.intro (lv := [(0, .ref o), (1, .int (nI j))]) (by decide +kernel) (Nat.le_of_ble_eq_true rfl) rfl (fun X Q hQ hnm => ?_)
  have S := S0.sf
  refine ex_iload_n 1 dX3_behind_0 rfl rfl ?_
  refine ex_iconst (v := nI 1) dX3_behind_1 (by decide) ?_
  refine ex_iaddN dX3_behind_2 ?_
  refine ex_aload_n 0 dX3_behind_3 rfl rfl ?_
  refine ex_get (v := .int (nI n)) fl_X3_29 S.ob rfl dX3_behind_4 ?_
  refine ex_icmp_ge (tgt := 16) dX3_behind_7 (by decide) (fun c_7 => ?_) (fun c_7 => ?_)
  · have n_7 : n ≤ (j + 1) := (nI_leI (by omega) (by omega)).mp c_7
    refine ex_iconst (v := nI 0) dX3_behind_16 (by decide) ?_
    exact ex_iret hQ rfl ⟨by first | simp [bh, show j + 1 < n by omega] | simp [bh, show ¬ j + 1 < n by omega], rfl, rfl⟩ dX3_behind_17
  · have n_7 : ¬ (n ≤ (j + 1)) := fun q9 => c_7 ((nI_leI (by omega) (by omega)).mpr q9)
    refine ex_iload_n 1 dX3_behind_10 rfl rfl ?_
    refine ex_iconst (v := nI 1) dX3_behind_11 (by decide) ?_
    refine ex_iaddN dX3_behind_12 ?_
    refine ex_goto (tgt := 17) dX3_behind_13 (by decide) ?_
    exact ex_iret hQ rfl ⟨by first | simp [bh, show j + 1 < n by omega] | simp [bh, show ¬ j + 1 < n by omega], rfl, rfl⟩ dX3_behind_17

set_option maxRecDepth 20000 in
set_option maxHeartbeats 2000000 in
theorem c_isBarred {G : GG} {l : Launch} {h0 : HP} {z o : Nat} {π : Nat → Nat} {n : Nat} {g : Option Nat} {t : Nat} {u : Nat → Int32} {q : Nat → Nat → Int32} (S0 : SP G h0 o π (n, g, t, u, q)) {j : Nat} (h8 : j < 8) (hn : j < n) : Ct G l 0 0 0 yX3_isBarred cX3_isBarred 2 (some .boolean) [.ref o, .ref (o + 3 + π j)] h0 z (p0 (.int (bB u q j)) h0 z) := by
  refine Ct.intro (lv := [(0, .ref o), (1, .ref (o + 3 + π j))]) (by decide +kernel) (Nat.le_of_ble_eq_true rfl) rfl (fun X Q hQ hnm => ?_)
  have S := S0.sf
  refine ex_aload_n 1 dX3_isBarred_0 rfl rfl ?_
  refine ex_get (v := .int (q j 2)) fl_X3_78 (S.pe h8 hn) rfl dX3_isBarred_1 ?_
  refine ex_aload_n 0 dX3_isBarred_4 rfl rfl ?_
  refine ex_get (v := .ref (o + 1)) fl_X3_18 S.ob rfl dX3_isBarred_5 ?_
  refine ex_iconst (v := nI 4) dX3_isBarred_8 (by decide) ?_
  refine exS_ld (i := 4) (v := u 4) S rfl (by decide) rfl dX3_isBarred_9 ?_
  refine ex_icmp_lt (tgt := 17) dX3_isBarred_10 (by decide) (fun c_10 => ?_) (fun c_10 => ?_)
  · refine ex_iconst (v := nI 0) dX3_isBarred_17 (by decide) ?_
    exact ex_zret hQ rfl (by decide) ⟨by simp [bB, c_10], rfl, rfl⟩ dX3_isBarred_18
  · refine ex_iconst (v := nI 1) dX3_isBarred_13 (by decide) ?_
    refine ex_goto (tgt := 18) dX3_isBarred_14 (by decide) ?_
    exact ex_zret hQ rfl (by decide) ⟨by simp [bB, c_10], rfl, rfl⟩ dX3_isBarred_18

set_option maxRecDepth 20000 in
set_option maxHeartbeats 2000000 in
theorem c_score {G : GG} {l : Launch} {h0 : HP} {z o : Nat} {π : Nat → Nat} {n : Nat} {g : Option Nat} {t : Nat} {u : Nat → Int32} {q : Nat → Nat → Int32} (S0 : SP G h0 o π (n, g, t, u, q)) {j : Nat} (h8 : j < 8) (hn : j < n) : Ct G l 0 0 0 yX3_score cX3_score 2 (some .int) [.ref o, .ref (o + 3 + π j)] h0 z (p0 (.int (scI u q j)) h0 z) := by
  refine Ct.intro (lv := [(0, .ref o), (1, .ref (o + 3 + π j))]) (by decide +kernel) (Nat.le_of_ble_eq_true rfl) rfl (fun X Q hQ hnm => ?_)
  have S := S0.sf
  refine ex_aload_n 0 dX3_score_0 rfl rfl ?_
  refine ex_get (v := .int (u 8)) fl_X3_33 S.ob rfl dX3_score_1 ?_
  refine ex_iconst (v := nI 5) dX3_score_4 (by decide) ?_
  refine ex_aload_n 1 dX3_score_5 rfl rfl ?_
  refine ex_get (v := .int (q j 0)) fl_X3_79 (S.pe h8 hn) rfl dX3_score_6 ?_
  refine ex_imul dX3_score_9 ?_
  refine ex_iadd dX3_score_10 ?_
  refine ex_bipush (v := nI 10) dX3_score_11 (by decide) ?_
  refine ex_aload_n 1 dX3_score_13 rfl rfl ?_
  refine ex_get (v := .int (q j 2)) fl_X3_78 (S.pe h8 hn) rfl dX3_score_14 ?_
  refine ex_imul dX3_score_17 ?_
  refine ex_isub dX3_score_18 ?_
  exact ex_iret hQ rfl ⟨rfl, rfl, rfl⟩ dX3_score_19

set_option maxRecDepth 20000 in
set_option maxHeartbeats 2000000 in
theorem c_barredPeople {G : GG} {l : Launch} {h0 : HP} {z o : Nat} {π : Nat → Nat} {n : Nat} {g : Option Nat} {t : Nat} {u : Nat → Int32} {q : Nat → Nat → Int32} (S0 : SP G h0 o π (n, g, t, u, q)) (n8 : n ≤ 8) : Ct G l 1 0 0 yX3_barredPeople cX3_barredPeople 4 (some .int) [.ref o] h0 z (p0 (.int (sumB u q n)) h0 z) := by
  refine Ct.intro (lv := [(0, .ref o)]) (by decide +kernel) (Nat.le_of_ble_eq_true rfl) rfl (fun X Q hQ hnm => ?_)
  have S := S0.sf
  refine ex_iconst (v := nI 0) dX3_barredPeople_0 (by decide) ?_
  refine ex_istore_n (lv' := [(1, .int (nI 0)), (0, .ref o)]) dX3_barredPeople_1 rfl (by decide) rfl ?_
  refine ex_iconst (v := nI 0) dX3_barredPeople_2 (by decide) ?_
  refine ex_istore_n (lv' := [(2, .int (nI 0)), (1, .int (nI 0)), (0, .ref o)]) dX3_barredPeople_3 rfl (by decide) rfl ?_
  suffices H : ∀ (k m : Nat), m + k = n → ex G l X Q 1 0 0 0 0 cX3_barredPeople yX3_barredPeople.cls 4 (some .int) h0 z 4 [(2, .int (nI m)), (1, .int (sumB u q m)), (0, .ref o)] [] from by
    have e2 := H n 0 (by omega)
    refine ex_lv (lv2 := [(2, .int (nI 0)), (1, .int (nI 0)), (0, .ref o)]) [0, 1, 2] rfl ?_
    exact e2
  intro k
  induction k with
  | zero =>
    intro m hm
    refine ex_iload_n 0 dX3_barredPeople_4 rfl rfl ?_
    refine ex_aload_n 2 dX3_barredPeople_5 rfl rfl ?_
    refine ex_get (v := .int (nI n)) fl_X3_29 S.ob rfl dX3_barredPeople_6 ?_
    refine ex_icmp_ge (tgt := 39) dX3_barredPeople_9 (by decide) (fun c_9 => ?_) (fun c_9 => absurd ((nI_leI (by omega) (by omega)).mpr (by omega)) c_9)
    refine ex_iload_n 1 dX3_barredPeople_39 rfl rfl ?_
    exact ex_iret hQ rfl ⟨by rw [show m = n by omega], rfl, rfl⟩ dX3_barredPeople_40
  | succ k ih =>
    intro m hm
    refine ex_iload_n 0 dX3_barredPeople_4 rfl rfl ?_
    refine ex_aload_n 2 dX3_barredPeople_5 rfl rfl ?_
    refine ex_get (v := .int (nI n)) fl_X3_29 S.ob rfl dX3_barredPeople_6 ?_
    refine ex_icmp_ge (tgt := 39) dX3_barredPeople_9 (by decide) (fun c_9 => absurd c_9 (fun q9 => absurd ((nI_leI (by omega) (by omega)).mp q9) (by omega))) (fun c_9 => ?_)
    refine ex_aload_n 2 dX3_barredPeople_12 rfl rfl ?_
    refine ex_iload_n 0 dX3_barredPeople_13 rfl rfl ?_
    refine ex_call0 (As := [.int (nI m)]) (v := .ref (o + 3 + π m)) (ci := 3) vl_X3_70 rfl (c_at S.1 (by omega) (by omega) n8) S.ob rfl (by decide) (Nat.le_of_ble_eq_true rfl) (Nat.le_refl _) (Nat.le_refl _) rfl dX3_barredPeople_14 ?_
    refine ex_astore_n (lv' := [(3, .ref (o + 3 + π m)), (2, .int (nI m)), (1, .int (sumB u q m)), (0, .ref o)]) dX3_barredPeople_17 rfl (by decide) rfl ?_
    refine ex_aload_n 0 dX3_barredPeople_18 rfl rfl ?_
    refine ex_ifnull dX3_barredPeople_19 ?_
    refine ex_aload_n 3 dX3_barredPeople_22 rfl rfl ?_
    refine ex_aload_n 0 dX3_barredPeople_23 rfl rfl ?_
    refine ex_call0 (As := [.ref (o + 3 + π m)]) (v := .int (bB u q m)) (ci := 3) vl_X3_82 rfl (c_isBarred S.1 (by omega) (by omega)) S.ob rfl (by decide) (Nat.le_of_ble_eq_true rfl) (Nat.le_refl _) (Nat.le_refl _) rfl dX3_barredPeople_24 ?_
    refine ex_if_eq (tgt := 33) dX3_barredPeople_27 (by decide) (fun c_27 => ?_) (fun c_27 => ?_)
    · refine ex_iinc (v := nI (m + 1)) (lv' := [(2, .int (nI (m + 1))), (3, .ref (o + 3 + π m)), (1, .int (sumB u q m)), (0, .ref o)]) 1 dX3_barredPeople_33 rfl (nI_1 m) (by decide) rfl ?_
      refine ex_goto (tgt := 4) dX3_barredPeople_36 (by decide) ?_
      have e1 : sumB u q (m + 1) = sumB u q m := by first | simp [sumB, bB_0 c_27] | simp [sumB, bB_1 c_27]
      have e2 := ih (m + 1) (by omega)
      rw [e1] at e2
      refine ex_lv (lv2 := [(2, .int (nI (m + 1))), (1, .int (sumB u q m)), (0, .ref o)]) [0, 2, 3] rfl ?_
      exact e2
    · refine ex_iinc (v := (sumB u q m) + 1) (lv' := [(1, .int ((sumB u q m) + 1)), (3, .ref (o + 3 + π m)), (2, .int (nI m)), (0, .ref o)]) 2 dX3_barredPeople_30 rfl rfl (by decide) rfl ?_
      refine ex_iinc (v := nI (m + 1)) (lv' := [(2, .int (nI (m + 1))), (1, .int ((sumB u q m) + 1)), (3, .ref (o + 3 + π m)), (0, .ref o)]) 2 dX3_barredPeople_33 rfl (nI_1 m) (by decide) rfl ?_
      refine ex_goto (tgt := 4) dX3_barredPeople_36 (by decide) ?_
      have e1 : sumB u q (m + 1) = (sumB u q m) + 1 := by first | simp [sumB, bB_0 c_27] | simp [sumB, bB_1 c_27]
      have e2 := ih (m + 1) (by omega)
      rw [e1] at e2
      refine ex_lv (lv2 := [(2, .int (nI (m + 1))), (1, .int ((sumB u q m) + 1)), (0, .ref o)]) [0, 1, 3] rfl ?_
      exact e2

set_option maxRecDepth 20000 in
set_option maxHeartbeats 2000000 in
theorem c_allPurses {G : GG} {l : Launch} {h0 : HP} {z o : Nat} {π : Nat → Nat} {n : Nat} {g : Option Nat} {t : Nat} {u : Nat → Int32} {q : Nat → Nat → Int32} (S0 : SP G h0 o π (n, g, t, u, q)) (n8 : n ≤ 8) : Ct G l 1 0 0 yX3_allPurses cX3_allPurses 4 (some .int) [.ref o] h0 z (p0 (.int (sumP q n)) h0 z) := by
  refine Ct.intro (lv := [(0, .ref o)]) (by decide +kernel) (Nat.le_of_ble_eq_true rfl) rfl (fun X Q hQ hnm => ?_)
  have S := S0.sf
  refine ex_iconst (v := nI 0) dX3_allPurses_0 (by decide) ?_
  refine ex_istore_n (lv' := [(1, .int (nI 0)), (0, .ref o)]) dX3_allPurses_1 rfl (by decide) rfl ?_
  refine ex_iconst (v := nI 0) dX3_allPurses_2 (by decide) ?_
  refine ex_istore_n (lv' := [(2, .int (nI 0)), (1, .int (nI 0)), (0, .ref o)]) dX3_allPurses_3 rfl (by decide) rfl ?_
  suffices H : ∀ (k m : Nat), m + k = n → ex G l X Q 1 0 0 0 0 cX3_allPurses yX3_allPurses.cls 4 (some .int) h0 z 4 [(2, .int (nI m)), (1, .int (sumP q m)), (0, .ref o)] [] from by
    have e2 := H n 0 (by omega)
    refine ex_lv (lv2 := [(2, .int (nI 0)), (1, .int (nI 0)), (0, .ref o)]) [0, 1, 2] rfl ?_
    exact e2
  intro k
  induction k with
  | zero =>
    intro m hm
    refine ex_iload_n 0 dX3_allPurses_4 rfl rfl ?_
    refine ex_aload_n 2 dX3_allPurses_5 rfl rfl ?_
    refine ex_get (v := .int (nI n)) fl_X3_29 S.ob rfl dX3_allPurses_6 ?_
    refine ex_icmp_ge (tgt := 35) dX3_allPurses_9 (by decide) (fun c_9 => ?_) (fun c_9 => absurd ((nI_leI (by omega) (by omega)).mpr (by omega)) c_9)
    refine ex_iload_n 1 dX3_allPurses_35 rfl rfl ?_
    exact ex_iret hQ rfl ⟨by rw [show m = n by omega], rfl, rfl⟩ dX3_allPurses_36
  | succ k ih =>
    intro m hm
    refine ex_iload_n 0 dX3_allPurses_4 rfl rfl ?_
    refine ex_aload_n 2 dX3_allPurses_5 rfl rfl ?_
    refine ex_get (v := .int (nI n)) fl_X3_29 S.ob rfl dX3_allPurses_6 ?_
    refine ex_icmp_ge (tgt := 35) dX3_allPurses_9 (by decide) (fun c_9 => absurd c_9 (fun q9 => absurd ((nI_leI (by omega) (by omega)).mp q9) (by omega))) (fun c_9 => ?_)
    refine ex_aload_n 2 dX3_allPurses_12 rfl rfl ?_
    refine ex_iload_n 0 dX3_allPurses_13 rfl rfl ?_
    refine ex_call0 (As := [.int (nI m)]) (v := .ref (o + 3 + π m)) (ci := 3) vl_X3_70 rfl (c_at S.1 (by omega) (by omega) n8) S.ob rfl (by decide) (Nat.le_of_ble_eq_true rfl) (Nat.le_refl _) (Nat.le_refl _) rfl dX3_allPurses_14 ?_
    refine ex_astore_n (lv' := [(3, .ref (o + 3 + π m)), (2, .int (nI m)), (1, .int (sumP q m)), (0, .ref o)]) dX3_allPurses_17 rfl (by decide) rfl ?_
    refine ex_aload_n 0 dX3_allPurses_18 rfl rfl ?_
    refine ex_ifnull dX3_allPurses_19 ?_
    refine ex_iload_n 2 dX3_allPurses_22 rfl rfl ?_
    refine ex_aload_n 0 dX3_allPurses_23 rfl rfl ?_
    refine ex_get (v := .int (q m 3)) fl_X3_86 (S.pe (by omega) (by omega)) rfl dX3_allPurses_24 ?_
    refine ex_iadd dX3_allPurses_27 ?_
    refine ex_istore_n (lv' := [(1, .int ((sumP q m) + (q m 3))), (3, .ref (o + 3 + π m)), (2, .int (nI m)), (0, .ref o)]) dX3_allPurses_28 rfl (by decide) rfl ?_
    refine ex_iinc (v := nI (m + 1)) (lv' := [(2, .int (nI (m + 1))), (1, .int ((sumP q m) + (q m 3))), (3, .ref (o + 3 + π m)), (0, .ref o)]) 2 dX3_allPurses_29 rfl (nI_1 m) (by decide) rfl ?_
    refine ex_goto (tgt := 4) dX3_allPurses_32 (by decide) ?_
    have e1 : sumP q (m + 1) = (sumP q m) + (q m 3) := by rfl
    have e2 := ih (m + 1) (by omega)
    rw [e1] at e2
    refine ex_lv (lv2 := [(2, .int (nI (m + 1))), (1, .int ((sumP q m) + (q m 3))), (0, .ref o)]) [0, 1, 3] rfl ?_
    exact e2
