set_option maxRecDepth 20000 in
set_option maxHeartbeats 2000000 in
theorem c_cmp {G : GG} {l : Launch} {h0 : HP} {z : Nat} {a b : Int32} : Ct G l 0 0 0 yJ6_compare_7cf53 cJ6_compare_7cf53 2 (some .int) [.int a, .int b] h0 z (p0 (.int (cpI a b)) h0 z) := by
  refine Ct.intro (lv := [(0, .int a), (1, .int b)]) (by decide +kernel) (Nat.le_of_ble_eq_true rfl) rfl (fun X Q hQ hnm => ?_)
  refine ex_iload_n 0 dJ6_compare_7cf53_0 rfl rfl ?_
  refine ex_iload_n 1 dJ6_compare_7cf53_1 rfl rfl ?_
  refine ex_icmp_ge (tgt := 9) dJ6_compare_7cf53_2 (by decide) (fun c_2 => ?_) (fun c_2 => ?_)
  · refine ex_iload_n 0 dJ6_compare_7cf53_9 rfl rfl ?_
    refine ex_iload_n 1 dJ6_compare_7cf53_10 rfl rfl ?_
    refine ex_icmp_ne (tgt := 18) dJ6_compare_7cf53_11 (by decide) (fun c_11 => ?_) (fun c_11 => ?_)
    · refine ex_iconst (v := nI 1) dJ6_compare_7cf53_18 (by decide) ?_
      exact ex_iret hQ rfl ⟨by simp [cpI, c_11, Int32.not_lt.mpr c_2], rfl, rfl⟩ dJ6_compare_7cf53_19
    · refine ex_iconst (v := nI 0) dJ6_compare_7cf53_14 (by decide) ?_
      refine ex_goto (tgt := 19) dJ6_compare_7cf53_15 (by decide) ?_
      exact ex_iret hQ rfl ⟨by simp [cpI, c_11, Int32.lt_irrefl], rfl, rfl⟩ dJ6_compare_7cf53_19
  · refine ex_iconst (v := (-1)) dJ6_compare_7cf53_5 (by decide) ?_
    refine ex_goto (tgt := 19) dJ6_compare_7cf53_6 (by decide) ?_
    exact ex_iret hQ rfl ⟨by simp [cpI, Int32.not_le.mp c_2], rfl, rfl⟩ dJ6_compare_7cf53_19

set_option maxRecDepth 20000 in
set_option maxHeartbeats 2000000 in
theorem c_liveDayT {G : GG} {l : Launch} {h0 : HP} {z o : Nat} {π : Nat → Nat} {n : Nat} {g : Option Nat} {t : Nat} {u : Nat → Int32} {q : Nat → Nat → Int32} (S0 : SP G h0 o π (n, g, t, u, q)) (w0 : wfA (n, g, t, u, q)) (hm0 : 0 < u 3) : Ct G l 3 0 0 yX3_liveDay cX3_liveDay 4 (some .int) [.ref o] h0 z (pS G (some (.int (gv (dayR (n, g, t, u, q))))) h0 z o π (dayA (n, g, t, u, q))) := by
  refine Ct.intro (lv := [(0, .ref o)]) (by decide +kernel) (Nat.le_of_ble_eq_true rfl) rfl (fun X Q hQ hnm => ?_)
  have S := S0.sf
  have n8 : n ≤ 8 := w0.1
  have gw : ∀ i, g = some i → i < n := w0.2.1
  have tw : t < n ∨ t = 0 := w0.2.2
  refine ex_aload_n 0 dX3_liveDay_0 rfl rfl ?_
  refine ex_dup dX3_liveDay_1 rfl ?_
  refine ex_get (v := .int (u 6)) fl_X3_45 S.ob rfl dX3_liveDay_2 ?_
  refine ex_iconst (v := nI 1) dX3_liveDay_5 (by decide) ?_
  refine ex_iadd dX3_liveDay_6 ?_
  refine exS_putU (i := 6) S fl_X3_45 (by decide) (by decide) rfl dX3_liveDay_7 (fun h S => ?_)
  have wf1 : wfA (hA (nA (n, g, t, u, q))).1 := hA_wf (nA_wf w0)
  have hm1 : (hA (nA (n, g, t, u, q))).1.2.2.2.1 3 = u 3 := hA_u (A := nA (n, g, t, u, q)) (by decide)
  suffices J : ∀ (h : HP) (B : AS), (hA (nA (n, g, t, u, q))).1 = B → SF G h0 h o π B → ex G l X Q 3 0 0 0 0 cX3_liveDay yX3_liveDay.cls 4 (some .int) h z 28 [(0, .ref o)] [.int (gv (dayR (n, g, t, u, q)))] from by
    rcases g with _ | i
    · refine ex_aload_n 0 dX3_liveDay_10 rfl rfl ?_
      refine ex_get (v := .int (-6)) fl_X3_36 S.ob rfl dX3_liveDay_11 ?_
      refine ex_bipush (v := (-6)) dX3_liveDay_14 (by decide) ?_
      refine ex_icmp_ne (tgt := 26) dX3_liveDay_16 (by decide) (fun c_16 => absurd (rfl) c_16) (fun c_16 => ?_)
      refine ex_aload_n 0 dX3_liveDay_19 rfl rfl ?_
      refine exS_call (As := []) (r0 := (some (.int (gv (holdA n t (upd u 6 ((u 6) + (nI 1))) q).2)))) (B := (holdA n t (upd u 6 ((u 6) + (nI 1))) q).1) vl_X3_115 rfl S (fun S1 => c_holdOut S1 tw n8) rfl (by decide) (Nat.le_of_ble_eq_true rfl) (Nat.le_refl _) (Nat.le_refl _) rfl dX3_liveDay_20 (fun h S => ?_)
      refine ex_goto (tgt := 28) dX3_liveDay_23 (by decide) ?_
      exact J _ _ rfl S
    · have gi := gw i rfl
      refine ex_aload_n 0 dX3_liveDay_10 rfl rfl ?_
      refine ex_get (v := .int (nI i)) fl_X3_36 S.ob rfl dX3_liveDay_11 ?_
      refine ex_bipush (v := (-6)) dX3_liveDay_14 (by decide) ?_
      refine ex_icmp_ne (tgt := 26) dX3_liveDay_16 (by decide) (fun c_16 => ?_) (fun c_16 => absurd c_16 (nI_n6 (by omega)))
      refine ex_bipush (v := (-6)) dX3_liveDay_26 (by decide) ?_
      exact J _ _ rfl S
  intro h B hB S
  obtain ⟨n1, g1, t1, u1, q1⟩ := B
  rw [hB] at wf1 hm1
  have n8 : n1 ≤ 8 := wf1.1
  have gw1 : ∀ i, g1 = some i → i < n1 := wf1.2.1
  have hmo : ¬ u1 3 ≤ 0 := by rw [show u1 3 = u 3 from hm1]; exact Int32.not_le.mpr hm0
  refine ex_istore_n (lv' := [(1, .int (gv (dayR (n, g, t, u, q)))), (0, .ref o)]) dX3_liveDay_28 rfl (by decide) rfl ?_
  refine ex_aload_n 1 dX3_liveDay_29 rfl rfl ?_
  refine ex_get (v := .ref (o + 1)) fl_X3_18 S.ob rfl dX3_liveDay_30 ?_
  refine ex_iconst (v := nI 3) dX3_liveDay_33 (by decide) ?_
  refine exS_ld (i := 3) (v := u1 3) S rfl (by decide) rfl dX3_liveDay_34 ?_
  refine ex_istore_n (lv' := [(2, .int (u1 3)), (1, .int (gv (dayR (n, g, t, u, q)))), (0, .ref o)]) dX3_liveDay_35 rfl (by decide) rfl ?_
  refine ex_iload_n 0 dX3_liveDay_36 rfl rfl ?_
  refine ex_if_le (tgt := 53) dX3_liveDay_37 (by decide) (fun c_37 => absurd c_37 (hmo)) (fun c_37 => ?_)
  refine ex_aload_n 2 dX3_liveDay_40 rfl rfl ?_
  refine ex_get (v := .int (u1 6)) fl_X3_45 S.ob rfl dX3_liveDay_41 ?_
  refine ex_iload_n 0 dX3_liveDay_44 rfl rfl ?_
  refine ex_irem dX3_liveDay_45 (fun q9 => hmo (by rw [q9]; exact Int32.le_refl 0)) ?_
  have wf2 : wfA (mA (n1, g1, t1, u1, q1)) := mA_wf wf1
  suffices J2 : ∀ (h : HP) (B : AS), mA (n1, g1, t1, u1, q1) = B → SF G h0 h o π B → ex G l X Q 3 0 0 0 0 cX3_liveDay yX3_liveDay.cls 4 (some .int) h z 53 [(2, .int (u1 3)), (1, .int (gv (dayR (n, g, t, u, q)))), (0, .ref o)] [] from by
    refine ex_if_ne (tgt := 53) dX3_liveDay_46 (by decide) (fun c_46 => ?_) (fun c_46 => ?_)
    · exact J2 _ _ (by unfold mA; rw [if_neg c_46]) S
    · refine ex_aload_n 2 dX3_liveDay_49 rfl rfl ?_
      refine exS_call (As := []) (r0 := none) (B := monthA (n1, g1, t1, u1, q1)) vl_X3_118 rfl S (fun S1 => c_endMonth S1 gw1 n8) rfl (by decide) (Nat.le_of_ble_eq_true rfl) (Nat.le_refl _) (Nat.le_refl _) rfl dX3_liveDay_50 (fun h S => ?_)
      exact J2 _ _ (by unfold mA; rw [if_pos c_46]) S
  intro h B hB2 S
  obtain ⟨n2, g2, t2, u2, q2⟩ := B
  rw [hB2] at wf2
  have n8 : n2 ≤ 8 := wf2.1
  have gw2 : ∀ i, g2 = some i → i < n2 := wf2.2.1
  refine ex_aload_n 2 dX3_liveDay_53 rfl rfl ?_
  refine ex_dup dX3_liveDay_54 rfl ?_
  refine ex_get (v := .int (u2 8)) fl_X3_33 S.ob rfl dX3_liveDay_55 ?_
  refine ex_bipush (v := nI 50) dX3_liveDay_58 (by decide) ?_
  refine ex_aload_n 2 dX3_liveDay_60 rfl rfl ?_
  refine ex_get (v := .int (u2 8)) fl_X3_33 S.ob rfl dX3_liveDay_61 ?_
  refine ex_callS0 (As := [.int (nI 50), .int (u2 8)]) (v := .int (cpI (nI 50) (u2 8))) vl_X3_121 (c_cmp) rfl (by decide) (Nat.le_of_ble_eq_true rfl) (Nat.le_refl _) (Nat.le_refl _) rfl dX3_liveDay_64 ?_
  refine ex_iadd dX3_liveDay_67 ?_
  refine exS_putU (i := 8) S fl_X3_33 (by decide) (by decide) rfl dX3_liveDay_68 (fun h S => ?_)
  rcases g2 with _ | i
  · refine ex_aload_n 2 dX3_liveDay_71 rfl rfl ?_
    refine ex_aload_n 2 dX3_liveDay_72 rfl rfl ?_
    refine ex_get (v := .int (-6)) fl_X3_36 S.ob rfl dX3_liveDay_73 ?_
    refine ex_call0 (As := [.int (-6)]) (v := .null) (ci := 3) vl_X3_70 rfl (c_atN S.1 (Or.inl (by decide)) n8) S.ob rfl (by decide) (Nat.le_of_ble_eq_true rfl) (Nat.le_refl _) (Nat.le_refl _) rfl dX3_liveDay_76 ?_
    refine ex_astore_nN (lv' := [(3, .null), (2, .int (u1 3)), (1, .int (gv (dayR (n, g, t, u, q)))), (0, .ref o)]) dX3_liveDay_79 rfl (by decide) rfl ?_
    refine ex_aload_nN 0 dX3_liveDay_80 rfl rfl ?_
    refine ex_ifnullN (tgt := 94) dX3_liveDay_81 (by decide) ?_
    refine ex_iload_n 2 dX3_liveDay_94 rfl rfl ?_
    exact ex_iret hQ rfl ⟨rfl, rfl, by rw [show dayA (n, g, t, u, q) = _ from by unfold dayA; rw [hB, hB2]]; exact S⟩ dX3_liveDay_95
  · have gi := gw2 i rfl
    refine ex_aload_n 2 dX3_liveDay_71 rfl rfl ?_
    refine ex_aload_n 2 dX3_liveDay_72 rfl rfl ?_
    refine ex_get (v := .int (nI i)) fl_X3_36 S.ob rfl dX3_liveDay_73 ?_
    refine ex_call0 (As := [.int (nI i)]) (v := .ref (o + 3 + π i)) (ci := 3) vl_X3_70 rfl (c_at S.1 (by omega) gi n8) S.ob rfl (by decide) (Nat.le_of_ble_eq_true rfl) (Nat.le_refl _) (Nat.le_refl _) rfl dX3_liveDay_76 ?_
    refine ex_astore_n (lv' := [(3, .ref (o + 3 + π i)), (2, .int (u1 3)), (1, .int (gv (dayR (n, g, t, u, q)))), (0, .ref o)]) dX3_liveDay_79 rfl (by decide) rfl ?_
    refine ex_aload_n 0 dX3_liveDay_80 rfl rfl ?_
    refine ex_ifnull dX3_liveDay_81 ?_
    refine ex_aload_n 0 dX3_liveDay_84 rfl rfl ?_
    refine ex_dup dX3_liveDay_85 rfl ?_
    refine ex_get (v := .int (q2 i 5)) fl_X3_127 (S.pe (by omega) gi) rfl dX3_liveDay_86 ?_
    refine ex_iconst (v := nI 1) dX3_liveDay_89 (by decide) ?_
    refine ex_iadd dX3_liveDay_90 ?_
    refine exP_put S (by omega) gi fl_X3_127 (by decide) rfl dX3_liveDay_91 (fun h S => ?_)
    refine ex_iload_n 2 dX3_liveDay_94 rfl rfl ?_
    exact ex_iret hQ rfl ⟨rfl, rfl, by rw [show dayA (n, g, t, u, q) = _ from by unfold dayA; rw [hB, hB2]]; exact S⟩ dX3_liveDay_95

theorem c_liveDay {G : GG} {l : Launch} {h0 : HP} {z o : Nat} {π : Nat → Nat} {A : AS} (S0 : SP G h0 o π A) (w0 : wfA A) (hm0 : 0 < A.2.2.2.1 3) : Ct G l 3 0 0 yX3_liveDay cX3_liveDay 4 (some .int) [.ref o] h0 z (pS G (some (.int (gv (dayR A)))) h0 z o π (dayA A)) := by
  obtain ⟨n, g, t, u, q⟩ := A
  exact c_liveDayT S0 w0 hm0

set_option maxRecDepth 20000 in
set_option maxHeartbeats 2000000 in
theorem c_liveDays {G : GG} {l : Launch} {h0 : HP} {z o : Nat} {π : Nat → Nat} {A : AS} (S0 : SP G h0 o π A) (w0 : wfA A) (hm0 : 0 < A.2.2.2.1 3) {D : Nat} (hD : D < 1000) : Ct G l 4 0 0 yX3_liveDays cX3_liveDays 3 none [.ref o, .int (nI D)] h0 z (pS G none h0 z o π (itA D A)) := by
  refine Ct.intro (lv := [(0, .ref o), (1, .int (nI D))]) (by decide +kernel) (Nat.le_of_ble_eq_true rfl) rfl (fun X Q hQ hnm => ?_)
  have S := S0.sf
  refine ex_iconst (v := nI 0) dX3_liveDays_0 (by decide) ?_
  refine ex_istore_n (lv' := [(2, .int (nI 0)), (0, .ref o), (1, .int (nI D))]) dX3_liveDays_1 rfl (by decide) rfl ?_
  suffices H : ∀ (r m : Nat) (h : HP), m + r = D → SF G h0 h o π (itA m A) → ex G l X Q 4 0 0 0 0 cX3_liveDays yX3_liveDays.cls 3 none h z 2 [(2, .int (nI m)), (0, .ref o), (1, .int (nI D))] [] from by
    have e2 := H D 0 h0 (by omega) S
    refine ex_lv (lv2 := [(2, .int (nI 0)), (0, .ref o), (1, .int (nI D))]) [0, 1, 2] rfl ?_
    exact e2
  intro r
  induction r with
  | zero =>
    intro m h hm S
    refine ex_iload_n 0 dX3_liveDays_2 rfl rfl ?_
    refine ex_iload_n 2 dX3_liveDays_3 rfl rfl ?_
    refine ex_icmp_ge (tgt := 18) dX3_liveDays_4 (by decide) (fun c_4 => ?_) (fun c_4 => absurd ((nI_leI (by omega) (by omega)).mpr (by omega)) c_4)
    exact ex_vret hQ rfl ⟨rfl, rfl, by rw [← show m = D by omega]; exact S⟩ dX3_liveDays_18
  | succ r ih =>
    intro m h hm S
    refine ex_iload_n 0 dX3_liveDays_2 rfl rfl ?_
    refine ex_iload_n 2 dX3_liveDays_3 rfl rfl ?_
    refine ex_icmp_ge (tgt := 18) dX3_liveDays_4 (by decide) (fun c_4 => absurd c_4 (fun q9 => absurd ((nI_leI (by omega) (by omega)).mp q9) (by omega))) (fun c_4 => ?_)
    refine ex_aload_n 1 dX3_liveDays_7 rfl rfl ?_
    refine exS_call (As := []) (r0 := (some (.int (gv (dayR (itA m A)))))) (B := dayA (itA m A)) vl_X3_111 rfl S (fun S1 => c_liveDay S1 (itA_wf w0 m) (by rw [itA_u (by decide)]; exact hm0)) rfl (by decide) (Nat.le_of_ble_eq_true rfl) (Nat.le_refl _) (Nat.le_refl _) rfl dX3_liveDays_8 (fun h S => ?_)
    refine ex_pop dX3_liveDays_11 rfl ?_
    refine ex_iinc (v := nI (m + 1)) (lv' := [(2, .int (nI (m + 1))), (0, .ref o), (1, .int (nI D))]) 0 dX3_liveDays_12 rfl (nI_1 m) (by decide) rfl ?_
    refine ex_goto (tgt := 2) dX3_liveDays_15 (by decide) ?_
    have e2 := ih (m + 1) h (by omega) S
    refine ex_lv (lv2 := [(2, .int (nI (m + 1))), (0, .ref o), (1, .int (nI D))]) [0, 1, 2] rfl ?_
    exact e2
