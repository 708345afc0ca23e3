set_option maxRecDepth 20000 in
set_option maxHeartbeats 2000000 in
theorem c_scratch {G : GG} {l : Launch} {h0 : HP} {z o : Nat} {π : Nat → Nat} {n : Nat} {g : Option Nat} {t : Nat} {u : Nat → Int32} {q : Nat → Nat → Int32} (S0 : SP G h0 o π (n, g, t, u, q)) {j : Nat} (h8 : j < 8) (hn : j < n) : Ct G l 0 0 0 yX3_scratch cX3_scratch 2 none [.ref o, .ref (o + 3 + π j)] h0 z (pS G none h0 z o π (n, g, t, upd u 12 (u 12 + nI 1), uq q j 2 (q j 2 + nI 1))) := by
  refine Ct.intro (lv := [(0, .ref o), (1, .ref (o + 3 + π j))]) (by decide +kernel) (Nat.le_of_ble_eq_true rfl) rfl (fun X Q hQ hnm => ?_)
  have S := S0.sf
  refine ex_aload_n 1 dX3_scratch_0 rfl rfl ?_
  refine ex_dup dX3_scratch_1 rfl ?_
  refine ex_get (v := .int (q j 2)) fl_X3_78 (S.pe h8 hn) rfl dX3_scratch_2 ?_
  refine ex_iconst (v := nI 1) dX3_scratch_5 (by decide) ?_
  refine ex_iadd dX3_scratch_6 ?_
  refine exP_put S h8 hn fl_X3_78 (by decide) rfl dX3_scratch_7 (fun h S => ?_)
  refine ex_aload_n 0 dX3_scratch_10 rfl rfl ?_
  refine ex_dup dX3_scratch_11 rfl ?_
  refine ex_get (v := .int (u 12)) fl_X3_48 S.ob rfl dX3_scratch_12 ?_
  refine ex_iconst (v := nI 1) dX3_scratch_15 (by decide) ?_
  refine ex_iadd dX3_scratch_16 ?_
  refine exS_putU (i := 12) S fl_X3_48 (by decide) (by decide) rfl dX3_scratch_17 (fun h S => ?_)
  exact ex_vret hQ rfl ⟨rfl, rfl, S⟩ dX3_scratch_20

set_option maxRecDepth 20000 in
set_option maxHeartbeats 2000000 in
theorem c_leave {G : GG} {l : Launch} {h0 : HP} {z o : Nat} {π : Nat → Nat} {n : Nat} {g : Option Nat} {t : Nat} {u : Nat → Int32} {q : Nat → Nat → Int32} (S0 : SP G h0 o π (n, g, t, u, q)) {t1 : Nat} : Ct G l 0 0 0 yX3_leaveWithoutGuardian cX3_leaveWithoutGuardian 2 none [.ref o, .int (nI t1)] h0 z (pS G none h0 z o π (n, none, t1, u, q)) := by
  refine Ct.intro (lv := [(0, .ref o), (1, .int (nI t1))]) (by decide +kernel) (Nat.le_of_ble_eq_true rfl) rfl (fun X Q hQ hnm => ?_)
  have S := S0.sf
  refine ex_aload_n 0 dX3_leaveWithoutGuardian_0 rfl rfl ?_
  refine ex_bipush (v := (-6)) dX3_leaveWithoutGuardian_1 (by decide) ?_
  refine exS_putG (g1 := none) S fl_X3_36 rfl dX3_leaveWithoutGuardian_3 (fun h S => ?_)
  refine ex_aload_n 0 dX3_leaveWithoutGuardian_6 rfl rfl ?_
  refine ex_iload_n 1 dX3_leaveWithoutGuardian_7 rfl rfl ?_
  refine exS_putT (t1 := t1) S fl_X3_39 rfl dX3_leaveWithoutGuardian_8 (fun h S => ?_)
  exact ex_vret hQ rfl ⟨rfl, rfl, S⟩ dX3_leaveWithoutGuardian_11

set_option maxRecDepth 20000 in
set_option maxHeartbeats 2000000 in
theorem c_depose {G : GG} {l : Launch} {h0 : HP} {z o : Nat} {π : Nat → Nat} {n : Nat} {g : Option Nat} {t : Nat} {u : Nat → Int32} {q : Nat → Nat → Int32} (S0 : SP G h0 o π (n, g, t, u, q)) {t1 : Nat} : Ct G l 1 0 0 yX3_depose cX3_depose 2 none [.ref o, .int (nI t1)] h0 z (pS G none h0 z o π (n, none, t1, upd u 14 (u 14 + nI 1), q)) := by
  refine Ct.intro (lv := [(0, .ref o), (1, .int (nI t1))]) (by decide +kernel) (Nat.le_of_ble_eq_true rfl) rfl (fun X Q hQ hnm => ?_)
  have S := S0.sf
  refine ex_aload_n 0 dX3_depose_0 rfl rfl ?_
  refine ex_iload_n 1 dX3_depose_1 rfl rfl ?_
  refine exS_call (As := [.int (nI t1)]) (r0 := none) (B := (n, none, t1, u, q)) vl_X3_97 rfl S (fun S1 => c_leave S1) rfl (by decide) (Nat.le_of_ble_eq_true rfl) (Nat.le_refl _) (Nat.le_refl _) rfl dX3_depose_2 (fun h S => ?_)
  refine ex_aload_n 0 dX3_depose_5 rfl rfl ?_
  refine ex_dup dX3_depose_6 rfl ?_
  refine ex_get (v := .int (u 14)) fl_X3_54 S.ob rfl dX3_depose_7 ?_
  refine ex_iconst (v := nI 1) dX3_depose_10 (by decide) ?_
  refine ex_iadd dX3_depose_11 ?_
  refine exS_putU (i := 14) S fl_X3_54 (by decide) (by decide) rfl dX3_depose_12 (fun h S => ?_)
  exact ex_vret hQ rfl ⟨rfl, rfl, S⟩ dX3_depose_15

set_option maxRecDepth 20000 in
set_option maxHeartbeats 2000000 in
theorem c_draw {G : GG} {l : Launch} {h0 : HP} {z o : Nat} {π : Nat → Nat} {n : Nat} {g : Option Nat} {t : Nat} {u : Nat → Int32} {q : Nat → Nat → Int32} (S0 : SP G h0 o π (n, g, t, u, q)) {x : Int32} : Ct G l 1 0 0 yX3_draw cX3_draw 3 (some .int) [.ref o, .int x] h0 z (pS G (some (.int (mnI x (u 11)))) h0 z o π (n, g, t, upd u 11 (u 11 - mnI x (u 11)), q)) := by
  refine Ct.intro (lv := [(0, .ref o), (1, .int x)]) (by decide +kernel) (Nat.le_of_ble_eq_true rfl) rfl (fun X Q hQ hnm => ?_)
  have S := S0.sf
  refine ex_iload_n 1 dX3_draw_0 rfl rfl ?_
  refine ex_aload_n 0 dX3_draw_1 rfl rfl ?_
  refine ex_get (v := .int (u 11)) fl_X3_42 S.ob rfl dX3_draw_2 ?_
  refine exm_min (v := mnI x (u 11)) mlx_min rfl (by decide) (Nat.le_of_ble_eq_true rfl) (Nat.le_refl _) (Nat.le_refl _) dX3_draw_5 ?_
  refine ex_istore_n (lv' := [(2, .int (mnI x (u 11))), (0, .ref o), (1, .int x)]) dX3_draw_8 rfl (by decide) rfl ?_
  refine ex_aload_n 1 dX3_draw_9 rfl rfl ?_
  refine ex_dup dX3_draw_10 rfl ?_
  refine ex_get (v := .int (u 11)) fl_X3_42 S.ob rfl dX3_draw_11 ?_
  refine ex_iload_n 0 dX3_draw_14 rfl rfl ?_
  refine ex_isub dX3_draw_15 ?_
  refine exS_putU (i := 11) S fl_X3_42 (by decide) (by decide) rfl dX3_draw_16 (fun h S => ?_)
  refine ex_iload_n 0 dX3_draw_19 rfl rfl ?_
  exact ex_iret hQ rfl ⟨rfl, rfl, S⟩ dX3_draw_20

set_option maxRecDepth 20000 in
set_option maxHeartbeats 2000000 in
theorem c_endMonth {G : GG} {l : Launch} {h0 : HP} {z o : Nat} {π : Nat → Nat} {n : Nat} {g : Option Nat} {t : Nat} {u : Nat → Int32} {q : Nat → Nat → Int32} (S0 : SP G h0 o π (n, g, t, u, q)) (gw : ∀ i, g = some i → i < n) (n8 : n ≤ 8) : Ct G l 2 0 0 yX3_endMonth cX3_endMonth 4 none [.ref o] h0 z (pS G none h0 z o π (monthA (n, g, t, u, q))) := by
  refine Ct.intro (lv := [(0, .ref o)]) (by decide +kernel) (Nat.le_of_ble_eq_true rfl) rfl (fun X Q hQ hnm => ?_)
  have S := S0.sf
  rcases g with _ | i
  · refine ex_aload_n 0 dX3_endMonth_0 rfl rfl ?_
    refine ex_aload_n 0 dX3_endMonth_1 rfl rfl ?_
    refine ex_get (v := .int (-6)) fl_X3_36 S.ob rfl dX3_endMonth_2 ?_
    refine ex_call0 (As := [.int (-6)]) (v := .null) (ci := 3) vl_X3_70 rfl (c_atN S.1 (Or.inl (by decide)) n8) S.ob rfl (by decide) (Nat.le_of_ble_eq_true rfl) (Nat.le_refl _) (Nat.le_refl _) rfl dX3_endMonth_5 ?_
    refine ex_astore_nN (lv' := [(1, .null), (0, .ref o)]) dX3_endMonth_8 rfl (by decide) rfl ?_
    refine ex_aload_nN 0 dX3_endMonth_9 rfl rfl ?_
    refine ex_ifnonnullN dX3_endMonth_10 ?_
    refine ex_aload_n 1 dX3_endMonth_13 rfl rfl ?_
    refine ex_dup dX3_endMonth_14 rfl ?_
    refine ex_get (v := .int (u 15)) fl_X3_57 S.ob rfl dX3_endMonth_15 ?_
    refine ex_aload_n 1 dX3_endMonth_18 rfl rfl ?_
    refine ex_aload_n 1 dX3_endMonth_19 rfl rfl ?_
    refine ex_get (v := .ref (o + 1)) fl_X3_18 S.ob rfl dX3_endMonth_20 ?_
    refine ex_iconst (v := nI 1) dX3_endMonth_23 (by decide) ?_
    refine exS_ld (i := 1) (v := u 1) S rfl (by decide) rfl dX3_endMonth_24 ?_
    refine ex_iconst (v := nI 2) dX3_endMonth_25 (by decide) ?_
    refine ex_idiv dX3_endMonth_26 (by decide) ?_
    refine exS_call (As := [.int ((u 1) / (nI 2))]) (r0 := (some (.int (mnI ((u 1) / (nI 2)) (u 11))))) (B := (n, none, t, (upd u 11 (u 11 - mnI ((u 1) / (nI 2)) (u 11))), q)) vl_X3_143 rfl S (fun S1 => c_draw S1) rfl (by decide) (Nat.le_of_ble_eq_true rfl) (Nat.le_refl _) (Nat.le_refl _) rfl dX3_endMonth_27 (fun h S => ?_)
    refine ex_iadd dX3_endMonth_30 ?_
    refine exS_putU (i := 15) S fl_X3_57 (by decide) (by decide) rfl dX3_endMonth_31 (fun h S => ?_)
    exact ex_vret hQ rfl ⟨rfl, rfl, S⟩ dX3_endMonth_34
  · have gi := gw i rfl
    refine ex_aload_n 0 dX3_endMonth_0 rfl rfl ?_
    refine ex_aload_n 0 dX3_endMonth_1 rfl rfl ?_
    refine ex_get (v := .int (nI i)) fl_X3_36 S.ob rfl dX3_endMonth_2 ?_
    refine ex_call0 (As := [.int (nI i)]) (v := .ref (o + 3 + π i)) (ci := 3) vl_X3_70 rfl (c_at S.1 (by omega) gi n8) S.ob rfl (by decide) (Nat.le_of_ble_eq_true rfl) (Nat.le_refl _) (Nat.le_refl _) rfl dX3_endMonth_5 ?_
    refine ex_astore_n (lv' := [(1, .ref (o + 3 + π i)), (0, .ref o)]) dX3_endMonth_8 rfl (by decide) rfl ?_
    refine ex_aload_n 0 dX3_endMonth_9 rfl rfl ?_
    refine ex_ifnonnull (tgt := 35) dX3_endMonth_10 (by decide) ?_
    refine ex_aload_n 1 dX3_endMonth_35 rfl rfl ?_
    refine ex_aload_n 1 dX3_endMonth_36 rfl rfl ?_
    refine ex_get (v := .ref (o + 1)) fl_X3_18 S.ob rfl dX3_endMonth_37 ?_
    refine ex_iconst (v := nI 1) dX3_endMonth_40 (by decide) ?_
    refine exS_ld (i := 1) (v := u 1) S rfl (by decide) rfl dX3_endMonth_41 ?_
    refine exS_call (As := [.int (u 1)]) (r0 := (some (.int (mnI (u 1) (u 11))))) (B := (n, (some i), t, (upd u 11 (u 11 - mnI (u 1) (u 11))), q)) vl_X3_143 rfl S (fun S1 => c_draw S1) rfl (by decide) (Nat.le_of_ble_eq_true rfl) (Nat.le_refl _) (Nat.le_refl _) rfl dX3_endMonth_42 (fun h S => ?_)
    refine ex_istore_n (lv' := [(2, .int (mnI (u 1) (u 11))), (1, .ref (o + 3 + π i)), (0, .ref o)]) dX3_endMonth_45 rfl (by decide) rfl ?_
    refine ex_iload_n 0 dX3_endMonth_46 rfl rfl ?_
    refine ex_aload_n 1 dX3_endMonth_47 rfl rfl ?_
    refine ex_get (v := .int (q i 1)) fl_X3_146 (S.pe (by omega) gi) rfl dX3_endMonth_48 ?_
    refine ex_imul dX3_endMonth_51 ?_
    refine ex_bipush (v := nI 100) dX3_endMonth_52 (by decide) ?_
    refine ex_idiv dX3_endMonth_54 (by decide) ?_
    refine ex_istore_n (lv' := [(3, .int (((mnI (u 1) (u 11)) * (q i 1)) / (nI 100))), (2, .int (mnI (u 1) (u 11))), (1, .ref (o + 3 + π i)), (0, .ref o)]) dX3_endMonth_55 rfl (by decide) rfl ?_
    refine ex_aload_n 3 dX3_endMonth_56 rfl rfl ?_
    refine ex_dup dX3_endMonth_57 rfl ?_
    refine ex_get (v := .int (u 15)) fl_X3_57 S.ob rfl dX3_endMonth_58 ?_
    refine ex_iload_n 0 dX3_endMonth_61 rfl rfl ?_
    refine ex_iadd dX3_endMonth_62 ?_
    refine exS_putU (i := 15) S fl_X3_57 (by decide) (by decide) rfl dX3_endMonth_63 (fun h S => ?_)
    refine ex_aload_n 2 dX3_endMonth_66 rfl rfl ?_
    refine ex_dup dX3_endMonth_67 rfl ?_
    refine ex_get (v := .int (q i 3)) fl_X3_86 (S.pe (by omega) gi) rfl dX3_endMonth_68 ?_
    refine ex_iload_n 1 dX3_endMonth_71 rfl rfl ?_
    refine ex_iload_n 0 dX3_endMonth_72 rfl rfl ?_
    refine ex_isub dX3_endMonth_73 ?_
    refine ex_iadd dX3_endMonth_74 ?_
    refine exP_put S (by omega) gi fl_X3_86 (by decide) rfl dX3_endMonth_75 (fun h S => ?_)
    refine ex_aload_n 3 dX3_endMonth_78 rfl rfl ?_
    refine ex_bipush (v := nI 99) dX3_endMonth_79 (by decide) ?_
    refine ex_aload_n 3 dX3_endMonth_81 rfl rfl ?_
    refine ex_get (v := .int (u 8)) fl_X3_33 S.ob rfl dX3_endMonth_82 ?_
    refine ex_iload_n 0 dX3_endMonth_85 rfl rfl ?_
    refine ex_iconst (v := nI 2) dX3_endMonth_86 (by decide) ?_
    refine ex_idiv dX3_endMonth_87 (by decide) ?_
    refine ex_iadd dX3_endMonth_88 ?_
    refine exm_min (v := mnI (nI 99) ((u 8) + ((((mnI (u 1) (u 11)) * (q i 1)) / (nI 100)) / (nI 2)))) mlx_min rfl (by decide) (Nat.le_of_ble_eq_true rfl) (Nat.le_refl _) (Nat.le_refl _) dX3_endMonth_89 ?_
    refine exS_putU (i := 8) S fl_X3_33 (by decide) (by decide) rfl dX3_endMonth_92 (fun h S => ?_)
    refine ex_aload_n 3 dX3_endMonth_95 rfl rfl ?_
    refine ex_get (v := .int (mnI (nI 99) ((u 8) + ((((mnI (u 1) (u 11)) * (q i 1)) / (nI 100)) / (nI 2))))) fl_X3_33 S.ob rfl dX3_endMonth_96 ?_
    refine ex_aload_n 3 dX3_endMonth_99 rfl rfl ?_
    refine ex_get (v := .ref (o + 1)) fl_X3_18 S.ob rfl dX3_endMonth_100 ?_
    refine ex_iconst (v := nI 5) dX3_endMonth_103 (by decide) ?_
    refine exS_ld (i := 5) (v := u 5) S rfl (by decide) rfl dX3_endMonth_104 ?_
    refine ex_icmp_ge (tgt := 113) dX3_endMonth_105 (by decide) (fun c_105 => ?_) (fun c_105 => ?_)
    · exact ex_vret hQ rfl ⟨rfl, rfl, by simp only [monthA]; rw [if_neg (Int32.not_lt.mpr c_105)]; exact S⟩ dX3_endMonth_113
    · refine ex_aload_n 3 dX3_endMonth_108 rfl rfl ?_
      refine ex_iconst (v := nI 0) dX3_endMonth_109 (by decide) ?_
      refine exS_call (As := [.int (nI 0)]) (r0 := none) (B := (n, none, 0, (upd (upd (upd (upd u 11 (u 11 - mnI (u 1) (u 11))) 15 ((u 15) + (((mnI (u 1) (u 11)) * (q i 1)) / (nI 100)))) 8 (mnI (nI 99) ((u 8) + ((((mnI (u 1) (u 11)) * (q i 1)) / (nI 100)) / (nI 2))))) 14 (u 14 + nI 1)), (uq q i 3 ((q i 3) + ((mnI (u 1) (u 11)) - (((mnI (u 1) (u 11)) * (q i 1)) / (nI 100))))))) vl_X3_105 rfl S (fun S1 => c_depose S1) rfl (by decide) (Nat.le_of_ble_eq_true rfl) (Nat.le_refl _) (Nat.le_refl _) rfl dX3_endMonth_110 (fun h S => ?_)
      exact ex_vret hQ rfl ⟨rfl, rfl, by simp only [monthA]; rw [if_pos (Int32.not_le.mp c_105)]; exact S⟩ dX3_endMonth_113

set_option maxRecDepth 20000 in
set_option maxHeartbeats 2000000 in
theorem c_nextHand {G : GG} {l : Launch} {h0 : HP} {z o : Nat} {π : Nat → Nat} {n : Nat} {g : Option Nat} {t : Nat} {u : Nat → Int32} {q : Nat → Nat → Int32} (S0 : SP G h0 o π (n, g, t, u, q)) (tw : t < n ∨ t = 0) (n8 : n ≤ 8) : Ct G l 1 0 0 yX3_nextHand cX3_nextHand 4 (some .int) [.ref o] h0 z (p0 (.int (gv (hand n t u q))) h0 z) := by
  refine Ct.intro (lv := [(0, .ref o)]) (by decide +kernel) (Nat.le_of_ble_eq_true rfl) rfl (fun X Q hQ hnm => ?_)
  have S := S0.sf
  refine ex_aload_n 0 dX3_nextHand_0 rfl rfl ?_
  refine ex_get (v := .int (nI t)) fl_X3_39 S.ob rfl dX3_nextHand_1 ?_
  refine ex_istore_n (lv' := [(1, .int (nI t)), (0, .ref o)]) dX3_nextHand_4 rfl (by decide) rfl ?_
  refine ex_iconst (v := nI 0) dX3_nextHand_5 (by decide) ?_
  refine ex_istore_n (lv' := [(2, .int (nI 0)), (1, .int (nI t)), (0, .ref o)]) dX3_nextHand_6 rfl (by decide) rfl ?_
  suffices H : ∀ (r k t1 : Nat), k + r = n → (0 < n → t1 < n) → t1 < 9 → handF n u q t1 r = hand n t u q → ex G l X Q 1 0 0 0 0 cX3_nextHand yX3_nextHand.cls 4 (some .int) h0 z 7 [(2, .int (nI k)), (1, .int (nI t1)), (0, .ref o)] [] from by
    have e2 := H n 0 t (by omega) (by omega) (by omega) rfl
    refine ex_lv (lv2 := [(2, .int (nI 0)), (1, .int (nI t)), (0, .ref o)]) [0, 1, 2] rfl ?_
    exact e2
  intro r
  induction r with
  | zero =>
    intro k t1 hk ht h9 hh
    refine ex_iload_n 0 dX3_nextHand_7 rfl rfl ?_
    refine ex_aload_n 2 dX3_nextHand_8 rfl rfl ?_
    refine ex_get (v := .int (nI n)) fl_X3_29 S.ob rfl dX3_nextHand_9 ?_
    refine ex_icmp_ge (tgt := 47) dX3_nextHand_12 (by decide) (fun c_12 => ?_) (fun c_12 => absurd ((nI_leI (by omega) (by omega)).mpr (by omega)) c_12)
    refine ex_bipush (v := (-6)) dX3_nextHand_47 (by decide) ?_
    exact ex_iret hQ rfl ⟨by rw [← hh]; rfl, rfl, rfl⟩ dX3_nextHand_49
  | succ r ih =>
    intro k t1 hk ht h9 hh
    refine ex_iload_n 0 dX3_nextHand_7 rfl rfl ?_
    refine ex_aload_n 2 dX3_nextHand_8 rfl rfl ?_
    refine ex_get (v := .int (nI n)) fl_X3_29 S.ob rfl dX3_nextHand_9 ?_
    refine ex_icmp_ge (tgt := 47) dX3_nextHand_12 (by decide) (fun c_12 => absurd c_12 (fun q9 => absurd ((nI_leI (by omega) (by omega)).mp q9) (by omega))) (fun c_12 => ?_)
    refine ex_aload_n 2 dX3_nextHand_15 rfl rfl ?_
    refine ex_iload_n 1 dX3_nextHand_16 rfl rfl ?_
    refine ex_call0 (As := [.int (nI t1)]) (v := .ref (o + 3 + π t1)) (ci := 3) vl_X3_70 rfl (c_at S.1 (by omega) (by omega) n8) S.ob rfl (by decide) (Nat.le_of_ble_eq_true rfl) (Nat.le_refl _) (Nat.le_refl _) rfl dX3_nextHand_17 ?_
    refine ex_astore_n (lv' := [(3, .ref (o + 3 + π t1)), (2, .int (nI k)), (1, .int (nI t1)), (0, .ref o)]) dX3_nextHand_20 rfl (by decide) rfl ?_
    refine ex_aload_n 0 dX3_nextHand_21 rfl rfl ?_
    refine ex_ifnull dX3_nextHand_22 ?_
    refine ex_aload_n 3 dX3_nextHand_25 rfl rfl ?_
    refine ex_aload_n 0 dX3_nextHand_26 rfl rfl ?_
    refine ex_call0 (As := [.ref (o + 3 + π t1)]) (v := .int (bB u q t1)) (ci := 3) vl_X3_82 rfl (c_isBarred S.1 (by omega) (by omega)) S.ob rfl (by decide) (Nat.le_of_ble_eq_true rfl) (Nat.le_refl _) (Nat.le_refl _) rfl dX3_nextHand_27 ?_
    refine ex_if_ne (tgt := 35) dX3_nextHand_30 (by decide) (fun c_30 => ?_) (fun c_30 => ?_)
    · refine ex_aload_n 3 dX3_nextHand_35 rfl rfl ?_
      refine ex_iload_n 2 dX3_nextHand_36 rfl rfl ?_
      refine ex_call0 (As := [.int (nI t1)]) (v := .int (nI (bh n t1))) (ci := 3) vl_X3_139 rfl (c_behind S.1 (by omega) n8) S.ob rfl (by decide) (Nat.le_of_ble_eq_true rfl) (Nat.le_refl _) (Nat.le_refl _) rfl dX3_nextHand_37 ?_
      refine ex_istore_n (lv' := [(1, .int (nI (bh n t1))), (3, .ref (o + 3 + π t1)), (2, .int (nI k)), (0, .ref o)]) dX3_nextHand_40 rfl (by decide) rfl ?_
      refine ex_iinc (v := nI (k + 1)) (lv' := [(2, .int (nI (k + 1))), (1, .int (nI (bh n t1))), (3, .ref (o + 3 + π t1)), (0, .ref o)]) 2 dX3_nextHand_41 rfl (nI_1 k) (by decide) rfl ?_
      refine ex_goto (tgt := 7) dX3_nextHand_44 (by decide) ?_
      have e2 := ih (k + 1) (bh n t1) (by omega) (fun q9 => bh_lt q9) (by have := @bh_lt n t1 (by omega); omega) (by rw [← hh, handF, if_neg (bB_1 c_30)])
      refine ex_lv (lv2 := [(2, .int (nI (k + 1))), (1, .int (nI (bh n t1))), (0, .ref o)]) [0, 1, 3] rfl ?_
      exact e2
    · refine ex_iload_n 2 dX3_nextHand_33 rfl rfl ?_
      exact ex_iret hQ rfl ⟨by rw [← hh, handF, if_pos (bB_0 c_30)]; rfl, rfl, rfl⟩ dX3_nextHand_34

set_option maxRecDepth 20000 in
set_option maxHeartbeats 2000000 in
theorem c_holdOut {G : GG} {l : Launch} {h0 : HP} {z o : Nat} {π : Nat → Nat} {n : Nat} {t : Nat} {u : Nat → Int32} {q : Nat → Nat → Int32} (S0 : SP G h0 o π (n, none, t, u, q)) (tw : t < n ∨ t = 0) (n8 : n ≤ 8) : Ct G l 2 0 0 yX3_holdOutHand cX3_holdOutHand 3 (some .int) [.ref o] h0 z (pS G (some (.int (gv (holdA n t u q).2))) h0 z o π (holdA n t u q).1) := by
  refine Ct.intro (lv := [(0, .ref o)]) (by decide +kernel) (Nat.le_of_ble_eq_true rfl) rfl (fun X Q hQ hnm => ?_)
  have S := S0.sf
  refine ex_aload_n 0 dX3_holdOutHand_0 rfl rfl ?_
  refine ex_call0 (As := []) (v := .int (gv (hand n t u q))) (ci := 3) vl_X3_130 rfl (c_nextHand S.1 tw n8) S.ob rfl (by decide) (Nat.le_of_ble_eq_true rfl) (Nat.le_refl _) (Nat.le_refl _) rfl dX3_holdOutHand_1 ?_
  rcases hh : hand n t u q with _ | j
  · refine ex_istore_n (lv' := [(1, .int (-6)), (0, .ref o)]) dX3_holdOutHand_4 rfl (by decide) rfl ?_
    refine ex_aload_n 1 dX3_holdOutHand_5 rfl rfl ?_
    refine ex_iload_n 0 dX3_holdOutHand_6 rfl rfl ?_
    refine ex_call0 (As := [.int (-6)]) (v := .null) (ci := 3) vl_X3_70 rfl (c_atN S.1 (Or.inl (by decide)) n8) S.ob rfl (by decide) (Nat.le_of_ble_eq_true rfl) (Nat.le_refl _) (Nat.le_refl _) rfl dX3_holdOutHand_7 ?_
    refine ex_astore_nN (lv' := [(2, .null), (1, .int (-6)), (0, .ref o)]) dX3_holdOutHand_10 rfl (by decide) rfl ?_
    refine ex_aload_nN 0 dX3_holdOutHand_11 rfl rfl ?_
    refine ex_ifnonnullN dX3_holdOutHand_12 ?_
    refine ex_bipush (v := (-6)) dX3_holdOutHand_15 (by decide) ?_
    exact ex_iret hQ rfl ⟨by simp only [holdA, hh]; rfl, rfl, by simp only [holdA, hh]; exact S⟩ dX3_holdOutHand_17
  · have hj : j < n := hand_lt tw hh
    refine ex_istore_n (lv' := [(1, .int (nI j)), (0, .ref o)]) dX3_holdOutHand_4 rfl (by decide) rfl ?_
    refine ex_aload_n 1 dX3_holdOutHand_5 rfl rfl ?_
    refine ex_iload_n 0 dX3_holdOutHand_6 rfl rfl ?_
    refine ex_call0 (As := [.int (nI j)]) (v := .ref (o + 3 + π j)) (ci := 3) vl_X3_70 rfl (c_at S.1 (by omega) hj n8) S.ob rfl (by decide) (Nat.le_of_ble_eq_true rfl) (Nat.le_refl _) (Nat.le_refl _) rfl dX3_holdOutHand_7 ?_
    refine ex_astore_n (lv' := [(2, .ref (o + 3 + π j)), (1, .int (nI j)), (0, .ref o)]) dX3_holdOutHand_10 rfl (by decide) rfl ?_
    refine ex_aload_n 0 dX3_holdOutHand_11 rfl rfl ?_
    refine ex_ifnonnull (tgt := 18) dX3_holdOutHand_12 (by decide) ?_
    refine ex_aload_n 2 dX3_holdOutHand_18 rfl rfl ?_
    refine ex_aload_n 0 dX3_holdOutHand_19 rfl rfl ?_
    refine ex_call0 (As := [.ref (o + 3 + π j)]) (v := .int (scI u q j)) (ci := 3) vl_X3_101 rfl (c_score S.1 (by omega) hj) S.ob rfl (by decide) (Nat.le_of_ble_eq_true rfl) (Nat.le_refl _) (Nat.le_refl _) rfl dX3_holdOutHand_20 ?_
    refine ex_aload_n 2 dX3_holdOutHand_23 rfl rfl ?_
    refine ex_get (v := .ref (o + 1)) fl_X3_18 S.ob rfl dX3_holdOutHand_24 ?_
    refine ex_iconst (v := nI 0) dX3_holdOutHand_27 (by decide) ?_
    refine exS_ld (i := 0) (v := u 0) S rfl (by decide) rfl dX3_holdOutHand_28 ?_
    refine ex_icmp_lt (tgt := 59) dX3_holdOutHand_29 (by decide) (fun c_29 => ?_) (fun c_29 => ?_)
    · refine ex_aload_n 2 dX3_holdOutHand_59 rfl rfl ?_
      refine ex_aload_n 0 dX3_holdOutHand_60 rfl rfl ?_
      refine exS_call (As := [.ref (o + 3 + π j)]) (r0 := none) (B := (n, none, t, (upd u 12 (u 12 + nI 1)), (uq q j 2 (q j 2 + nI 1)))) vl_X3_108 rfl S (fun S1 => c_scratch S1 (by omega) hj) rfl (by decide) (Nat.le_of_ble_eq_true rfl) (Nat.le_refl _) (Nat.le_refl _) rfl dX3_holdOutHand_61 (fun h S => ?_)
      refine ex_aload_n 2 dX3_holdOutHand_64 rfl rfl ?_
      refine ex_iconst (v := nI 0) dX3_holdOutHand_65 (by decide) ?_
      refine ex_aload_n 2 dX3_holdOutHand_66 rfl rfl ?_
      refine ex_get (v := .int (u 8)) fl_X3_33 S.ob rfl dX3_holdOutHand_67 ?_
      refine ex_iconst (v := nI 3) dX3_holdOutHand_70 (by decide) ?_
      refine ex_isub dX3_holdOutHand_71 ?_
      refine exm_max (v := mxI (nI 0) ((u 8) - (nI 3))) mlx_max rfl (by decide) (Nat.le_of_ble_eq_true rfl) (Nat.le_refl _) (Nat.le_refl _) dX3_holdOutHand_72 ?_
      refine exS_putU (i := 8) S fl_X3_33 (by decide) (by decide) rfl dX3_holdOutHand_75 (fun h S => ?_)
      refine ex_aload_n 2 dX3_holdOutHand_78 rfl rfl ?_
      refine ex_aload_n 2 dX3_holdOutHand_79 rfl rfl ?_
      refine ex_iload_n 1 dX3_holdOutHand_80 rfl rfl ?_
      refine ex_call0 (As := [.int (nI j)]) (v := .int (nI (bh n j))) (ci := 3) vl_X3_139 rfl (c_behind S.1 (by omega) n8) S.ob rfl (by decide) (Nat.le_of_ble_eq_true rfl) (Nat.le_refl _) (Nat.le_refl _) rfl dX3_holdOutHand_81 ?_
      refine exS_putT (t1 := bh n j) S fl_X3_39 rfl dX3_holdOutHand_84 (fun h S => ?_)
      refine ex_bipush (v := (-6)) dX3_holdOutHand_87 (by decide) ?_
      exact ex_iret hQ rfl ⟨by simp only [holdA, hh]; rw [if_pos c_29]; rfl, rfl, by simp only [holdA, hh]; rw [if_pos c_29]; exact S⟩ dX3_holdOutHand_89
    · refine ex_aload_n 2 dX3_holdOutHand_32 rfl rfl ?_
      refine ex_iload_n 1 dX3_holdOutHand_33 rfl rfl ?_
      refine exS_putG (g1 := (some j)) S fl_X3_36 rfl dX3_holdOutHand_34 (fun h S => ?_)
      refine ex_aload_n 0 dX3_holdOutHand_37 rfl rfl ?_
      refine ex_dup dX3_holdOutHand_38 rfl ?_
      refine ex_get (v := .int (q j 4)) fl_X3_133 (S.pe (by omega) hj) rfl dX3_holdOutHand_39 ?_
      refine ex_iconst (v := nI 1) dX3_holdOutHand_42 (by decide) ?_
      refine ex_iadd dX3_holdOutHand_43 ?_
      refine exP_put S (by omega) hj fl_X3_133 (by decide) rfl dX3_holdOutHand_44 (fun h S => ?_)
      refine ex_aload_n 2 dX3_holdOutHand_47 rfl rfl ?_
      refine ex_dup dX3_holdOutHand_48 rfl ?_
      refine ex_get (v := .int (u 13)) fl_X3_51 S.ob rfl dX3_holdOutHand_49 ?_
      refine ex_iconst (v := nI 1) dX3_holdOutHand_52 (by decide) ?_
      refine ex_iadd dX3_holdOutHand_53 ?_
      refine exS_putU (i := 13) S fl_X3_51 (by decide) (by decide) rfl dX3_holdOutHand_54 (fun h S => ?_)
      refine ex_iload_n 1 dX3_holdOutHand_57 rfl rfl ?_
      exact ex_iret hQ rfl ⟨by simp only [holdA, hh]; rw [if_neg c_29]; rfl, rfl, by simp only [holdA, hh]; rw [if_neg c_29]; exact S⟩ dX3_holdOutHand_58
