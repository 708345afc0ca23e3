set_option maxRecDepth 20000 in
set_option maxHeartbeats 2000000 in
theorem c_mayAppeal {G : GG} {l : Launch} {h0 : HP} {z o : Nat} {π : Nat → Nat} {n : Nat} {g : Option Nat} {t : Nat} {u : Nat → Int32} {q : Nat → Nat → Int32} (S0 : SP G h0 o π (n, g, t, u, q)) {j : Nat} (h8 : j < 8) (hn : j < n) (gw : ∀ i, g = some i → i < n) (n8 : n ≤ 8) : Ct G l 1 0 0 yX3_mayAppeal cX3_mayAppeal 3 (some .boolean) [.ref o, .int (nI j)] h0 z (p0 (.int (mayI n g u q j)) h0 z) := by
  refine Ct.intro (lv := [(0, .ref o), (1, .int (nI j))]) (by decide +kernel) (Nat.le_of_ble_eq_true rfl) rfl (fun X Q hQ hnm => ?_)
  have S := S0.sf
  rcases g with _ | i
  · refine ex_aload_n 0 dX3_mayAppeal_0 rfl rfl ?_
    refine ex_iload_n 1 dX3_mayAppeal_1 rfl rfl ?_
    refine ex_call0 (As := [.int (nI j)]) (v := .ref (o + 3 + π j)) (ci := 3) vl_X3_70 rfl (c_at S.1 h8 hn n8) S.ob rfl (by decide) (Nat.le_of_ble_eq_true rfl) (Nat.le_refl _) (Nat.le_refl _) rfl dX3_mayAppeal_2 ?_
    refine ex_astore_n (lv' := [(2, .ref (o + 3 + π j)), (0, .ref o), (1, .int (nI j))]) dX3_mayAppeal_5 rfl (by decide) rfl ?_
    refine ex_aload_n 0 dX3_mayAppeal_6 rfl rfl ?_
    refine ex_ifnull dX3_mayAppeal_7 ?_
    refine ex_aload_n 1 dX3_mayAppeal_10 rfl rfl ?_
    refine ex_get (v := .int (-6)) fl_X3_36 S.ob rfl dX3_mayAppeal_11 ?_
    refine ex_bipush (v := (-6)) dX3_mayAppeal_14 (by decide) ?_
    refine ex_icmp_eq (tgt := 52) dX3_mayAppeal_16 (by decide) (fun c_16 => ?_) (fun c_16 => absurd (rfl) c_16)
    refine ex_iconst (v := nI 0) dX3_mayAppeal_52 (by decide) ?_
    exact ex_zret hQ rfl (by decide) ⟨by simp [mayI], rfl, rfl⟩ dX3_mayAppeal_53
  · have gi := gw i rfl
    refine ex_aload_n 0 dX3_mayAppeal_0 rfl rfl ?_
    refine ex_iload_n 1 dX3_mayAppeal_1 rfl rfl ?_
    refine ex_call0 (As := [.int (nI j)]) (v := .ref (o + 3 + π j)) (ci := 3) vl_X3_70 rfl (c_at S.1 h8 hn n8) S.ob rfl (by decide) (Nat.le_of_ble_eq_true rfl) (Nat.le_refl _) (Nat.le_refl _) rfl dX3_mayAppeal_2 ?_
    refine ex_astore_n (lv' := [(2, .ref (o + 3 + π j)), (0, .ref o), (1, .int (nI j))]) dX3_mayAppeal_5 rfl (by decide) rfl ?_
    refine ex_aload_n 0 dX3_mayAppeal_6 rfl rfl ?_
    refine ex_ifnull dX3_mayAppeal_7 ?_
    refine ex_aload_n 1 dX3_mayAppeal_10 rfl rfl ?_
    refine ex_get (v := .int (nI i)) fl_X3_36 S.ob rfl dX3_mayAppeal_11 ?_
    refine ex_bipush (v := (-6)) dX3_mayAppeal_14 (by decide) ?_
    refine ex_icmp_eq (tgt := 52) dX3_mayAppeal_16 (by decide) (fun c_16 => absurd c_16 (nI_n6 (by omega))) (fun c_16 => ?_)
    refine ex_iload_n 2 dX3_mayAppeal_19 rfl rfl ?_
    refine ex_aload_n 1 dX3_mayAppeal_20 rfl rfl ?_
    refine ex_get (v := .int (nI i)) fl_X3_36 S.ob rfl dX3_mayAppeal_21 ?_
    refine ex_icmp_eq (tgt := 52) dX3_mayAppeal_24 (by decide) (fun c_24 => ?_) (fun c_24 => ?_)
    · have n_24 : j = i := (nI_eq (by omega) (by omega)).mp c_24
      refine ex_iconst (v := nI 0) dX3_mayAppeal_52 (by decide) ?_
      exact ex_zret hQ rfl (by decide) ⟨by first | (simp [mayI, bB_0 c_32, c_45, Ne.symm n_24]; done) | (simp [mayI, bB_0 c_32, c_45]; done) | (simp [mayI, bB_1 c_32]; done) | (simp [mayI, n_24]; done) | (simp [mayI, bB_0 c_32, c_45]; omega), rfl, rfl⟩ dX3_mayAppeal_53
    · have n_24 : ¬ (j = i) := fun q9 => c_24 ((nI_eq (by omega) (by omega)).mpr q9)
      refine ex_aload_n 1 dX3_mayAppeal_27 rfl rfl ?_
      refine ex_aload_n 0 dX3_mayAppeal_28 rfl rfl ?_
      refine ex_call0 (As := [.ref (o + 3 + π j)]) (v := .int (bB u q j)) (ci := 3) vl_X3_82 rfl (c_isBarred S.1 h8 hn) S.ob rfl (by decide) (Nat.le_of_ble_eq_true rfl) (Nat.le_refl _) (Nat.le_refl _) rfl dX3_mayAppeal_29 ?_
      refine ex_if_ne (tgt := 52) dX3_mayAppeal_32 (by decide) (fun c_32 => ?_) (fun c_32 => ?_)
      · refine ex_iconst (v := nI 0) dX3_mayAppeal_52 (by decide) ?_
        exact ex_zret hQ rfl (by decide) ⟨by first | (simp [mayI, bB_0 c_32, c_45, Ne.symm n_24]; done) | (simp [mayI, bB_0 c_32, c_45]; done) | (simp [mayI, bB_1 c_32]; done) | (simp [mayI, n_24]; done) | (simp [mayI, bB_0 c_32, c_45]; omega), rfl, rfl⟩ dX3_mayAppeal_53
      · refine ex_aload_n 0 dX3_mayAppeal_35 rfl rfl ?_
        refine ex_get (v := .int (q j 3)) fl_X3_86 (S.pe h8 hn) rfl dX3_mayAppeal_36 ?_
        refine ex_aload_n 1 dX3_mayAppeal_39 rfl rfl ?_
        refine ex_get (v := .ref (o + 1)) fl_X3_18 S.ob rfl dX3_mayAppeal_40 ?_
        refine ex_iconst (v := nI 2) dX3_mayAppeal_43 (by decide) ?_
        refine exS_ld (i := 2) (v := u 2) S rfl (by decide) rfl dX3_mayAppeal_44 ?_
        refine ex_icmp_lt (tgt := 52) dX3_mayAppeal_45 (by decide) (fun c_45 => ?_) (fun c_45 => ?_)
        · refine ex_iconst (v := nI 0) dX3_mayAppeal_52 (by decide) ?_
          exact ex_zret hQ rfl (by decide) ⟨by first | (simp [mayI, bB_0 c_32, c_45, Ne.symm n_24]; done) | (simp [mayI, bB_0 c_32, c_45]; done) | (simp [mayI, bB_1 c_32]; done) | (simp [mayI, n_24]; done) | (simp [mayI, bB_0 c_32, c_45]; omega), rfl, rfl⟩ dX3_mayAppeal_53
        · refine ex_iconst (v := nI 1) dX3_mayAppeal_48 (by decide) ?_
          refine ex_goto (tgt := 53) dX3_mayAppeal_49 (by decide) ?_
          exact ex_zret hQ rfl (by decide) ⟨by first | (simp [mayI, bB_0 c_32, c_45, Ne.symm n_24]; done) | (simp [mayI, bB_0 c_32, c_45]; done) | (simp [mayI, bB_1 c_32]; done) | (simp [mayI, n_24]; done) | (simp [mayI, bB_0 c_32, c_45]; omega), rfl, rfl⟩ dX3_mayAppeal_53

set_option maxRecDepth 20000 in
set_option maxHeartbeats 2000000 in
theorem c_hearAppeal {G : GG} {l : Launch} {h0 : HP} {z o : Nat} {π : Nat → Nat} {n i : Nat} {t : Nat} {u : Nat → Int32} {q : Nat → Nat → Int32} (S0 : SP G h0 o π (n, some i, t, u, q)) {j : Nat} (h8 : j < 8) (hn : j < n) (hi : i < n) (n8 : n ≤ 8) : Ct G l 2 0 0 yX3_hearAppeal cX3_hearAppeal 4 (some .boolean) [.ref o, .int (nI j)] h0 z (pS G (some (.int (if (appA n i t u q j).2 = true then nI 1 else nI 0))) h0 z o π (appA n i t u q j).1) := by
  refine Ct.intro (lv := [(0, .ref o), (1, .int (nI j))]) (by decide +kernel) (Nat.le_of_ble_eq_true rfl) rfl (fun X Q hQ hnm => ?_)
  have S := S0.sf
  refine ex_aload_n 0 dX3_hearAppeal_0 rfl rfl ?_
  refine ex_iload_n 1 dX3_hearAppeal_1 rfl rfl ?_
  refine ex_call0 (As := [.int (nI j)]) (v := .ref (o + 3 + π j)) (ci := 3) vl_X3_70 rfl (c_at S.1 h8 hn n8) S.ob rfl (by decide) (Nat.le_of_ble_eq_true rfl) (Nat.le_refl _) (Nat.le_refl _) rfl dX3_hearAppeal_2 ?_
  refine ex_astore_n (lv' := [(2, .ref (o + 3 + π j)), (0, .ref o), (1, .int (nI j))]) dX3_hearAppeal_5 rfl (by decide) rfl ?_
  refine ex_aload_n 1 dX3_hearAppeal_6 rfl rfl ?_
  refine ex_aload_n 1 dX3_hearAppeal_7 rfl rfl ?_
  refine ex_get (v := .int (nI i)) fl_X3_36 S.ob rfl dX3_hearAppeal_8 ?_
  refine ex_call0 (As := [.int (nI i)]) (v := .ref (o + 3 + π i)) (ci := 3) vl_X3_70 rfl (c_at S.1 (by omega) hi n8) S.ob rfl (by decide) (Nat.le_of_ble_eq_true rfl) (Nat.le_refl _) (Nat.le_refl _) rfl dX3_hearAppeal_11 ?_
  refine ex_astore_n (lv' := [(3, .ref (o + 3 + π i)), (2, .ref (o + 3 + π j)), (0, .ref o), (1, .int (nI j))]) dX3_hearAppeal_14 rfl (by decide) rfl ?_
  refine ex_aload_n 1 dX3_hearAppeal_15 rfl rfl ?_
  refine ex_ifnull dX3_hearAppeal_16 ?_
  refine ex_aload_n 0 dX3_hearAppeal_19 rfl rfl ?_
  refine ex_ifnonnull (tgt := 25) dX3_hearAppeal_20 (by decide) ?_
  refine ex_aload_n 1 dX3_hearAppeal_25 rfl rfl ?_
  refine ex_dup dX3_hearAppeal_26 rfl ?_
  refine ex_get (v := .int (q j 3)) fl_X3_86 (S.pe h8 hn) rfl dX3_hearAppeal_27 ?_
  refine ex_aload_n 2 dX3_hearAppeal_30 rfl rfl ?_
  refine ex_get (v := .ref (o + 1)) fl_X3_18 S.ob rfl dX3_hearAppeal_31 ?_
  refine ex_iconst (v := nI 2) dX3_hearAppeal_34 (by decide) ?_
  refine exS_ld (i := 2) (v := u 2) S rfl (by decide) rfl dX3_hearAppeal_35 ?_
  refine ex_isub dX3_hearAppeal_36 ?_
  refine exP_put S h8 hn fl_X3_86 (by decide) rfl dX3_hearAppeal_37 (fun h S => ?_)
  refine ex_aload_n 2 dX3_hearAppeal_40 rfl rfl ?_
  refine ex_dup dX3_hearAppeal_41 rfl ?_
  refine ex_get (v := .int (u 11)) fl_X3_42 S.ob rfl dX3_hearAppeal_42 ?_
  refine ex_aload_n 2 dX3_hearAppeal_45 rfl rfl ?_
  refine ex_get (v := .ref (o + 1)) fl_X3_18 S.ob rfl dX3_hearAppeal_46 ?_
  refine ex_iconst (v := nI 2) dX3_hearAppeal_49 (by decide) ?_
  refine exS_ld (i := 2) (v := u 2) S rfl (by decide) rfl dX3_hearAppeal_50 ?_
  refine ex_iadd dX3_hearAppeal_51 ?_
  refine exS_putU (i := 11) S fl_X3_42 (by decide) (by decide) rfl dX3_hearAppeal_52 (fun h S => ?_)
  refine ex_aload_n 2 dX3_hearAppeal_55 rfl rfl ?_
  refine ex_aload_n 1 dX3_hearAppeal_56 rfl rfl ?_
  refine ex_call0 (As := [.ref (o + 3 + π j)]) (v := .int (scI (upd u 11 ((u 11) + (u 2))) (uq q j 3 ((q j 3) - (u 2))) j)) (ci := 3) vl_X3_101 rfl (c_score S.1 h8 hn) S.ob rfl (by decide) (Nat.le_of_ble_eq_true rfl) (Nat.le_refl _) (Nat.le_refl _) rfl dX3_hearAppeal_57 ?_
  refine ex_aload_n 2 dX3_hearAppeal_60 rfl rfl ?_
  refine ex_aload_n 0 dX3_hearAppeal_61 rfl rfl ?_
  refine ex_call0 (As := [.ref (o + 3 + π i)]) (v := .int (scI (upd u 11 ((u 11) + (u 2))) (uq q j 3 ((q j 3) - (u 2))) i)) (ci := 3) vl_X3_101 rfl (c_score S.1 (by omega) hi) S.ob rfl (by decide) (Nat.le_of_ble_eq_true rfl) (Nat.le_refl _) (Nat.le_refl _) rfl dX3_hearAppeal_62 ?_
  refine ex_icmp_le (tgt := 75) dX3_hearAppeal_65 (by decide) (fun c_65 => ?_) (fun c_65 => ?_)
  · refine ex_aload_n 2 dX3_hearAppeal_75 rfl rfl ?_
    refine ex_aload_n 1 dX3_hearAppeal_76 rfl rfl ?_
    refine exS_call (As := [.ref (o + 3 + π j)]) (r0 := none) (B := (n, (some i), t, (upd (upd u 11 ((u 11) + (u 2))) 12 (u 12 + nI 1)), (uq (uq q j 3 ((q j 3) - (u 2))) j 2 (q j 2 + nI 1)))) vl_X3_108 rfl S (fun S1 => c_scratch S1 h8 hn) rfl (by decide) (Nat.le_of_ble_eq_true rfl) (Nat.le_refl _) (Nat.le_refl _) rfl dX3_hearAppeal_77 (fun h S => ?_)
    refine ex_iconst (v := nI 0) dX3_hearAppeal_80 (by decide) ?_
    exact ex_zret hQ rfl (by decide) ⟨by unfold appA; rw [if_neg (show ¬ scI u q i < scI u q j from Int32.not_lt.mpr c_65)]; rfl, rfl, by unfold appA; rw [if_neg (show ¬ scI u q i < scI u q j from Int32.not_lt.mpr c_65)]; exact S⟩ dX3_hearAppeal_81
  · refine ex_aload_n 2 dX3_hearAppeal_68 rfl rfl ?_
    refine ex_iload_n 3 dX3_hearAppeal_69 rfl rfl ?_
    refine exS_call (As := [.int (nI j)]) (r0 := none) (B := (n, none, j, (upd (upd u 11 ((u 11) + (u 2))) 14 (u 14 + nI 1)), (uq q j 3 ((q j 3) - (u 2))))) vl_X3_105 rfl S (fun S1 => c_depose S1) rfl (by decide) (Nat.le_of_ble_eq_true rfl) (Nat.le_refl _) (Nat.le_refl _) rfl dX3_hearAppeal_70 (fun h S => ?_)
    refine ex_iconst (v := nI 1) dX3_hearAppeal_73 (by decide) ?_
    exact ex_zret hQ rfl (by decide) ⟨by unfold appA; rw [if_pos (show scI u q i < scI u q j from Int32.not_le.mp c_65)]; rfl, rfl, by unfold appA; rw [if_pos (show scI u q i < scI u q j from Int32.not_le.mp c_65)]; exact S⟩ dX3_hearAppeal_74

set_option maxRecDepth 20000 in
set_option maxHeartbeats 2000000 in
theorem c_begin {G : GG} {l : Launch} {h0 : HP} {z o : Nat} {π : Nat → Nat} {n : Nat} {g : Option Nat} {t : Nat} {u : Nat → Int32} {q : Nat → Nat → Int32} (S0 : SP G h0 o π (n, g, t, u, q)) {j : Nat} (h8 : j < 8) (hn : j < n) {x y : Int32} : Ct G l 0 0 0 yX2_begin cX2_begin 3 none [.ref (o + 3 + π j), .int x, .int y] h0 z (pS G none h0 z o π (n, g, t, u, (uq (uq (uq (uq (uq (uq q j 0 x) j 1 y) j 2 (nI 0)) j 3 (nI 0)) j 4 (nI 0)) j 5 (nI 0)))) := by
  refine Ct.intro (lv := [(0, .ref (o + 3 + π j)), (1, .int x), (2, .int y)]) (by decide +kernel) (Nat.le_of_ble_eq_true rfl) rfl (fun X Q hQ hnm => ?_)
  have S := S0.sf
  refine ex_aload_n 0 dX2_begin_0 rfl rfl ?_
  refine ex_iload_n 1 dX2_begin_1 rfl rfl ?_
  refine exP_put S h8 hn fl_X2_7 (by decide) rfl dX2_begin_2 (fun h S => ?_)
  refine ex_aload_n 0 dX2_begin_5 rfl rfl ?_
  refine ex_iload_n 2 dX2_begin_6 rfl rfl ?_
  refine exP_put S h8 hn fl_X2_13 (by decide) rfl dX2_begin_7 (fun h S => ?_)
  refine ex_aload_n 0 dX2_begin_10 rfl rfl ?_
  refine ex_iconst (v := nI 0) dX2_begin_11 (by decide) ?_
  refine exP_put S h8 hn fl_X2_16 (by decide) rfl dX2_begin_12 (fun h S => ?_)
  refine ex_aload_n 0 dX2_begin_15 rfl rfl ?_
  refine ex_iconst (v := nI 0) dX2_begin_16 (by decide) ?_
  refine exP_put S h8 hn fl_X2_19 (by decide) rfl dX2_begin_17 (fun h S => ?_)
  refine ex_aload_n 0 dX2_begin_20 rfl rfl ?_
  refine ex_iconst (v := nI 0) dX2_begin_21 (by decide) ?_
  refine exP_put S h8 hn fl_X2_22 (by decide) rfl dX2_begin_22 (fun h S => ?_)
  refine ex_aload_n 0 dX2_begin_25 rfl rfl ?_
  refine ex_iconst (v := nI 0) dX2_begin_26 (by decide) ?_
  refine exP_put S h8 hn fl_X2_25 (by decide) rfl dX2_begin_27 (fun h S => ?_)
  exact ex_vret hQ rfl ⟨rfl, rfl, S⟩ dX2_begin_30

set_option maxRecDepth 20000 in
set_option maxHeartbeats 2000000 in
theorem c_admit {G : GG} {l : Launch} {h0 : HP} {z o : Nat} {π : Nat → Nat} {n : Nat} {g : Option Nat} {t : Nat} {u : Nat → Int32} {q : Nat → Nat → Int32} (S0 : SP G h0 o π (n, g, t, u, q)) (h8 : n < 8) {x y : Int32} : Ct G l 1 0 0 yX3_admit cX3_admit 4 none [.ref o, .int x, .int y] h0 z (pS G none h0 z o π (admA (n, g, t, u, q) x y)) := by
  refine Ct.intro (lv := [(0, .ref o), (1, .int x), (2, .int y)]) (by decide +kernel) (Nat.le_of_ble_eq_true rfl) rfl (fun X Q hQ hnm => ?_)
  have S := S0.sf
  refine ex_aload_n 0 dX3_admit_0 rfl rfl ?_
  refine ex_get (v := .int (nI n)) fl_X3_29 S.ob rfl dX3_admit_1 ?_
  refine ex_bipush (v := nI 8) dX3_admit_4 (by decide) ?_
  refine ex_icmp_lt (tgt := 10) dX3_admit_6 (by decide) (fun c_6 => ?_) (fun c_6 => absurd ((nI_ltI (by omega) (by omega)).mpr (by omega)) c_6)
  refine ex_aload_n 0 dX3_admit_10 rfl rfl ?_
  refine ex_dup dX3_admit_11 rfl ?_
  refine ex_get (v := .int (nI n)) fl_X3_29 S.ob rfl dX3_admit_12 ?_
  refine ex_iconst (v := nI 1) dX3_admit_15 (by decide) ?_
  refine ex_iaddN dX3_admit_16 ?_
  refine exS_putN (n1 := n + 1) S fl_X3_29 rfl dX3_admit_17 (fun h w hw S => ?_)
  refine ex_aload_n 0 dX3_admit_20 rfl rfl ?_
  refine ex_aload_n 0 dX3_admit_21 rfl rfl ?_
  refine ex_get (v := .int (nI (n + 1))) fl_X3_29 S.ob rfl dX3_admit_22 ?_
  refine ex_iconst (v := nI 1) dX3_admit_25 (by decide) ?_
  refine ex_isub dX3_admit_26 ?_
  refine ex_topi (show nI (n + 1) - nI 1 = nI n from nI_pred n) ?_
  have n9 : n + 1 ≤ 8 := by omega
  refine ex_call0 (As := [.int (nI n)]) (v := .ref (o + 3 + π n)) (ci := 3) vl_X3_70 rfl (c_at S.1 h8 (by omega) n9) S.ob rfl (by decide) (Nat.le_of_ble_eq_true rfl) (Nat.le_refl _) (Nat.le_refl _) rfl dX3_admit_27 ?_
  refine ex_astore_n (lv' := [(3, .ref (o + 3 + π n)), (0, .ref o), (1, .int x), (2, .int y)]) dX3_admit_30 rfl (by decide) rfl ?_
  refine ex_aload_n 0 dX3_admit_31 rfl rfl ?_
  refine ex_ifnull dX3_admit_32 ?_
  refine ex_aload_n 0 dX3_admit_35 rfl rfl ?_
  refine ex_iload_n 2 dX3_admit_36 rfl rfl ?_
  refine ex_iload_n 3 dX3_admit_37 rfl rfl ?_
  refine exP_call (As := [.int x, .int y]) (r0 := none) (B := ((n + 1), g, t, u, (uq (uq (uq (uq (uq (uq w n 0 x) n 1 y) n 2 (nI 0)) n 3 (nI 0)) n 4 (nI 0)) n 5 (nI 0)))) vl_X3_89 rfl S h8 (Nat.lt_succ_self n) (fun S1 => c_begin S1 h8 (Nat.lt_succ_self n)) rfl (by decide) (Nat.le_of_ble_eq_true rfl) (Nat.le_refl _) (Nat.le_refl _) rfl dX3_admit_38 (fun h S => ?_)
  exact ex_vret hQ rfl ⟨rfl, rfl, S.to rfl rfl rfl (fun _ _ _ _ _ => rfl) (fun a b ha hb => by
      have ha : a < n + 1 := ha
      show (if a = n then _ else _) = _
      by_cases e : a = n
      · subst e
        rcases (show b = 0 ∨ b = 1 ∨ b = 2 ∨ b = 3 ∨ b = 4 ∨ b = 5 by omega) with rfl | rfl | rfl | rfl | rfl | rfl <;> simp [uq, nI_0]
      · rw [if_neg e]
        simp only [uq, e, if_false]
        rw [← hw a b (by omega) (by omega) hb]
        split <;> (try split) <;> (try split) <;> (try split) <;> (try split) <;> (try split) <;> rfl)⟩ dX3_admit_41

set_option maxRecDepth 20000 in
set_option maxHeartbeats 2000000 in
theorem c_pam {G : GG} {l : Launch} {h0 : HP} {z o : Nat} {p x y : Nat} (hp : p < 9) (hx : x < 9) (hy : y < 9) : Ct G l 0 0 0 yX3_placeAfterMove cX3_placeAfterMove 4 (some .int) [.ref o, .int (nI p), .int (nI x), .int (nI y)] h0 z (p0 (.int (nI (mvP p x y))) h0 z) := by
  refine Ct.intro (lv := [(0, .ref o), (1, .int (nI p)), (2, .int (nI x)), (3, .int (nI y))]) (by decide +kernel) (Nat.le_of_ble_eq_true rfl) rfl (fun X Q hQ hnm => ?_)
  refine ex_iload_n 1 dX3_placeAfterMove_0 rfl rfl ?_
  refine ex_iload_n 2 dX3_placeAfterMove_1 rfl rfl ?_
  refine ex_icmp_ne (tgt := 7) dX3_placeAfterMove_2 (by decide) (fun c_2 => ?_) (fun c_2 => ?_)
  · have n_2 : ¬ (p = x) := fun q9 => c_2 ((nI_eq (by omega) (by omega)).mpr q9)
    refine ex_iload_n 1 dX3_placeAfterMove_7 rfl rfl ?_
    refine ex_iload_n 2 dX3_placeAfterMove_8 rfl rfl ?_
    refine ex_icmp_le (tgt := 21) dX3_placeAfterMove_9 (by decide) (fun c_9 => ?_) (fun c_9 => ?_)
    · have n_9 : p ≤ x := (nI_leI (by omega) (by omega)).mp c_9
      refine ex_iload_n 1 dX3_placeAfterMove_21 rfl rfl ?_
      refine ex_iload_n 2 dX3_placeAfterMove_22 rfl rfl ?_
      refine ex_icmp_ge (tgt := 35) dX3_placeAfterMove_23 (by decide) (fun c_23 => ?_) (fun c_23 => ?_)
      · have n_23 : x ≤ p := (nI_leI (by omega) (by omega)).mp c_23
        refine ex_iload_n 1 dX3_placeAfterMove_35 rfl rfl ?_
        exact ex_iret hQ rfl ⟨congrArg (fun a => some (Value.int (nI a))) (by unfold mvP; first | (rw [if_pos (by omega)]; done) | (rw [if_neg (by omega), if_pos (by omega)]; done) | (rw [if_neg (by omega), if_neg (by omega), if_pos (by omega)]; done) | (rw [if_neg (by omega), if_neg (by omega), if_neg (by omega)]; done)), rfl, rfl⟩ dX3_placeAfterMove_36
      · have n_23 : ¬ (x ≤ p) := fun q9 => c_23 ((nI_leI (by omega) (by omega)).mpr q9)
        refine ex_iload_n 1 dX3_placeAfterMove_26 rfl rfl ?_
        refine ex_iload_n 3 dX3_placeAfterMove_27 rfl rfl ?_
        refine ex_icmp_lt (tgt := 35) dX3_placeAfterMove_28 (by decide) (fun c_28 => ?_) (fun c_28 => ?_)
        · have n_28 : p < y := (nI_ltI (by omega) (by omega)).mp c_28
          refine ex_iload_n 1 dX3_placeAfterMove_35 rfl rfl ?_
          exact ex_iret hQ rfl ⟨congrArg (fun a => some (Value.int (nI a))) (by unfold mvP; first | (rw [if_pos (by omega)]; done) | (rw [if_neg (by omega), if_pos (by omega)]; done) | (rw [if_neg (by omega), if_neg (by omega), if_pos (by omega)]; done) | (rw [if_neg (by omega), if_neg (by omega), if_neg (by omega)]; done)), rfl, rfl⟩ dX3_placeAfterMove_36
        · have n_28 : ¬ (p < y) := fun q9 => c_28 ((nI_ltI (by omega) (by omega)).mpr q9)
          refine ex_iload_n 1 dX3_placeAfterMove_31 rfl rfl ?_
          refine ex_iconst (v := nI 1) dX3_placeAfterMove_32 (by decide) ?_
          refine ex_iaddN dX3_placeAfterMove_33 ?_
          exact ex_iret hQ rfl ⟨congrArg (fun a => some (Value.int (nI a))) (by unfold mvP; first | (rw [if_pos (by omega)]; done) | (rw [if_neg (by omega), if_pos (by omega)]; done) | (rw [if_neg (by omega), if_neg (by omega), if_pos (by omega)]; done) | (rw [if_neg (by omega), if_neg (by omega), if_neg (by omega)]; done)), rfl, rfl⟩ dX3_placeAfterMove_34
    · have n_9 : ¬ (p ≤ x) := fun q9 => c_9 ((nI_leI (by omega) (by omega)).mpr q9)
      refine ex_iload_n 1 dX3_placeAfterMove_12 rfl rfl ?_
      refine ex_iload_n 3 dX3_placeAfterMove_13 rfl rfl ?_
      refine ex_icmp_gt (tgt := 21) dX3_placeAfterMove_14 (by decide) (fun c_14 => ?_) (fun c_14 => ?_)
      · have n_14 : y < p := (nI_ltI (by omega) (by omega)).mp c_14
        refine ex_iload_n 1 dX3_placeAfterMove_21 rfl rfl ?_
        refine ex_iload_n 2 dX3_placeAfterMove_22 rfl rfl ?_
        refine ex_icmp_ge (tgt := 35) dX3_placeAfterMove_23 (by decide) (fun c_23 => ?_) (fun c_23 => ?_)
        · have n_23 : x ≤ p := (nI_leI (by omega) (by omega)).mp c_23
          refine ex_iload_n 1 dX3_placeAfterMove_35 rfl rfl ?_
          exact ex_iret hQ rfl ⟨congrArg (fun a => some (Value.int (nI a))) (by unfold mvP; first | (rw [if_pos (by omega)]; done) | (rw [if_neg (by omega), if_pos (by omega)]; done) | (rw [if_neg (by omega), if_neg (by omega), if_pos (by omega)]; done) | (rw [if_neg (by omega), if_neg (by omega), if_neg (by omega)]; done)), rfl, rfl⟩ dX3_placeAfterMove_36
        · have n_23 : ¬ (x ≤ p) := fun q9 => c_23 ((nI_leI (by omega) (by omega)).mpr q9)
          refine ex_iload_n 1 dX3_placeAfterMove_26 rfl rfl ?_
          refine ex_iload_n 3 dX3_placeAfterMove_27 rfl rfl ?_
          refine ex_icmp_lt (tgt := 35) dX3_placeAfterMove_28 (by decide) (fun c_28 => ?_) (fun c_28 => ?_)
          · have n_28 : p < y := (nI_ltI (by omega) (by omega)).mp c_28
            refine ex_iload_n 1 dX3_placeAfterMove_35 rfl rfl ?_
            exact ex_iret hQ rfl ⟨congrArg (fun a => some (Value.int (nI a))) (by unfold mvP; first | (rw [if_pos (by omega)]; done) | (rw [if_neg (by omega), if_pos (by omega)]; done) | (rw [if_neg (by omega), if_neg (by omega), if_pos (by omega)]; done) | (rw [if_neg (by omega), if_neg (by omega), if_neg (by omega)]; done)), rfl, rfl⟩ dX3_placeAfterMove_36
          · have n_28 : ¬ (p < y) := fun q9 => c_28 ((nI_ltI (by omega) (by omega)).mpr q9)
            refine ex_iload_n 1 dX3_placeAfterMove_31 rfl rfl ?_
            refine ex_iconst (v := nI 1) dX3_placeAfterMove_32 (by decide) ?_
            refine ex_iaddN dX3_placeAfterMove_33 ?_
            exact ex_iret hQ rfl ⟨congrArg (fun a => some (Value.int (nI a))) (by unfold mvP; first | (rw [if_pos (by omega)]; done) | (rw [if_neg (by omega), if_pos (by omega)]; done) | (rw [if_neg (by omega), if_neg (by omega), if_pos (by omega)]; done) | (rw [if_neg (by omega), if_neg (by omega), if_neg (by omega)]; done)), rfl, rfl⟩ dX3_placeAfterMove_34
      · have n_14 : ¬ (y < p) := fun q9 => c_14 ((nI_ltI (by omega) (by omega)).mpr q9)
        refine ex_iload_n 1 dX3_placeAfterMove_17 rfl rfl ?_
        refine ex_iconst (v := nI 1) dX3_placeAfterMove_18 (by decide) ?_
        refine ex_isubN dX3_placeAfterMove_19 (by omega) ?_
        exact ex_iret hQ rfl ⟨congrArg (fun a => some (Value.int (nI a))) (by unfold mvP; first | (rw [if_pos (by omega)]; done) | (rw [if_neg (by omega), if_pos (by omega)]; done) | (rw [if_neg (by omega), if_neg (by omega), if_pos (by omega)]; done) | (rw [if_neg (by omega), if_neg (by omega), if_neg (by omega)]; done)), rfl, rfl⟩ dX3_placeAfterMove_20
  · have n_2 : p = x := (nI_eq (by omega) (by omega)).mp c_2
    refine ex_iload_n 3 dX3_placeAfterMove_5 rfl rfl ?_
    exact ex_iret hQ rfl ⟨congrArg (fun a => some (Value.int (nI a))) (by unfold mvP; first | (rw [if_pos (by omega)]; done) | (rw [if_neg (by omega), if_pos (by omega)]; done) | (rw [if_neg (by omega), if_neg (by omega), if_pos (by omega)]; done) | (rw [if_neg (by omega), if_neg (by omega), if_neg (by omega)]; done)), rfl, rfl⟩ dX3_placeAfterMove_6

set_option maxRecDepth 20000 in
set_option maxHeartbeats 2000000 in
theorem c_pamN {G : GG} {l : Launch} {h0 : HP} {z o : Nat} {x y : Nat} (hx : x < 9) (hy : y < 9) : Ct G l 0 0 0 yX3_placeAfterMove cX3_placeAfterMove 4 (some .int) [.ref o, .int (-6), .int (nI x), .int (nI y)] h0 z (p0 (.int (-6)) h0 z) := by
  refine Ct.intro (lv := [(0, .ref o), (1, .int (-6)), (2, .int (nI x)), (3, .int (nI y))]) (by decide +kernel) (Nat.le_of_ble_eq_true rfl) rfl (fun X Q hQ hnm => ?_)
  refine ex_iload_n 1 dX3_placeAfterMove_0 rfl rfl ?_
  refine ex_iload_n 2 dX3_placeAfterMove_1 rfl rfl ?_
  refine ex_icmp_ne (tgt := 7) dX3_placeAfterMove_2 (by decide) (fun c_2 => ?_) (fun c_2 => absurd c_2 (fun q9 => nI_n6 (show x < 2 ^ 31 by omega) q9.symm))
  refine ex_iload_n 1 dX3_placeAfterMove_7 rfl rfl ?_
  refine ex_iload_n 2 dX3_placeAfterMove_8 rfl rfl ?_
  refine ex_icmp_le (tgt := 21) dX3_placeAfterMove_9 (by decide) (fun c_9 => ?_) (fun c_9 => absurd (Int32.le_iff_toInt_le.mpr (by rw [nI_toInt (by omega), show (-6 : Int32).toInt = -6 from by decide]; omega)) c_9)
  refine ex_iload_n 1 dX3_placeAfterMove_21 rfl rfl ?_
  refine ex_iload_n 2 dX3_placeAfterMove_22 rfl rfl ?_
  refine ex_icmp_ge (tgt := 35) dX3_placeAfterMove_23 (by decide) (fun c_23 => absurd c_23 (fun q9 => by have a9 := Int32.le_iff_toInt_le.mp q9; rw [nI_toInt (by omega), show (-6 : Int32).toInt = -6 from by decide] at a9; omega)) (fun c_23 => ?_)
  refine ex_iload_n 1 dX3_placeAfterMove_26 rfl rfl ?_
  refine ex_iload_n 3 dX3_placeAfterMove_27 rfl rfl ?_
  refine ex_icmp_lt (tgt := 35) dX3_placeAfterMove_28 (by decide) (fun c_28 => ?_) (fun c_28 => absurd (Int32.lt_iff_toInt_lt.mpr (by rw [nI_toInt (by omega), show (-6 : Int32).toInt = -6 from by decide]; omega)) c_28)
  refine ex_iload_n 1 dX3_placeAfterMove_35 rfl rfl ?_
  exact ex_iret hQ rfl ⟨rfl, rfl, rfl⟩ dX3_placeAfterMove_36
