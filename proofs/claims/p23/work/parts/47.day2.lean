theorem d_ok {K k : Nat} {A : AS} (h : iv K A) (hK : K < 2 ^ 23) (hd : ¬ nI 9800 < A.2.2.2.1 6) (hk : k ≤ 199) : ¬ nI 9999 < A.2.2.2.1 6 + nI k := by
  obtain ⟨a, d, ea, ed, he, hd2⟩ := h.2.2.2.2.1
  rw [ed] at hd ⊢
  rw [nI_add]
  have h1 : d ≤ 9800 := Nat.not_lt.mp (fun q => hd ((nI_ltI (by omega) (by omega)).mpr q))
  intro q
  have := (nI_ltI (by omega) (by omega)).mp q
  omega
set_option maxRecDepth 20000 in
set_option maxHeartbeats 2000000 in
theorem c_isDayS {G : GG} {l : Launch} {h0 : HP} {z b : Nat} {n : Nat} {t : Nat} {u : Nat → Int32} {q : Nat → Nat → Int32} {R : RX} {K : Nat} {i : Nat} (S0 : PP G h0 z b ((n, (some i), t, u, q), R)) (ok : iv K (n, (some i), t, u, q)) (hK : K < 2 ^ 23) (hd : ¬ nI 9800 < u 6) : Ct G l 6 0 0 yL_isDay cL_isDay 18 (some .boolean) [.ref b] h0 z (pL G b z (X_pass ((n, some i, t, u, q), R) (nI 1)).2) := by
  refine Ct.intro (lv := [(0, .ref b)]) (by decide +kernel) (Nat.le_of_ble_eq_true rfl) rfl (fun X Q hQ hnm => ?_)
  have S := S0
  have wf : wfA (n, (some i), t, u, q) := ok.1.1
  have n8 : n ≤ 8 := wf.1
  have tw : t < n ∨ t = 0 := wf.2.2
  have ok1 := ok.1
  have ow := ok.2
  have hi : i < n := wf.2.1 i rfl
  have hd1 := d_ok ok hK hd (k := 1) (by omega)
  refine ex_aload_n 0 dL_isDay_0 rfl rfl ?_
  refine ex_bipush (v := nI 7) dL_isDay_1 (by decide) ?_
  refine ex_cnt (k := 7) (v := nI n) vl_L_8 S wf (by decide) rfl (by decide) (Nat.le_of_ble_eq_true rfl) (Nat.le_refl _) (Nat.le_refl _) dL_isDay_3 (fun h S => ?_)
  refine ex_istore_n (lv' := [(1, .int (nI n)), (0, .ref b)]) dL_isDay_6 rfl (by decide) rfl ?_
  refine ex_aload_n 1 dL_isDay_7 rfl rfl ?_
  refine ex_bipush (v := nI 6) dL_isDay_8 (by decide) ?_
  refine ex_cnt (k := 6) (v := u 6) vl_L_8 S wf (by decide) rfl (by decide) (Nat.le_of_ble_eq_true rfl) (Nat.le_refl _) (Nat.le_refl _) dL_isDay_10 (fun h S => ?_)
  refine ex_iconst (v := nI 1) dL_isDay_13 (by decide) ?_
  refine ex_iadd dL_isDay_14 ?_
  refine ex_istore_n (lv' := [(2, .int ((u 6) + (nI 1))), (1, .int (nI n)), (0, .ref b)]) dL_isDay_15 rfl (by decide) rfl ?_
  refine ex_aload_n 2 dL_isDay_16 rfl rfl ?_
  refine ex_bipush (v := nI 9) dL_isDay_17 (by decide) ?_
  refine ex_cnt (k := 9) (v := nI i) vl_L_8 S wf (by decide) rfl (by decide) (Nat.le_of_ble_eq_true rfl) (Nat.le_refl _) (Nat.le_refl _) dL_isDay_19 (fun h S => ?_)
  refine ex_istore_n (lv' := [(3, .int (nI i)), (2, .int ((u 6) + (nI 1))), (1, .int (nI n)), (0, .ref b)]) dL_isDay_22 rfl (by decide) rfl ?_
  refine ex_aload_n 3 dL_isDay_23 rfl rfl ?_
  refine ex_bipush (v := nI 8) dL_isDay_24 (by decide) ?_
  refine ex_cnt (k := 8) (v := u 8) vl_L_8 S wf (by decide) rfl (by decide) (Nat.le_of_ble_eq_true rfl) (Nat.le_refl _) (Nat.le_refl _) dL_isDay_26 (fun h S => ?_)
  refine ex_istore (lv' := [(4, .int (u 8)), (3, .int (nI i)), (2, .int ((u 6) + (nI 1))), (1, .int (nI n)), (0, .ref b)]) dL_isDay_29 (by decide) rfl ?_
  refine ex_aload_n 4 dL_isDay_31 rfl rfl ?_
  refine ex_bipush (v := nI 17) dL_isDay_32 (by decide) ?_
  refine ex_cnt (k := 17) (v := sumP q n) vl_L_8 S wf (by decide) rfl (by decide) (Nat.le_of_ble_eq_true rfl) (Nat.le_refl _) (Nat.le_refl _) dL_isDay_34 (fun h S => ?_)
  refine ex_istore (lv' := [(5, .int (sumP q n)), (4, .int (u 8)), (3, .int (nI i)), (2, .int ((u 6) + (nI 1))), (1, .int (nI n)), (0, .ref b)]) dL_isDay_37 (by decide) rfl ?_
  refine ex_aload_n 5 dL_isDay_39 rfl rfl ?_
  refine ex_bipush (v := nI 11) dL_isDay_40 (by decide) ?_
  refine ex_cnt (k := 11) (v := u 11) vl_L_8 S wf (by decide) rfl (by decide) (Nat.le_of_ble_eq_true rfl) (Nat.le_refl _) (Nat.le_refl _) dL_isDay_42 (fun h S => ?_)
  refine ex_istore (lv' := [(6, .int (u 11)), (5, .int (sumP q n)), (4, .int (u 8)), (3, .int (nI i)), (2, .int ((u 6) + (nI 1))), (1, .int (nI n)), (0, .ref b)]) dL_isDay_45 (by decide) rfl ?_
  refine ex_aload_n 6 dL_isDay_47 rfl rfl ?_
  refine ex_bipush (v := nI 16) dL_isDay_48 (by decide) ?_
  refine ex_cnt (k := 16) (v := u 15) vl_L_8 S wf (by decide) rfl (by decide) (Nat.le_of_ble_eq_true rfl) (Nat.le_refl _) (Nat.le_refl _) dL_isDay_50 (fun h S => ?_)
  refine ex_istore (lv' := [(7, .int (u 15)), (6, .int (u 11)), (5, .int (sumP q n)), (4, .int (u 8)), (3, .int (nI i)), (2, .int ((u 6) + (nI 1))), (1, .int (nI n)), (0, .ref b)]) dL_isDay_53 (by decide) rfl ?_
  refine ex_aload_n 7 dL_isDay_55 rfl rfl ?_
  refine ex_bipush (v := nI 15) dL_isDay_56 (by decide) ?_
  refine ex_cnt (k := 15) (v := u 14) vl_L_8 S wf (by decide) rfl (by decide) (Nat.le_of_ble_eq_true rfl) (Nat.le_refl _) (Nat.le_refl _) dL_isDay_58 (fun h S => ?_)
  refine ex_istore (lv' := [(8, .int (u 14)), (7, .int (u 15)), (6, .int (u 11)), (5, .int (sumP q n)), (4, .int (u 8)), (3, .int (nI i)), (2, .int ((u 6) + (nI 1))), (1, .int (nI n)), (0, .ref b)]) dL_isDay_61 (by decide) rfl ?_
  refine ex_aload_n 8 dL_isDay_63 rfl rfl ?_
  refine ex_bipush (v := nI 13) dL_isDay_64 (by decide) ?_
  refine ex_cnt (k := 13) (v := u 12) vl_L_8 S wf (by decide) rfl (by decide) (Nat.le_of_ble_eq_true rfl) (Nat.le_refl _) (Nat.le_refl _) dL_isDay_66 (fun h S => ?_)
  refine ex_istore (lv' := [(9, .int (u 12)), (8, .int (u 14)), (7, .int (u 15)), (6, .int (u 11)), (5, .int (sumP q n)), (4, .int (u 8)), (3, .int (nI i)), (2, .int ((u 6) + (nI 1))), (1, .int (nI n)), (0, .ref b)]) dL_isDay_69 (by decide) rfl ?_
  refine ex_aload_n 9 dL_isDay_71 rfl rfl ?_
  refine ex_bipush (v := nI 10) dL_isDay_72 (by decide) ?_
  refine ex_cnt (k := 10) (v := (-6)) vl_L_8 S wf (by decide) rfl (by decide) (Nat.le_of_ble_eq_true rfl) (Nat.le_refl _) (Nat.le_refl _) dL_isDay_74 (fun h S => ?_)
  refine ex_istore (lv' := [(10, .int (-6)), (9, .int (u 12)), (8, .int (u 14)), (7, .int (u 15)), (6, .int (u 11)), (5, .int (sumP q n)), (4, .int (u 8)), (3, .int (nI i)), (2, .int ((u 6) + (nI 1))), (1, .int (nI n)), (0, .ref b)]) dL_isDay_77 (by decide) rfl ?_
  refine ex_iconst (v := (-1)) dL_isDay_79 (by decide) ?_
  refine ex_istore (lv' := [(11, .int (-1)), (10, .int (-6)), (9, .int (u 12)), (8, .int (u 14)), (7, .int (u 15)), (6, .int (u 11)), (5, .int (sumP q n)), (4, .int (u 8)), (3, .int (nI i)), (2, .int ((u 6) + (nI 1))), (1, .int (nI n)), (0, .ref b)]) dL_isDay_80 (by decide) rfl ?_
  refine ex_iload_n 8 dL_isDay_82 rfl rfl ?_
  refine ex_istore (lv' := [(12, .int (nI i)), (11, .int (-1)), (10, .int (-6)), (9, .int (u 12)), (8, .int (u 14)), (7, .int (u 15)), (6, .int (u 11)), (5, .int (sumP q n)), (4, .int (u 8)), (3, .int (nI i)), (2, .int ((u 6) + (nI 1))), (1, .int (nI n)), (0, .ref b)]) dL_isDay_83 (by decide) rfl ?_
  refine ex_iconst (v := nI 0) dL_isDay_85 (by decide) ?_
  refine ex_istore (lv' := [(13, .int (nI 0)), (12, .int (nI i)), (11, .int (-1)), (10, .int (-6)), (9, .int (u 12)), (8, .int (u 14)), (7, .int (u 15)), (6, .int (u 11)), (5, .int (sumP q n)), (4, .int (u 8)), (3, .int (nI i)), (2, .int ((u 6) + (nI 1))), (1, .int (nI n)), (0, .ref b)]) dL_isDay_86 (by decide) rfl ?_
  refine ex_iload_n 12 dL_isDay_88 rfl rfl ?_
  refine ex_iconst (v := nI 1) dL_isDay_89 (by decide) ?_
  refine ex_isubN dL_isDay_90 (by omega) ?_
  refine ex_istore (lv' := [(14, .int (nI (n - 1))), (13, .int (nI 0)), (12, .int (nI i)), (11, .int (-1)), (10, .int (-6)), (9, .int (u 12)), (8, .int (u 14)), (7, .int (u 15)), (6, .int (u 11)), (5, .int (sumP q n)), (4, .int (u 8)), (3, .int (nI i)), (2, .int ((u 6) + (nI 1))), (1, .int (nI n)), (0, .ref b)]) dL_isDay_91 (by decide) rfl ?_
  refine ex_iload 0 dL_isDay_93 rfl ?_
  refine ex_if_lt (tgt := 137) dL_isDay_95 (by decide) (fun c_95 => absurd c_95 (nI_pos (by omega))) (fun c_95 => ?_)
  refine ex_iload_n 11 dL_isDay_98 rfl rfl ?_
  refine ex_if_ge (tgt := 137) dL_isDay_99 (by decide) (fun c_99 => ?_) (fun c_99 => absurd (nI_pos' (by omega)) c_99)
  refine ex_iload 3 dL_isDay_137 rfl ?_
  refine ex_if_lt (tgt := 238) dL_isDay_139 (by decide) (fun c_139 => ?_) (fun c_139 => absurd (by decide) c_139)
  refine ex_lv (lv2 := [(13, .int (nI 0)), (12, .int (nI i)), (11, .int (-1)), (10, .int (-6)), (9, .int (u 12)), (8, .int (u 14)), (7, .int (u 15)), (6, .int (u 11)), (5, .int (sumP q n)), (4, .int (u 8)), (3, .int (nI i)), (2, .int ((u 6) + (nI 1))), (1, .int (nI n)), (0, .ref b)]) [1, 2, 3, 4, 5, 6, 7, 8, 9, 10, 11, 12, 13, 14] rfl ?_
  exact e238s (j := i) (u1 := upd u 6 (u 6 + nI 1)) (q1 := q) (t1 := t) (pv := nI 0) (hv := (-1)) (tv := (-6)) hQ S wf ok1.m3 wf (X_pass_1 hd1 rfl) rfl rfl rfl rfl rfl rfl rfl (fun _ => (Int32.add_zero _).symm) (fun c => absurd (by decide) c) rfl rfl

set_option maxRecDepth 20000 in
set_option maxHeartbeats 2000000 in
theorem c_isDayN {G : GG} {l : Launch} {h0 : HP} {z b : Nat} {n : Nat} {t : Nat} {u : Nat → Int32} {q : Nat → Nat → Int32} {R : RX} {K : Nat} (S0 : PP G h0 z b ((n, none, t, u, q), R)) (ok : iv K (n, none, t, u, q)) (hK : K < 2 ^ 23) (hd : ¬ nI 9800 < u 6) : Ct G l 6 0 0 yL_isDay cL_isDay 18 (some .boolean) [.ref b] h0 z (pL G b z (X_pass ((n, none, t, u, q), R) (nI 1)).2) := by
  refine Ct.intro (lv := [(0, .ref b)]) (by decide +kernel) (Nat.le_of_ble_eq_true rfl) rfl (fun X Q hQ hnm => ?_)
  have S := S0
  have wf : wfA (n, none, t, u, q) := ok.1.1
  have n8 : n ≤ 8 := wf.1
  have tw : t < n ∨ t = 0 := wf.2.2
  have ok1 := ok.1
  have ow := ok.2
  have hd1 := d_ok ok hK hd (k := 1) (by omega)
  refine ex_aload_n 0 dL_isDay_0 rfl rfl ?_
  refine ex_bipush (v := nI 7) dL_isDay_1 (by decide) ?_
  refine ex_cnt (k := 7) (v := nI n) vl_L_8 S wf (by decide) rfl (by decide) (Nat.le_of_ble_eq_true rfl) (Nat.le_refl _) (Nat.le_refl _) dL_isDay_3 (fun h S => ?_)
  refine ex_istore_n (lv' := [(1, .int (nI n)), (0, .ref b)]) dL_isDay_6 rfl (by decide) rfl ?_
  refine ex_aload_n 1 dL_isDay_7 rfl rfl ?_
  refine ex_bipush (v := nI 6) dL_isDay_8 (by decide) ?_
  refine ex_cnt (k := 6) (v := u 6) vl_L_8 S wf (by decide) rfl (by decide) (Nat.le_of_ble_eq_true rfl) (Nat.le_refl _) (Nat.le_refl _) dL_isDay_10 (fun h S => ?_)
  refine ex_iconst (v := nI 1) dL_isDay_13 (by decide) ?_
  refine ex_iadd dL_isDay_14 ?_
  refine ex_istore_n (lv' := [(2, .int ((u 6) + (nI 1))), (1, .int (nI n)), (0, .ref b)]) dL_isDay_15 rfl (by decide) rfl ?_
  refine ex_aload_n 2 dL_isDay_16 rfl rfl ?_
  refine ex_bipush (v := nI 9) dL_isDay_17 (by decide) ?_
  refine ex_cnt (k := 9) (v := (-6)) vl_L_8 S wf (by decide) rfl (by decide) (Nat.le_of_ble_eq_true rfl) (Nat.le_refl _) (Nat.le_refl _) dL_isDay_19 (fun h S => ?_)
  refine ex_istore_n (lv' := [(3, .int (-6)), (2, .int ((u 6) + (nI 1))), (1, .int (nI n)), (0, .ref b)]) dL_isDay_22 rfl (by decide) rfl ?_
  refine ex_aload_n 3 dL_isDay_23 rfl rfl ?_
  refine ex_bipush (v := nI 8) dL_isDay_24 (by decide) ?_
  refine ex_cnt (k := 8) (v := u 8) vl_L_8 S wf (by decide) rfl (by decide) (Nat.le_of_ble_eq_true rfl) (Nat.le_refl _) (Nat.le_refl _) dL_isDay_26 (fun h S => ?_)
  refine ex_istore (lv' := [(4, .int (u 8)), (3, .int (-6)), (2, .int ((u 6) + (nI 1))), (1, .int (nI n)), (0, .ref b)]) dL_isDay_29 (by decide) rfl ?_
  refine ex_aload_n 4 dL_isDay_31 rfl rfl ?_
  refine ex_bipush (v := nI 17) dL_isDay_32 (by decide) ?_
  refine ex_cnt (k := 17) (v := sumP q n) vl_L_8 S wf (by decide) rfl (by decide) (Nat.le_of_ble_eq_true rfl) (Nat.le_refl _) (Nat.le_refl _) dL_isDay_34 (fun h S => ?_)
  refine ex_istore (lv' := [(5, .int (sumP q n)), (4, .int (u 8)), (3, .int (-6)), (2, .int ((u 6) + (nI 1))), (1, .int (nI n)), (0, .ref b)]) dL_isDay_37 (by decide) rfl ?_
  refine ex_aload_n 5 dL_isDay_39 rfl rfl ?_
  refine ex_bipush (v := nI 11) dL_isDay_40 (by decide) ?_
  refine ex_cnt (k := 11) (v := u 11) vl_L_8 S wf (by decide) rfl (by decide) (Nat.le_of_ble_eq_true rfl) (Nat.le_refl _) (Nat.le_refl _) dL_isDay_42 (fun h S => ?_)
  refine ex_istore (lv' := [(6, .int (u 11)), (5, .int (sumP q n)), (4, .int (u 8)), (3, .int (-6)), (2, .int ((u 6) + (nI 1))), (1, .int (nI n)), (0, .ref b)]) dL_isDay_45 (by decide) rfl ?_
  refine ex_aload_n 6 dL_isDay_47 rfl rfl ?_
  refine ex_bipush (v := nI 16) dL_isDay_48 (by decide) ?_
  refine ex_cnt (k := 16) (v := u 15) vl_L_8 S wf (by decide) rfl (by decide) (Nat.le_of_ble_eq_true rfl) (Nat.le_refl _) (Nat.le_refl _) dL_isDay_50 (fun h S => ?_)
  refine ex_istore (lv' := [(7, .int (u 15)), (6, .int (u 11)), (5, .int (sumP q n)), (4, .int (u 8)), (3, .int (-6)), (2, .int ((u 6) + (nI 1))), (1, .int (nI n)), (0, .ref b)]) dL_isDay_53 (by decide) rfl ?_
  refine ex_aload_n 7 dL_isDay_55 rfl rfl ?_
  refine ex_bipush (v := nI 15) dL_isDay_56 (by decide) ?_
  refine ex_cnt (k := 15) (v := u 14) vl_L_8 S wf (by decide) rfl (by decide) (Nat.le_of_ble_eq_true rfl) (Nat.le_refl _) (Nat.le_refl _) dL_isDay_58 (fun h S => ?_)
  refine ex_istore (lv' := [(8, .int (u 14)), (7, .int (u 15)), (6, .int (u 11)), (5, .int (sumP q n)), (4, .int (u 8)), (3, .int (-6)), (2, .int ((u 6) + (nI 1))), (1, .int (nI n)), (0, .ref b)]) dL_isDay_61 (by decide) rfl ?_
  refine ex_aload_n 8 dL_isDay_63 rfl rfl ?_
  refine ex_bipush (v := nI 13) dL_isDay_64 (by decide) ?_
  refine ex_cnt (k := 13) (v := u 12) vl_L_8 S wf (by decide) rfl (by decide) (Nat.le_of_ble_eq_true rfl) (Nat.le_refl _) (Nat.le_refl _) dL_isDay_66 (fun h S => ?_)
  refine ex_istore (lv' := [(9, .int (u 12)), (8, .int (u 14)), (7, .int (u 15)), (6, .int (u 11)), (5, .int (sumP q n)), (4, .int (u 8)), (3, .int (-6)), (2, .int ((u 6) + (nI 1))), (1, .int (nI n)), (0, .ref b)]) dL_isDay_69 (by decide) rfl ?_
  refine ex_aload_n 9 dL_isDay_71 rfl rfl ?_
  refine ex_bipush (v := nI 10) dL_isDay_72 (by decide) ?_
  refine ex_cnt (k := 10) (v := nI t) vl_L_8 S wf (by decide) rfl (by decide) (Nat.le_of_ble_eq_true rfl) (Nat.le_refl _) (Nat.le_refl _) dL_isDay_74 (fun h S => ?_)
  refine ex_istore (lv' := [(10, .int (nI t)), (9, .int (u 12)), (8, .int (u 14)), (7, .int (u 15)), (6, .int (u 11)), (5, .int (sumP q n)), (4, .int (u 8)), (3, .int (-6)), (2, .int ((u 6) + (nI 1))), (1, .int (nI n)), (0, .ref b)]) dL_isDay_77 (by decide) rfl ?_
  refine ex_iconst (v := (-1)) dL_isDay_79 (by decide) ?_
  refine ex_istore (lv' := [(11, .int (-1)), (10, .int (nI t)), (9, .int (u 12)), (8, .int (u 14)), (7, .int (u 15)), (6, .int (u 11)), (5, .int (sumP q n)), (4, .int (u 8)), (3, .int (-6)), (2, .int ((u 6) + (nI 1))), (1, .int (nI n)), (0, .ref b)]) dL_isDay_80 (by decide) rfl ?_
  refine ex_iload_n 8 dL_isDay_82 rfl rfl ?_
  refine ex_istore (lv' := [(12, .int (-6)), (11, .int (-1)), (10, .int (nI t)), (9, .int (u 12)), (8, .int (u 14)), (7, .int (u 15)), (6, .int (u 11)), (5, .int (sumP q n)), (4, .int (u 8)), (3, .int (-6)), (2, .int ((u 6) + (nI 1))), (1, .int (nI n)), (0, .ref b)]) dL_isDay_83 (by decide) rfl ?_
  refine ex_iconst (v := nI 0) dL_isDay_85 (by decide) ?_
  refine ex_istore (lv' := [(13, .int (nI 0)), (12, .int (-6)), (11, .int (-1)), (10, .int (nI t)), (9, .int (u 12)), (8, .int (u 14)), (7, .int (u 15)), (6, .int (u 11)), (5, .int (sumP q n)), (4, .int (u 8)), (3, .int (-6)), (2, .int ((u 6) + (nI 1))), (1, .int (nI n)), (0, .ref b)]) dL_isDay_86 (by decide) rfl ?_
  refine ex_iload_n 12 dL_isDay_88 rfl rfl ?_
  refine ex_iconst (v := nI 1) dL_isDay_89 (by decide) ?_
  refine ex_isub dL_isDay_90 ?_
  refine ex_istore (lv' := [(14, .int ((nI n) - (nI 1))), (13, .int (nI 0)), (12, .int (-6)), (11, .int (-1)), (10, .int (nI t)), (9, .int (u 12)), (8, .int (u 14)), (7, .int (u 15)), (6, .int (u 11)), (5, .int (sumP q n)), (4, .int (u 8)), (3, .int (-6)), (2, .int ((u 6) + (nI 1))), (1, .int (nI n)), (0, .ref b)]) dL_isDay_91 (by decide) rfl ?_
  suffices H : ∀ (k : Nat) (h : HP), k ≤ n → PP G h z b ((n, none, t, u, q), R) → ex G l X Q 6 0 0 0 0 cL_isDay yL_isDay.cls 18 (some .boolean) h z 93 [(14, .int (nI k - nI 1)), (13, .int (nI 0)), (12, .int (-6)), (11, .int (mg (hF n t u q k))), (10, .int (nI t)), (9, .int (u 12)), (8, .int (u 14)), (7, .int (u 15)), (6, .int (u 11)), (5, .int (sumP q n)), (4, .int (u 8)), (3, .int (-6)), (2, .int ((u 6) + (nI 1))), (1, .int (nI n)), (0, .ref b)] [] from by
    have e2 := H n h (Nat.le_refl _) S
    rw [hF_n] at e2
    refine ex_lv (lv2 := [(14, .int ((nI n) - (nI 1))), (13, .int (nI 0)), (12, .int (-6)), (11, .int (-1)), (10, .int (nI t)), (9, .int (u 12)), (8, .int (u 14)), (7, .int (u 15)), (6, .int (u 11)), (5, .int (sumP q n)), (4, .int (u 8)), (3, .int (-6)), (2, .int ((u 6) + (nI 1))), (1, .int (nI n)), (0, .ref b)]) [0, 1, 2, 3, 4, 5, 6, 7, 8, 9, 10, 11, 12, 13, 14] rfl ?_
    exact e2
  intro k
  induction k with
  | zero =>
    intro h hk S
    rw [hF_0 tw]
    refine ex_iload 0 dL_isDay_93 rfl ?_
    refine ex_if_lt (tgt := 137) dL_isDay_95 (by decide) (fun c_95 => ?_) (fun c_95 => absurd (by decide) c_95)
    rcases hh : hand n t u q with _ | j
    · show ex G l X Q 6 0 0 0 0 cL_isDay yL_isDay.cls 18 (some .boolean) h z 137 [(14, .int (nI 0 - nI 1)), (13, .int (nI 0)), (12, .int (-6)), (11, .int (-1)), (10, .int (nI t)), (9, .int (u 12)), (8, .int (u 14)), (7, .int (u 15)), (6, .int (u 11)), (5, .int (sumP q n)), (4, .int (u 8)), (3, .int (-6)), (2, .int ((u 6) + (nI 1))), (1, .int (nI n)), (0, .ref b)] []
      refine ex_iload 3 dL_isDay_137 rfl ?_
      refine ex_if_lt (tgt := 238) dL_isDay_139 (by decide) (fun c_139 => ?_) (fun c_139 => absurd (by decide) c_139)
      refine ex_lv (lv2 := [(13, .int (nI 0)), (12, .int (-6)), (11, .int (-1)), (10, .int (nI t)), (9, .int (u 12)), (8, .int (u 14)), (7, .int (u 15)), (6, .int (u 11)), (5, .int (sumP q n)), (4, .int (u 8)), (3, .int (-6)), (2, .int ((u 6) + (nI 1))), (1, .int (nI n)), (0, .ref b)]) [1, 2, 3, 4, 5, 6, 7, 8, 9, 10, 11, 12, 13, 14] rfl ?_
      have hX := X_pass_1 (R := R) hd1 (congrArg Prod.fst (hA_n hh))
      rw [show dayR (n, none, t, u, q) = none from congrArg Prod.snd (hA_n hh)] at hX
      exact e238n (u1 := upd u 6 (u 6 + nI 1)) (q1 := q) (t1 := t) (pv := nI 0) (hv := (-1)) (tv := nI t) hQ S wf ok1.m3 wf hX rfl rfl rfl rfl rfl rfl rfl (fun _ => (Int32.add_zero _).symm) (fun c => absurd (by decide) c) rfl (fun _ => rfl)
    · have hj : j < n := hand_lt tw hh
      show ex G l X Q 6 0 0 0 0 cL_isDay yL_isDay.cls 18 (some .boolean) h z 137 [(14, .int (nI 0 - nI 1)), (13, .int (nI 0)), (12, .int (-6)), (11, .int (nI j)), (10, .int (nI t)), (9, .int (u 12)), (8, .int (u 14)), (7, .int (u 15)), (6, .int (u 11)), (5, .int (sumP q n)), (4, .int (u 8)), (3, .int (-6)), (2, .int ((u 6) + (nI 1))), (1, .int (nI n)), (0, .ref b)] []
      refine ex_iload 3 dL_isDay_137 rfl ?_
      refine ex_if_lt (tgt := 238) dL_isDay_139 (by decide) (fun c_139 => absurd c_139 (nI_pos (by omega))) (fun c_139 => ?_)
      refine ex_aload_n 14 dL_isDay_142 rfl rfl ?_
      refine ex_iload 3 dL_isDay_143 rfl ?_
      refine ex_iconst (v := nI 5) dL_isDay_145 (by decide) ?_
      refine ex_per (j := j) (k := 5) (v := scI u q j + nI 1000) vl_L_14 S wf (by omega) (by decide) rfl (by decide) (Nat.le_of_ble_eq_true rfl) (Nat.le_refl _) (Nat.le_refl _) dL_isDay_146 (fun h S => ?_)
      refine ex_sipush (v := nI 1000) dL_isDay_149 (by decide) ?_
      refine ex_isub dL_isDay_152 ?_
      refine ex_topi (y := scI u q j) (Int32.add_sub_cancel _ _) ?_
      by_cases hs : scI u q j < u 0
      · refine ex_aload_n 14 dL_isDay_153 rfl rfl ?_
        refine ex_iconst (v := nI 0) dL_isDay_154 (by decide) ?_
        refine ex_cnt (k := 0) (v := u 0) vl_L_8 S wf (by decide) rfl (by decide) (Nat.le_of_ble_eq_true rfl) (Nat.le_refl _) (Nat.le_refl _) dL_isDay_155 (fun h S => ?_)
        refine ex_icmp_lt (tgt := 165) dL_isDay_158 (by decide) (fun c_158 => ?_) (fun c_158 => absurd (hs) c_158)
        refine ex_iconst (v := nI 0) dL_isDay_165 (by decide) ?_
        refine ex_istore (lv' := [(14, .int (nI 0)), (13, .int (nI 0)), (12, .int (-6)), (11, .int (nI j)), (10, .int (nI t)), (9, .int (u 12)), (8, .int (u 14)), (7, .int (u 15)), (6, .int (u 11)), (5, .int (sumP q n)), (4, .int (u 8)), (3, .int (-6)), (2, .int ((u 6) + (nI 1))), (1, .int (nI n)), (0, .ref b)]) dL_isDay_166 (by decide) rfl ?_
        refine ex_iload 0 dL_isDay_168 rfl ?_
        refine ex_if_eq (tgt := 178) dL_isDay_170 (by decide) (fun c_170 => ?_) (fun c_170 => absurd (by decide) c_170)
        refine ex_bipush (v := (-6)) dL_isDay_178 (by decide) ?_
        refine ex_istore (lv' := [(12, .int (-6)), (14, .int (nI 0)), (13, .int (nI 0)), (11, .int (nI j)), (10, .int (nI t)), (9, .int (u 12)), (8, .int (u 14)), (7, .int (u 15)), (6, .int (u 11)), (5, .int (sumP q n)), (4, .int (u 8)), (3, .int (-6)), (2, .int ((u 6) + (nI 1))), (1, .int (nI n)), (0, .ref b)]) dL_isDay_180 (by decide) rfl ?_
        refine ex_iload 1 dL_isDay_182 rfl ?_
        refine ex_if_eq (tgt := 191) dL_isDay_184 (by decide) (fun c_184 => ?_) (fun c_184 => absurd (by decide) c_184)
        refine ex_iconst (v := nI 0) dL_isDay_191 (by decide) ?_
        refine ex_istore (lv' := [(13, .int (nI 0)), (12, .int (-6)), (14, .int (nI 0)), (11, .int (nI j)), (10, .int (nI t)), (9, .int (u 12)), (8, .int (u 14)), (7, .int (u 15)), (6, .int (u 11)), (5, .int (sumP q n)), (4, .int (u 8)), (3, .int (-6)), (2, .int ((u 6) + (nI 1))), (1, .int (nI n)), (0, .ref b)]) dL_isDay_192 (by decide) rfl ?_
        refine ex_iload 2 dL_isDay_194 rfl ?_
        refine ex_if_eq (tgt := 204) dL_isDay_196 (by decide) (fun c_196 => ?_) (fun c_196 => absurd (by decide) c_196)
        refine ex_iload 10 dL_isDay_204 rfl ?_
        refine ex_iconst (v := nI 3) dL_isDay_206 (by decide) ?_
        refine ex_icmp_ge (tgt := 214) dL_isDay_207 (by decide) (fun c_207 => ?_) (fun c_207 => ?_)
        · refine ex_iload 10 dL_isDay_214 rfl ?_
          refine ex_iconst (v := nI 3) dL_isDay_216 (by decide) ?_
          refine ex_isub dL_isDay_217 ?_
          refine ex_topi (y := mxI (nI 0) (u 8 - nI 3)) ((mx3b ok1.m8 (Int32.not_lt.mpr c_207)).symm) ?_
          refine ex_istore (lv' := [(4, .int (mxI (nI 0) (u 8 - nI 3))), (13, .int (nI 0)), (12, .int (-6)), (14, .int (nI 0)), (11, .int (nI j)), (10, .int (nI t)), (9, .int (u 12)), (8, .int (u 14)), (7, .int (u 15)), (6, .int (u 11)), (5, .int (sumP q n)), (3, .int (-6)), (2, .int ((u 6) + (nI 1))), (1, .int (nI n)), (0, .ref b)]) dL_isDay_218 (by decide) rfl ?_
          refine ex_iload 3 dL_isDay_220 rfl ?_
          refine ex_if_eq (tgt := 230) dL_isDay_222 (by decide) (fun c_222 => ?_) (fun c_222 => absurd (by decide) c_222)
          refine ex_iload 4 dL_isDay_230 rfl ?_
          refine ex_iconst (v := nI 1) dL_isDay_232 (by decide) ?_
          refine ex_iaddN dL_isDay_233 ?_
          refine ex_iload_n 13 dL_isDay_234 rfl rfl ?_
          refine ex_irem dL_isDay_235 (fun q9 => absurd ((nI_eq (b := 0) (by omega) (by omega)).mp q9) (by omega)) ?_
          refine ex_topi (y := nI (bh n j)) ((nI_modB (by omega) (by omega) (by omega)).trans (congrArg nI (bh_1 hj))) ?_
          refine ex_istore (lv' := [(10, .int (nI (bh n j))), (4, .int (mxI (nI 0) (u 8 - nI 3))), (13, .int (nI 0)), (12, .int (-6)), (14, .int (nI 0)), (11, .int (nI j)), (9, .int (u 12)), (8, .int (u 14)), (7, .int (u 15)), (6, .int (u 11)), (5, .int (sumP q n)), (3, .int (-6)), (2, .int ((u 6) + (nI 1))), (1, .int (nI n)), (0, .ref b)]) dL_isDay_236 (by decide) rfl ?_
          refine ex_lv (lv2 := [(13, .int (nI 0)), (12, .int (-6)), (11, .int (nI j)), (10, .int (nI (bh n j))), (9, .int (u 12)), (8, .int (u 14)), (7, .int (u 15)), (6, .int (u 11)), (5, .int (sumP q n)), (4, .int (mxI (nI 0) (u 8 - nI 3))), (3, .int (-6)), (2, .int ((u 6) + (nI 1))), (1, .int (nI n)), (0, .ref b)]) [2, 3, 5, 0, 6, 7, 8, 9, 10, 1, 11, 12, 13, 14] rfl ?_
          have hX := X_pass_1 (R := R) hd1 (congrArg Prod.fst (hA_l hh hs))
          rw [show dayR (n, none, t, u, q) = none from congrArg Prod.snd (hA_l hh hs)] at hX
          exact e238n (u1 := upd (upd (upd u 6 (u 6 + nI 1)) 12 (u 12 + nI 1)) 8 (mxI (nI 0) (u 8 - nI 3))) (q1 := uq q j 2 (q j 2 + nI 1)) (t1 := bh n j) (pv := nI 0) (hv := nI j) (tv := nI (bh n j)) hQ S wf ok1.m3 ⟨n8, fun i h => (by cases h), Or.inl (bh_lt (by omega))⟩ hX rfl rfl rfl rfl rfl rfl rfl (fun q9 => q9.elim (fun c => absurd c (nI_pos (by omega))) (fun c => absurd rfl c)) (fun _ _ => rfl) (sF_uqk (by decide) n) (fun _ => rfl)
        · refine ex_iconst (v := nI 0) dL_isDay_210 (by decide) ?_
          refine ex_goto (tgt := 218) dL_isDay_211 (by decide) ?_
          refine ex_topi (y := mxI (nI 0) (u 8 - nI 3)) ((mx3a ok1.m8 (Int32.not_le.mp c_207)).symm) ?_
          refine ex_istore (lv' := [(4, .int (mxI (nI 0) (u 8 - nI 3))), (13, .int (nI 0)), (12, .int (-6)), (14, .int (nI 0)), (11, .int (nI j)), (10, .int (nI t)), (9, .int (u 12)), (8, .int (u 14)), (7, .int (u 15)), (6, .int (u 11)), (5, .int (sumP q n)), (3, .int (-6)), (2, .int ((u 6) + (nI 1))), (1, .int (nI n)), (0, .ref b)]) dL_isDay_218 (by decide) rfl ?_
          refine ex_iload 3 dL_isDay_220 rfl ?_
          refine ex_if_eq (tgt := 230) dL_isDay_222 (by decide) (fun c_222 => ?_) (fun c_222 => absurd (by decide) c_222)
          refine ex_iload 4 dL_isDay_230 rfl ?_
          refine ex_iconst (v := nI 1) dL_isDay_232 (by decide) ?_
          refine ex_iaddN dL_isDay_233 ?_
          refine ex_iload_n 13 dL_isDay_234 rfl rfl ?_
          refine ex_irem dL_isDay_235 (fun q9 => absurd ((nI_eq (b := 0) (by omega) (by omega)).mp q9) (by omega)) ?_
          refine ex_topi (y := nI (bh n j)) ((nI_modB (by omega) (by omega) (by omega)).trans (congrArg nI (bh_1 hj))) ?_
          refine ex_istore (lv' := [(10, .int (nI (bh n j))), (4, .int (mxI (nI 0) (u 8 - nI 3))), (13, .int (nI 0)), (12, .int (-6)), (14, .int (nI 0)), (11, .int (nI j)), (9, .int (u 12)), (8, .int (u 14)), (7, .int (u 15)), (6, .int (u 11)), (5, .int (sumP q n)), (3, .int (-6)), (2, .int ((u 6) + (nI 1))), (1, .int (nI n)), (0, .ref b)]) dL_isDay_236 (by decide) rfl ?_
          refine ex_lv (lv2 := [(13, .int (nI 0)), (12, .int (-6)), (11, .int (nI j)), (10, .int (nI (bh n j))), (9, .int (u 12)), (8, .int (u 14)), (7, .int (u 15)), (6, .int (u 11)), (5, .int (sumP q n)), (4, .int (mxI (nI 0) (u 8 - nI 3))), (3, .int (-6)), (2, .int ((u 6) + (nI 1))), (1, .int (nI n)), (0, .ref b)]) [2, 3, 5, 0, 6, 7, 8, 9, 10, 1, 11, 12, 13, 14] rfl ?_
          have hX := X_pass_1 (R := R) hd1 (congrArg Prod.fst (hA_l hh hs))
          rw [show dayR (n, none, t, u, q) = none from congrArg Prod.snd (hA_l hh hs)] at hX
          exact e238n (u1 := upd (upd (upd u 6 (u 6 + nI 1)) 12 (u 12 + nI 1)) 8 (mxI (nI 0) (u 8 - nI 3))) (q1 := uq q j 2 (q j 2 + nI 1)) (t1 := bh n j) (pv := nI 0) (hv := nI j) (tv := nI (bh n j)) hQ S wf ok1.m3 ⟨n8, fun i h => (by cases h), Or.inl (bh_lt (by omega))⟩ hX rfl rfl rfl rfl rfl rfl rfl (fun q9 => q9.elim (fun c => absurd c (nI_pos (by omega))) (fun c => absurd rfl c)) (fun _ _ => rfl) (sF_uqk (by decide) n) (fun _ => rfl)
      · refine ex_aload_n 14 dL_isDay_153 rfl rfl ?_
        refine ex_iconst (v := nI 0) dL_isDay_154 (by decide) ?_
        refine ex_cnt (k := 0) (v := u 0) vl_L_8 S wf (by decide) rfl (by decide) (Nat.le_of_ble_eq_true rfl) (Nat.le_refl _) (Nat.le_refl _) dL_isDay_155 (fun h S => ?_)
        refine ex_icmp_lt (tgt := 165) dL_isDay_158 (by decide) (fun c_158 => absurd c_158 (hs)) (fun c_158 => ?_)
        refine ex_iconst (v := nI 1) dL_isDay_161 (by decide) ?_
        refine ex_goto (tgt := 166) dL_isDay_162 (by decide) ?_
        refine ex_istore (lv' := [(14, .int (nI 1)), (13, .int (nI 0)), (12, .int (-6)), (11, .int (nI j)), (10, .int (nI t)), (9, .int (u 12)), (8, .int (u 14)), (7, .int (u 15)), (6, .int (u 11)), (5, .int (sumP q n)), (4, .int (u 8)), (3, .int (-6)), (2, .int ((u 6) + (nI 1))), (1, .int (nI n)), (0, .ref b)]) dL_isDay_166 (by decide) rfl ?_
        refine ex_iload 0 dL_isDay_168 rfl ?_
        refine ex_if_eq (tgt := 178) dL_isDay_170 (by decide) (fun c_170 => absurd c_170 (by decide)) (fun c_170 => ?_)
        refine ex_iload 3 dL_isDay_173 rfl ?_
        refine ex_goto (tgt := 180) dL_isDay_175 (by decide) ?_
        refine ex_istore (lv' := [(12, .int (nI j)), (14, .int (nI 1)), (13, .int (nI 0)), (11, .int (nI j)), (10, .int (nI t)), (9, .int (u 12)), (8, .int (u 14)), (7, .int (u 15)), (6, .int (u 11)), (5, .int (sumP q n)), (4, .int (u 8)), (3, .int (-6)), (2, .int ((u 6) + (nI 1))), (1, .int (nI n)), (0, .ref b)]) dL_isDay_180 (by decide) rfl ?_
        refine ex_iload 1 dL_isDay_182 rfl ?_
        refine ex_if_eq (tgt := 191) dL_isDay_184 (by decide) (fun c_184 => absurd c_184 (by decide)) (fun c_184 => ?_)
        refine ex_iconst (v := nI 1) dL_isDay_187 (by decide) ?_
        refine ex_goto (tgt := 192) dL_isDay_188 (by decide) ?_
        refine ex_istore (lv' := [(13, .int (nI 1)), (12, .int (nI j)), (14, .int (nI 1)), (11, .int (nI j)), (10, .int (nI t)), (9, .int (u 12)), (8, .int (u 14)), (7, .int (u 15)), (6, .int (u 11)), (5, .int (sumP q n)), (4, .int (u 8)), (3, .int (-6)), (2, .int ((u 6) + (nI 1))), (1, .int (nI n)), (0, .ref b)]) dL_isDay_192 (by decide) rfl ?_
        refine ex_iload 2 dL_isDay_194 rfl ?_
        refine ex_if_eq (tgt := 204) dL_isDay_196 (by decide) (fun c_196 => absurd c_196 (by decide)) (fun c_196 => ?_)
        refine ex_iload 10 dL_isDay_199 rfl ?_
        refine ex_goto (tgt := 218) dL_isDay_201 (by decide) ?_
        refine ex_istore (lv' := [(4, .int (u 8)), (13, .int (nI 1)), (12, .int (nI j)), (14, .int (nI 1)), (11, .int (nI j)), (10, .int (nI t)), (9, .int (u 12)), (8, .int (u 14)), (7, .int (u 15)), (6, .int (u 11)), (5, .int (sumP q n)), (3, .int (-6)), (2, .int ((u 6) + (nI 1))), (1, .int (nI n)), (0, .ref b)]) dL_isDay_218 (by decide) rfl ?_
        refine ex_iload 3 dL_isDay_220 rfl ?_
        refine ex_if_eq (tgt := 230) dL_isDay_222 (by decide) (fun c_222 => absurd c_222 (by decide)) (fun c_222 => ?_)
        refine ex_iload 5 dL_isDay_225 rfl ?_
        refine ex_goto (tgt := 236) dL_isDay_227 (by decide) ?_
        refine ex_istore (lv' := [(10, .int (nI t)), (4, .int (u 8)), (13, .int (nI 1)), (12, .int (nI j)), (14, .int (nI 1)), (11, .int (nI j)), (9, .int (u 12)), (8, .int (u 14)), (7, .int (u 15)), (6, .int (u 11)), (5, .int (sumP q n)), (3, .int (-6)), (2, .int ((u 6) + (nI 1))), (1, .int (nI n)), (0, .ref b)]) dL_isDay_236 (by decide) rfl ?_
        refine ex_lv (lv2 := [(13, .int (nI 1)), (12, .int (nI j)), (11, .int (nI j)), (10, .int (nI t)), (9, .int (u 12)), (8, .int (u 14)), (7, .int (u 15)), (6, .int (u 11)), (5, .int (sumP q n)), (4, .int (u 8)), (3, .int (-6)), (2, .int ((u 6) + (nI 1))), (1, .int (nI n)), (0, .ref b)]) [2, 3, 5, 0, 6, 7, 8, 9, 10, 1, 11, 12, 13, 14] rfl ?_
        have hX := X_pass_1 (R := R) hd1 (congrArg Prod.fst (hA_w hh hs))
        rw [show dayR (n, none, t, u, q) = some j from congrArg Prod.snd (hA_w hh hs)] at hX
        exact e238s (j := j) (u1 := upd (upd u 6 (u 6 + nI 1)) 13 (u 13 + nI 1)) (q1 := uq q j 4 (q j 4 + nI 1)) (t1 := t) (pv := nI 1) (hv := nI j) (tv := nI t) hQ S wf ok1.m3 ⟨n8, fun i h => (by cases h; exact hj), tw⟩ hX rfl rfl rfl rfl rfl rfl rfl (fun _ => (Int32.add_zero _).symm) (fun _ c => absurd c (by decide)) (sF_uqk (by decide) n) (uq_k (by decide))
  | succ k ih =>
    intro h hk S
    rw [nI_sub (show 1 ≤ k + 1 by omega), Nat.add_sub_cancel]
    refine ex_iload 0 dL_isDay_93 rfl ?_
    refine ex_if_lt (tgt := 137) dL_isDay_95 (by decide) (fun c_95 => absurd c_95 (nI_pos (by omega))) (fun c_95 => ?_)
    refine ex_iload_n 11 dL_isDay_98 rfl rfl ?_
    refine ex_if_ge (tgt := 137) dL_isDay_99 (by decide) (fun c_99 => absurd c_99 (by decide)) (fun c_99 => ?_)
    refine ex_aload_n 14 dL_isDay_102 rfl rfl ?_
    refine ex_iload 4 dL_isDay_103 rfl ?_
    refine ex_iload 0 dL_isDay_105 rfl ?_
    refine ex_iaddN dL_isDay_107 ?_
    refine ex_iload_n 13 dL_isDay_108 rfl rfl ?_
    refine ex_irem dL_isDay_109 (fun q9 => absurd ((nI_eq (b := 0) (by omega) (by omega)).mp q9) (by omega)) ?_
    refine ex_topi (y := nI ((t + k) % n)) (nI_modB (by omega) (by omega) (by omega)) ?_
    refine ex_iconst (v := nI 4) dL_isDay_110 (by decide) ?_
    refine ex_per (j := (t + k) % n) (k := 4) (v := bB u q ((t + k) % n)) vl_L_14 S wf (Nat.mod_lt _ (by omega)) (by decide) rfl (by decide) (Nat.le_of_ble_eq_true rfl) (Nat.le_refl _) (Nat.le_refl _) dL_isDay_111 (fun h S => ?_)
    refine ex_if_ne (tgt := 127) dL_isDay_114 (by decide) (fun c_114 => ?_) (fun c_114 => ?_)
    · refine ex_iload 3 dL_isDay_127 rfl ?_
      refine ex_istore (lv' := [(11, .int (mg (hF n t u q (k + 1)))), (14, .int (nI k)), (13, .int (nI 0)), (12, .int (-6)), (10, .int (nI t)), (9, .int (u 12)), (8, .int (u 14)), (7, .int (u 15)), (6, .int (u 11)), (5, .int (sumP q n)), (4, .int (u 8)), (3, .int (-6)), (2, .int ((u 6) + (nI 1))), (1, .int (nI n)), (0, .ref b)]) dL_isDay_129 (by decide) rfl ?_
      refine ex_iinc (v := nI k - nI 1) (lv' := [(14, .int (nI k - nI 1)), (11, .int (mg (hF n t u q (k + 1)))), (13, .int (nI 0)), (12, .int (-6)), (10, .int (nI t)), (9, .int (u 12)), (8, .int (u 14)), (7, .int (u 15)), (6, .int (u 11)), (5, .int (sumP q n)), (4, .int (u 8)), (3, .int (-6)), (2, .int ((u 6) + (nI 1))), (1, .int (nI n)), (0, .ref b)]) 1 dL_isDay_131 rfl iinc_m1 (by decide) rfl ?_
      refine ex_goto (tgt := 93) dL_isDay_134 (by decide) ?_
      have e2 := ih h (by omega) S
      rw [← hF_f (by omega) (bB_1 c_114)] at e2
      refine ex_lv (lv2 := [(14, .int (nI k - nI 1)), (13, .int (nI 0)), (12, .int (-6)), (11, .int (mg (hF n t u q (k + 1)))), (10, .int (nI t)), (9, .int (u 12)), (8, .int (u 14)), (7, .int (u 15)), (6, .int (u 11)), (5, .int (sumP q n)), (4, .int (u 8)), (3, .int (-6)), (2, .int ((u 6) + (nI 1))), (1, .int (nI n)), (0, .ref b)]) [0, 2, 3, 1, 4, 5, 6, 7, 8, 9, 10, 11, 12, 13, 14] rfl ?_
      exact e2
    · refine ex_iload 4 dL_isDay_117 rfl ?_
      refine ex_iload 0 dL_isDay_119 rfl ?_
      refine ex_iaddN dL_isDay_121 ?_
      refine ex_iload_n 13 dL_isDay_122 rfl rfl ?_
      refine ex_irem dL_isDay_123 (fun q9 => absurd ((nI_eq (b := 0) (by omega) (by omega)).mp q9) (by omega)) ?_
      refine ex_topi (y := nI ((t + k) % n)) (nI_modB (by omega) (by omega) (by omega)) ?_
      refine ex_goto (tgt := 129) dL_isDay_124 (by decide) ?_
      refine ex_istore (lv' := [(11, .int (nI ((t + k) % n))), (14, .int (nI k)), (13, .int (nI 0)), (12, .int (-6)), (10, .int (nI t)), (9, .int (u 12)), (8, .int (u 14)), (7, .int (u 15)), (6, .int (u 11)), (5, .int (sumP q n)), (4, .int (u 8)), (3, .int (-6)), (2, .int ((u 6) + (nI 1))), (1, .int (nI n)), (0, .ref b)]) dL_isDay_129 (by decide) rfl ?_
      refine ex_iinc (v := nI k - nI 1) (lv' := [(14, .int (nI k - nI 1)), (11, .int (nI ((t + k) % n))), (13, .int (nI 0)), (12, .int (-6)), (10, .int (nI t)), (9, .int (u 12)), (8, .int (u 14)), (7, .int (u 15)), (6, .int (u 11)), (5, .int (sumP q n)), (4, .int (u 8)), (3, .int (-6)), (2, .int ((u 6) + (nI 1))), (1, .int (nI n)), (0, .ref b)]) 1 dL_isDay_131 rfl iinc_m1 (by decide) rfl ?_
      refine ex_goto (tgt := 93) dL_isDay_134 (by decide) ?_
      have e2 := ih h (by omega) S
      rw [hF_t (by omega) (bB_0 c_114)] at e2
      refine ex_lv (lv2 := [(14, .int (nI k - nI 1)), (13, .int (nI 0)), (12, .int (-6)), (11, .int (nI ((t + k) % n))), (10, .int (nI t)), (9, .int (u 12)), (8, .int (u 14)), (7, .int (u 15)), (6, .int (u 11)), (5, .int (sumP q n)), (4, .int (u 8)), (3, .int (-6)), (2, .int ((u 6) + (nI 1))), (1, .int (nI n)), (0, .ref b)]) [0, 2, 3, 1, 4, 5, 6, 7, 8, 9, 10, 11, 12, 13, 14] rfl ?_
      exact e2

theorem c_isDay {G : GG} {l : Launch} {h0 : HP} {z b K : Nat} {x : CX} (S0 : PP G h0 z b x) (ok : iv K x.1) (hK : K < 2 ^ 23) (hd : ¬ nI 9800 < x.1.2.2.2.1 6) : Ct G l 6 0 0 yL_isDay cL_isDay 18 (some .boolean) [.ref b] h0 z (pL G b z (X_pass x (nI 1)).2) := by
  obtain ⟨⟨n, _ | i, t, u, q⟩, R⟩ := x
  · exact c_isDayN S0 ok hK hd
  · exact c_isDayS S0 ok hK hd

