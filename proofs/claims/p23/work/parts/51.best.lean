set_option maxRecDepth 20000 in
set_option maxHeartbeats 2000000 in
theorem c_isBestA {G : GG} {l : Launch} {h0 : HP} {z b : Nat} {n : Nat} {t : Nat} {u : Nat → Int32} {q : Nat → Nat → Int32} {R : RX} {K : Nat} {g : Option Nat} {p : Nat} (hp : p < n) (hV : nV R) (S0 : PP G h0 z b ((n, g, t, u, q), R)) (ok : iv K (n, g, t, u, q)) (hK : K < 2 ^ 23) (hd : ¬ nI 9800 < u 6) : Ct G l 7 88 600 yL_isBest cL_isBest 15 (some .boolean) [.ref b, .int (nI p)] h0 z (pBt G b z (n, g, t, u, q)) := by
  refine Ct.intro (lv := [(0, .ref b), (1, .int (nI p))]) (by decide +kernel) (Nat.le_of_ble_eq_true rfl) rfl (fun X Q hQ hnm => ?_)
  have S := S0
  have wf : wfA (n, g, t, u, q) := ok.1.1
  have n8 : n ≤ 8 := wf.1
  have tw : t < n ∨ t = 0 := wf.2.2
  have ok1 := ok.1
  have ow := ok.2
  refine ex_aload_n 0 dL_isBest_0 rfl rfl ?_
  refine ex_bipush (v := nI 7) dL_isBest_1 (by decide) ?_
  refine ex_cnt (k := 7) (v := nI n) vl_L_8 S wf (by decide) rfl (by decide) (Nat.le_of_ble_eq_true rfl) (by omega) (by omega) dL_isBest_3 (fun h S => ?_)
  refine ex_istore_n (lv' := [(2, .int (nI n)), (0, .ref b), (1, .int (nI p))]) dL_isBest_6 rfl (by decide) rfl ?_
  refine ex_aload_n 1 dL_isBest_7 rfl rfl ?_
  refine ex_iload_n 2 dL_isBest_8 rfl rfl ?_
  refine ex_iconst (v := nI 0) dL_isBest_9 (by decide) ?_
  refine ex_ch (As := [.int (nI p), .int (nI 0)]) (v := nI ((bpG (n, g, t, u, q) p n 0 0 (-1)).1)) (x2 := ((n, g, t, u, q), R)) vl_L_34 rfl S (c_bestX S wf ok1.m3) ((by rw [X_best_0 hp n8])) rfl (by decide) (Nat.le_of_ble_eq_true rfl) (by omega) (by omega) rfl dL_isBest_10 (fun h S => ?_)
  refine ex_istore_n (lv' := [(3, .int (nI ((bpG (n, g, t, u, q) p n 0 0 (-1)).1))), (2, .int (nI n)), (0, .ref b), (1, .int (nI p))]) dL_isBest_13 rfl (by decide) rfl ?_
  refine ex_aload_n 2 dL_isBest_14 rfl rfl ?_
  refine ex_iload_n 3 dL_isBest_15 rfl rfl ?_
  refine ex_iconst (v := nI 1) dL_isBest_16 (by decide) ?_
  refine ex_ch (As := [.int (nI p), .int (nI 1)]) (v := (bpG (n, g, t, u, q) p n 0 0 (-1)).2) (x2 := ((n, g, t, u, q), R)) vl_L_34 rfl S (c_bestX S wf ok1.m3) ((by rw [X_best_1 hp n8])) rfl (by decide) (Nat.le_of_ble_eq_true rfl) (by omega) (by omega) rfl dL_isBest_17 (fun h S => ?_)
  refine ex_istore (lv' := [(4, .int ((bpG (n, g, t, u, q) p n 0 0 (-1)).2)), (3, .int (nI ((bpG (n, g, t, u, q) p n 0 0 (-1)).1))), (2, .int (nI n)), (0, .ref b), (1, .int (nI p))]) dL_isBest_20 (by decide) rfl ?_
  refine ex_iconst (v := nI 0) dL_isBest_22 (by decide) ?_
  refine ex_istore (lv' := [(5, .int (nI 0)), (4, .int ((bpG (n, g, t, u, q) p n 0 0 (-1)).2)), (3, .int (nI ((bpG (n, g, t, u, q) p n 0 0 (-1)).1))), (2, .int (nI n)), (0, .ref b), (1, .int (nI p))]) dL_isBest_23 (by decide) rfl ?_
  refine ex_iconst (v := (-1)) dL_isBest_25 (by decide) ?_
  refine ex_istore (lv' := [(6, .int (-1)), (5, .int (nI 0)), (4, .int ((bpG (n, g, t, u, q) p n 0 0 (-1)).2)), (3, .int (nI ((bpG (n, g, t, u, q) p n 0 0 (-1)).1))), (2, .int (nI n)), (0, .ref b), (1, .int (nI p))]) dL_isBest_26 (by decide) rfl ?_
  refine ex_iconst (v := nI 0) dL_isBest_28 (by decide) ?_
  refine ex_istore (lv' := [(7, .int (nI 0)), (6, .int (-1)), (5, .int (nI 0)), (4, .int ((bpG (n, g, t, u, q) p n 0 0 (-1)).2)), (3, .int (nI ((bpG (n, g, t, u, q) p n 0 0 (-1)).1))), (2, .int (nI n)), (0, .ref b), (1, .int (nI p))]) dL_isBest_29 (by decide) rfl ?_
  suffices H : ∀ (k2 m best : Nat) (most : Int32) (R : RX) (h : HP) (z1 : Nat), m + k2 = n → z ≤ z1 → PP G h z1 b ((n, g, t, u, q), R) → nV R → bpG (n, g, t, u, q) p k2 m best most = bpG (n, g, t, u, q) p n 0 0 (-1) → ex G l X Q 7 88 600 (11 * m) (75 * m) cL_isBest yL_isBest.cls 15 (some .boolean) h z1 31 [(7, .int (nI m)), (6, .int most), (5, .int (nI best)), (4, .int ((bpG (n, g, t, u, q) p n 0 0 (-1)).2)), (3, .int (nI ((bpG (n, g, t, u, q) p n 0 0 (-1)).1))), (2, .int (nI n)), (1, .int (nI p)), (0, .ref b)] [] from by
    have e2 := H n 0 0 (-1) R h z (by omega) (Nat.le_refl _) S hV rfl
    refine ex_lv (lv2 := [(7, .int (nI 0)), (6, .int (-1)), (5, .int (nI 0)), (4, .int ((bpG (n, g, t, u, q) p n 0 0 (-1)).2)), (3, .int (nI ((bpG (n, g, t, u, q) p n 0 0 (-1)).1))), (2, .int (nI n)), (1, .int (nI p)), (0, .ref b)]) [0, 1, 2, 3, 4, 5, 7, 6] rfl ?_
    exact e2
  intro k2
  induction k2 with
  | zero =>
    intro m best most R h z1 hm hz S hV hh
    refine ex_iload 0 dL_isBest_31 rfl ?_
    refine ex_iload_n 5 dL_isBest_33 rfl rfl ?_
    refine ex_icmp_ge (tgt := 189) dL_isBest_34 (by decide) (fun c_34 => ?_) (fun c_34 => absurd ((nI_leI (by omega) (by omega)).mpr (by omega)) c_34)
    refine ex_iload_n 4 dL_isBest_189 rfl rfl ?_
    refine ex_iload 2 dL_isBest_190 rfl ?_
    refine ex_icmp_ne (tgt := 206) dL_isBest_192 (by decide) (fun c_192 => absurd (by rw [← hh]; rfl) c_192) (fun c_192 => ?_)
    refine ex_iload 3 dL_isBest_195 rfl ?_
    refine ex_iload 1 dL_isBest_197 rfl ?_
    refine ex_icmp_ne (tgt := 206) dL_isBest_199 (by decide) (fun c_199 => absurd (by rw [← hh]; rfl) c_199) (fun c_199 => ?_)
    refine ex_iconst (v := nI 1) dL_isBest_202 (by decide) ?_
    refine ex_goto (tgt := 207) dL_isBest_203 (by decide) ?_
    refine ex_widen (c2 := 88) (s2 := 600) (by omega) (by omega) ?_
    exact ex_zret hQ rfl (by decide) ⟨rfl, hz, R, S, hV⟩ dL_isBest_207
  | succ k2 ih =>
    intro m best most R h z0 hm hz S hV hh
    have hmn : m < n := by omega
    rw [bpG] at hh
    have okM : iv K (moveA (n, g, t, u, q) p m) := moveA_iv ok hp hmn
    have wfM : wfA (moveA (n, g, t, u, q) p m) := okM.1.1
    have hM1 : (moveA (n, g, t, u, q) p m).1 = n := rfl
    have m3M : 0 < (moveA (n, g, t, u, q) p m).2.2.2.1 3 := okM.1.m3
    obtain ⟨B6, hB6⟩ : ∃ B, B = itA 60 (moveA (n, g, t, u, q) p m) := ⟨_, rfl⟩
    obtain ⟨B4, hB4⟩ : ∃ B, B = itA 40 B6 := ⟨_, rfl⟩
    have ok6 : iv (K + 3 * 60) B6 := by rw [hB6]; exact itA_iv okM 60 (by omega)
    have wf6 : wfA (B6) := ok6.1.1
    have m36 : 0 < (B6).2.2.2.1 3 := ok6.1.m3
    have h61 : B6.1 = n := by rw [hB6]; exact itA_1 60
    have wf4 : wfA B4 := by rw [hB4]; exact itA_wf wf6 40
    have h41 : B4.1 = n := by rw [hB4]; exact (itA_1 40).trans h61
    have hd60 : ¬ nI 9999 < (moveA (n, g, t, u, q) p m).2.2.2.1 6 + nI 60 := d_ok okM hK hd (k := 60) (by omega)
    have hd40 : ¬ nI 9999 < B6.2.2.2.1 6 + nI 40 := by rw [hB6, it6 60, Int32.add_assoc, nI_add]; exact d_ok okM hK hd (k := 100) (by omega)
    have hV4 : nV ((recX (B6, (recX (moveA (n, g, t, u, q) p m, (recX ((n, g, t, u, q), (sv (n, g, t, u, q) R)) A0).2) A0).2) A0).2) := nV_sv hV n8
    have hp60 := pcN_le (A := moveA (n, g, t, u, q) p m) 60
    have hp40 := pcN_le (A := B6) 40
    refine ex_iload 0 dL_isBest_31 rfl ?_
    refine ex_iload_n 5 dL_isBest_33 rfl rfl ?_
    refine ex_icmp_ge (tgt := 189) dL_isBest_34 (by decide) (fun c_34 => absurd c_34 (fun q9 => absurd ((nI_leI (by omega) (by omega)).mp q9) (by omega))) (fun c_34 => ?_)
    refine ex_aload_n 7 dL_isBest_37 rfl rfl ?_
    refine ex_iconst (v := nI 0) dL_isBest_38 (by decide) ?_
    refine ex_callV (As := [.int (nI 0)]) (ci := 4) vl_L_37 rfl (c_saveX S n8) S.ob rfl (by decide) (Nat.le_of_ble_eq_true rfl) (by omega) (by omega) rfl dL_isBest_39 (fun r1 h1 z1 hp1 => ?_)
    obtain ⟨e1, ez, -, S1⟩ := hp1
    rw [X_save_0] at e1 S1
    subst e1
    have S : PP G h1 z1 b ((n, g, t, u, q), sv (n, g, t, u, q) R) := S1.1
    clear S1
    refine ex_istore (lv' := [(8, .int (u 6)), (7, .int (nI m)), (6, .int most), (5, .int (nI best)), (4, .int ((bpG (n, g, t, u, q) p n 0 0 (-1)).2)), (3, .int (nI ((bpG (n, g, t, u, q) p n 0 0 (-1)).1))), (2, .int (nI n)), (1, .int (nI p)), (0, .ref b)]) dL_isBest_42 (by decide) rfl ?_
    refine ex_aload_n 8 dL_isBest_44 rfl rfl ?_
    refine ex_iload_n 7 dL_isBest_45 rfl rfl ?_
    refine ex_iload 1 dL_isBest_46 rfl ?_
    refine ex_ch (As := [.int (nI p), .int (nI m)]) (v := nI (if p = m then 0 else (if p < m then m - p else p - m) + 1)) (x2 := (moveA (n, g, t, u, q) p m, (recX ((n, g, t, u, q), (sv (n, g, t, u, q) R)) A0).2)) vl_L_40 rfl S (c_move S n8 wf.2.1 wf.2.2) (X_move_k hp hmn n8) rfl (by decide) (Nat.le_of_ble_eq_true rfl) (by omega) (by omega) rfl dL_isBest_48 (fun h S => ?_)
    refine ex_istore (lv' := [(9, .int (nI (if p = m then 0 else (if p < m then m - p else p - m) + 1))), (8, .int (u 6)), (7, .int (nI m)), (6, .int most), (5, .int (nI best)), (4, .int ((bpG (n, g, t, u, q) p n 0 0 (-1)).2)), (3, .int (nI ((bpG (n, g, t, u, q) p n 0 0 (-1)).1))), (2, .int (nI n)), (1, .int (nI p)), (0, .ref b)]) dL_isBest_51 (by decide) rfl ?_
    refine ex_aload_n 9 dL_isBest_53 rfl rfl ?_
    refine ex_iload 2 dL_isBest_54 rfl ?_
    refine ex_bipush (v := nI 7) dL_isBest_56 (by decide) ?_
    refine ex_per (j := m) (k := 7) (v := (moveA (n, g, t, u, q) p m).2.2.2.2 m 5) vl_L_14 S wfM hmn (by decide) rfl (by decide) (Nat.le_of_ble_eq_true rfl) (by omega) (by omega) dL_isBest_58 (fun h S => ?_)
    refine ex_istore (lv' := [(10, .int ((moveA (n, g, t, u, q) p m).2.2.2.2 m 5)), (9, .int (nI (if p = m then 0 else (if p < m then m - p else p - m) + 1))), (8, .int (u 6)), (7, .int (nI m)), (6, .int most), (5, .int (nI best)), (4, .int ((bpG (n, g, t, u, q) p n 0 0 (-1)).2)), (3, .int (nI ((bpG (n, g, t, u, q) p n 0 0 (-1)).1))), (2, .int (nI n)), (1, .int (nI p)), (0, .ref b)]) dL_isBest_61 (by decide) rfl ?_
    refine ex_aload_n 10 dL_isBest_63 rfl rfl ?_
    refine ex_bipush (v := nI 60) dL_isBest_64 (by decide) ?_
    refine ex_ch (As := [.int (nI 60)]) (v := nI (pcN (moveA (n, g, t, u, q) p m) 60)) (x2 := (B6, (recX (moveA (n, g, t, u, q) p m, (recX ((n, g, t, u, q), (sv (n, g, t, u, q) R)) A0).2) A0).2)) vl_L_18 rfl S (c_passX S wfM m3M) (pass_ofB (x := (moveA (n, g, t, u, q) p m, (recX ((n, g, t, u, q), (sv (n, g, t, u, q) R)) A0).2)) hB6 (by omega) (by omega) hd60) rfl (by decide) (Nat.le_of_ble_eq_true rfl) (by omega) (by omega) rfl dL_isBest_66 (fun h S => ?_)
    refine ex_istore (lv' := [(11, .int (nI (pcN (moveA (n, g, t, u, q) p m) 60))), (10, .int ((moveA (n, g, t, u, q) p m).2.2.2.2 m 5)), (9, .int (nI (if p = m then 0 else (if p < m then m - p else p - m) + 1))), (8, .int (u 6)), (7, .int (nI m)), (6, .int most), (5, .int (nI best)), (4, .int ((bpG (n, g, t, u, q) p n 0 0 (-1)).2)), (3, .int (nI ((bpG (n, g, t, u, q) p n 0 0 (-1)).1))), (2, .int (nI n)), (1, .int (nI p)), (0, .ref b)]) dL_isBest_69 (by decide) rfl ?_
    refine ex_aload_n 11 dL_isBest_71 rfl rfl ?_
    refine ex_bipush (v := nI 40) dL_isBest_72 (by decide) ?_
    refine ex_ch (As := [.int (nI 40)]) (v := nI (pcN (B6) 40)) (x2 := (B4, (recX (B6, (recX (moveA (n, g, t, u, q) p m, (recX ((n, g, t, u, q), (sv (n, g, t, u, q) R)) A0).2) A0).2) A0).2)) vl_L_18 rfl S (c_passX S wf6 m36) (pass_ofB (x := (B6, (recX (moveA (n, g, t, u, q) p m, (recX ((n, g, t, u, q), (sv (n, g, t, u, q) R)) A0).2) A0).2)) hB4 (by omega) (by omega) hd40) rfl (by decide) (Nat.le_of_ble_eq_true rfl) (by omega) (by omega) rfl dL_isBest_74 (fun h S => ?_)
    refine ex_istore (lv' := [(12, .int (nI (pcN (B6) 40))), (11, .int (nI (pcN (moveA (n, g, t, u, q) p m) 60))), (10, .int ((moveA (n, g, t, u, q) p m).2.2.2.2 m 5)), (9, .int (nI (if p = m then 0 else (if p < m then m - p else p - m) + 1))), (8, .int (u 6)), (7, .int (nI m)), (6, .int most), (5, .int (nI best)), (4, .int ((bpG (n, g, t, u, q) p n 0 0 (-1)).2)), (3, .int (nI ((bpG (n, g, t, u, q) p n 0 0 (-1)).1))), (2, .int (nI n)), (1, .int (nI p)), (0, .ref b)]) dL_isBest_77 (by decide) rfl ?_
    refine ex_aload_n 12 dL_isBest_79 rfl rfl ?_
    refine ex_iload 5 dL_isBest_80 rfl ?_
    refine ex_bipush (v := nI 7) dL_isBest_82 (by decide) ?_
    refine ex_per (j := m) (k := 7) (v := B4.2.2.2.2 m 5) vl_L_14 S wf4 (by show m < _; rw [h41]; exact hmn) (by decide) rfl (by decide) (Nat.le_of_ble_eq_true rfl) (by omega) (by omega) dL_isBest_84 (fun h S => ?_)
    refine ex_iload 2 dL_isBest_87 rfl ?_
    refine ex_isub dL_isBest_89 ?_
    refine ex_topi (y := dgM (n, g, t, u, q) p m) (dg_eqB hB6 hB4) ?_
    refine ex_istore (lv' := [(13, .int (dgM (n, g, t, u, q) p m)), (12, .int (nI (pcN (B6) 40))), (11, .int (nI (pcN (moveA (n, g, t, u, q) p m) 60))), (10, .int ((moveA (n, g, t, u, q) p m).2.2.2.2 m 5)), (9, .int (nI (if p = m then 0 else (if p < m then m - p else p - m) + 1))), (8, .int (u 6)), (7, .int (nI m)), (6, .int most), (5, .int (nI best)), (4, .int ((bpG (n, g, t, u, q) p n 0 0 (-1)).2)), (3, .int (nI ((bpG (n, g, t, u, q) p n 0 0 (-1)).1))), (2, .int (nI n)), (1, .int (nI p)), (0, .ref b)]) dL_isBest_90 (by decide) rfl ?_
    by_cases hb : most < dgM (n, g, t, u, q) p m
    · rw [if_pos hb] at hh
      refine ex_iload 0 dL_isBest_92 rfl ?_
      refine ex_iload 7 dL_isBest_94 rfl ?_
      refine ex_icmp_le (tgt := 104) dL_isBest_96 (by decide) (fun c_96 => absurd c_96 (Int32.not_le.mpr hb)) (fun c_96 => ?_)
      refine ex_iload 6 dL_isBest_99 rfl ?_
      refine ex_goto (tgt := 106) dL_isBest_101 (by decide) ?_
      refine ex_istore (lv' := [(5, .int (nI m)), (13, .int (dgM (n, g, t, u, q) p m)), (12, .int (nI (pcN (B6) 40))), (11, .int (nI (pcN (moveA (n, g, t, u, q) p m) 60))), (10, .int ((moveA (n, g, t, u, q) p m).2.2.2.2 m 5)), (9, .int (nI (if p = m then 0 else (if p < m then m - p else p - m) + 1))), (8, .int (u 6)), (7, .int (nI m)), (6, .int most), (4, .int ((bpG (n, g, t, u, q) p n 0 0 (-1)).2)), (3, .int (nI ((bpG (n, g, t, u, q) p n 0 0 (-1)).1))), (2, .int (nI n)), (1, .int (nI p)), (0, .ref b)]) dL_isBest_106 (by decide) rfl ?_
      refine ex_iload 1 dL_isBest_108 rfl ?_
      refine ex_iload 8 dL_isBest_110 rfl ?_
      refine ex_icmp_le (tgt := 120) dL_isBest_112 (by decide) (fun c_112 => absurd c_112 (Int32.not_le.mpr hb)) (fun c_112 => ?_)
      refine ex_iload 1 dL_isBest_115 rfl ?_
      refine ex_goto (tgt := 122) dL_isBest_117 (by decide) ?_
      refine ex_istore (lv' := [(6, .int (dgM (n, g, t, u, q) p m)), (5, .int (nI m)), (13, .int (dgM (n, g, t, u, q) p m)), (12, .int (nI (pcN (B6) 40))), (11, .int (nI (pcN (moveA (n, g, t, u, q) p m) 60))), (10, .int ((moveA (n, g, t, u, q) p m).2.2.2.2 m 5)), (9, .int (nI (if p = m then 0 else (if p < m then m - p else p - m) + 1))), (8, .int (u 6)), (7, .int (nI m)), (4, .int ((bpG (n, g, t, u, q) p n 0 0 (-1)).2)), (3, .int (nI ((bpG (n, g, t, u, q) p n 0 0 (-1)).1))), (2, .int (nI n)), (1, .int (nI p)), (0, .ref b)]) dL_isBest_122 (by decide) rfl ?_
      refine ex_iload 8 dL_isBest_124 rfl ?_
      refine ex_iload_n 12 dL_isBest_126 rfl rfl ?_
      refine ex_icmp_ge (tgt := 137) dL_isBest_127 (by decide) (fun c_127 => ?_) (fun c_127 => ?_)
      · have n_127 : p ≤ m := (nI_leI (by omega) (by omega)).mp c_127
        refine ex_iload 8 dL_isBest_137 rfl ?_
        refine ex_iload_n 12 dL_isBest_139 rfl rfl ?_
        refine ex_isubN dL_isBest_140 (by omega) ?_
        refine ex_istore (lv' := [(14, .int (nI (m - p))), (6, .int (dgM (n, g, t, u, q) p m)), (5, .int (nI m)), (13, .int (dgM (n, g, t, u, q) p m)), (12, .int (nI (pcN (B6) 40))), (11, .int (nI (pcN (moveA (n, g, t, u, q) p m) 60))), (10, .int ((moveA (n, g, t, u, q) p m).2.2.2.2 m 5)), (9, .int (nI (if p = m then 0 else (if p < m then m - p else p - m) + 1))), (8, .int (u 6)), (7, .int (nI m)), (4, .int ((bpG (n, g, t, u, q) p n 0 0 (-1)).2)), (3, .int (nI ((bpG (n, g, t, u, q) p n 0 0 (-1)).1))), (2, .int (nI n)), (1, .int (nI p)), (0, .ref b)]) dL_isBest_141 (by decide) rfl ?_
        refine ex_iload 7 dL_isBest_143 rfl ?_
        refine ex_iload 0 dL_isBest_145 rfl ?_
        refine ex_if_ne (tgt := 154) dL_isBest_147 (by decide) (fun c_147 => ?_) (fun c_147 => ?_)
        · have n_147 : ¬ ((m - p) = 0) := fun q9 => c_147 ((nI_eq (b := 0) (by omega) (by omega)).mpr q9)
          refine ex_iload 0 dL_isBest_154 rfl ?_
          refine ex_iconst (v := nI 1) dL_isBest_156 (by decide) ?_
          refine ex_iaddN dL_isBest_157 ?_
          refine ex_icmp_ne (tgt := 181) dL_isBest_158 (by decide) (fun c_158 => absurd (congrArg nI (by (repeat' split) <;> omega)) c_158) (fun c_158 => ?_)
          refine ex_iload 5 dL_isBest_161 rfl ?_
          refine ex_if_lt (tgt := 181) dL_isBest_163 (by decide) (fun c_163 => absurd c_163 (nI_pos (by omega))) (fun c_163 => ?_)
          refine ex_iload 4 dL_isBest_166 rfl ?_
          refine ex_if_lt (tgt := 181) dL_isBest_168 (by decide) (fun c_168 => absurd c_168 (nI_pos (by omega))) (fun c_168 => ?_)
          refine ex_aload_n 14 dL_isBest_171 rfl rfl ?_
          refine ex_iconst (v := nI 0) dL_isBest_172 (by decide) ?_
          refine ex_ch (As := [.int (nI 0)]) (v := u 6) (x2 := ((n, g, t, u, q), (recX (B4, (recX (B6, (recX (moveA (n, g, t, u, q) p m, (recX ((n, g, t, u, q), (sv (n, g, t, u, q) R)) A0).2) A0).2) A0).2) A0).2)) vl_L_43 rfl S (c_restoreX S wf4.1 hV4) (X_restore_0 (x := (B4, (recX (B6, (recX (moveA (n, g, t, u, q) p m, (recX ((n, g, t, u, q), (sv (n, g, t, u, q) R)) A0).2) A0).2) A0).2)) (B := (n, g, t, u, q)) rfl) rfl (by decide) (Nat.le_of_ble_eq_true rfl) (by omega) (by omega) rfl dL_isBest_173 (fun h S => ?_)
          refine ex_iload 8 dL_isBest_176 rfl ?_
          refine ex_icmp_eq (tgt := 183) dL_isBest_178 (by decide) (fun c_178 => ?_) (fun c_178 => absurd (rfl) c_178)
          refine ex_iinc (v := nI (m + 1)) (lv' := [(7, .int (nI (m + 1))), (14, .int (nI (m - p))), (6, .int (dgM (n, g, t, u, q) p m)), (5, .int (nI m)), (13, .int (dgM (n, g, t, u, q) p m)), (12, .int (nI (pcN (B6) 40))), (11, .int (nI (pcN (moveA (n, g, t, u, q) p m) 60))), (10, .int ((moveA (n, g, t, u, q) p m).2.2.2.2 m 5)), (9, .int (nI (if p = m then 0 else (if p < m then m - p else p - m) + 1))), (8, .int (u 6)), (4, .int ((bpG (n, g, t, u, q) p n 0 0 (-1)).2)), (3, .int (nI ((bpG (n, g, t, u, q) p n 0 0 (-1)).1))), (2, .int (nI n)), (1, .int (nI p)), (0, .ref b)]) 9 dL_isBest_183 rfl (nI_1 m) (by decide) rfl ?_
          refine ex_goto (tgt := 31) dL_isBest_186 (by decide) ?_
          refine ex_widen (c2 := 11 * (m + 1)) (s2 := 75 * (m + 1)) (by omega) (by omega) ?_
          have e2 := ih (m + 1) m (dgM (n, g, t, u, q) p m) ((recX (B4, (recX (B6, (recX (moveA (n, g, t, u, q) p m, (recX ((n, g, t, u, q), (sv (n, g, t, u, q) R)) A0).2) A0).2) A0).2) A0).2) h z1 (by omega) (by omega) S (nV_sv hV n8) hh
          refine ex_lv (lv2 := [(7, .int (nI (m + 1))), (6, .int (dgM (n, g, t, u, q) p m)), (5, .int (nI m)), (4, .int ((bpG (n, g, t, u, q) p n 0 0 (-1)).2)), (3, .int (nI ((bpG (n, g, t, u, q) p n 0 0 (-1)).1))), (2, .int (nI n)), (1, .int (nI p)), (0, .ref b)]) [0, 2, 3, 10, 11, 12, 13, 14] rfl ?_
          exact e2
        · have n_147 : (m - p) = 0 := (nI_eq (b := 0) (by omega) (by omega)).mp c_147
          refine ex_iconst (v := nI 0) dL_isBest_150 (by decide) ?_
          refine ex_goto (tgt := 158) dL_isBest_151 (by decide) ?_
          refine ex_icmp_ne (tgt := 181) dL_isBest_158 (by decide) (fun c_158 => absurd (congrArg nI (by (repeat' split) <;> omega)) c_158) (fun c_158 => ?_)
          refine ex_iload 5 dL_isBest_161 rfl ?_
          refine ex_if_lt (tgt := 181) dL_isBest_163 (by decide) (fun c_163 => absurd c_163 (nI_pos (by omega))) (fun c_163 => ?_)
          refine ex_iload 4 dL_isBest_166 rfl ?_
          refine ex_if_lt (tgt := 181) dL_isBest_168 (by decide) (fun c_168 => absurd c_168 (nI_pos (by omega))) (fun c_168 => ?_)
          refine ex_aload_n 14 dL_isBest_171 rfl rfl ?_
          refine ex_iconst (v := nI 0) dL_isBest_172 (by decide) ?_
          refine ex_ch (As := [.int (nI 0)]) (v := u 6) (x2 := ((n, g, t, u, q), (recX (B4, (recX (B6, (recX (moveA (n, g, t, u, q) p m, (recX ((n, g, t, u, q), (sv (n, g, t, u, q) R)) A0).2) A0).2) A0).2) A0).2)) vl_L_43 rfl S (c_restoreX S wf4.1 hV4) (X_restore_0 (x := (B4, (recX (B6, (recX (moveA (n, g, t, u, q) p m, (recX ((n, g, t, u, q), (sv (n, g, t, u, q) R)) A0).2) A0).2) A0).2)) (B := (n, g, t, u, q)) rfl) rfl (by decide) (Nat.le_of_ble_eq_true rfl) (by omega) (by omega) rfl dL_isBest_173 (fun h S => ?_)
          refine ex_iload 8 dL_isBest_176 rfl ?_
          refine ex_icmp_eq (tgt := 183) dL_isBest_178 (by decide) (fun c_178 => ?_) (fun c_178 => absurd (rfl) c_178)
          refine ex_iinc (v := nI (m + 1)) (lv' := [(7, .int (nI (m + 1))), (14, .int (nI (m - p))), (6, .int (dgM (n, g, t, u, q) p m)), (5, .int (nI m)), (13, .int (dgM (n, g, t, u, q) p m)), (12, .int (nI (pcN (B6) 40))), (11, .int (nI (pcN (moveA (n, g, t, u, q) p m) 60))), (10, .int ((moveA (n, g, t, u, q) p m).2.2.2.2 m 5)), (9, .int (nI (if p = m then 0 else (if p < m then m - p else p - m) + 1))), (8, .int (u 6)), (4, .int ((bpG (n, g, t, u, q) p n 0 0 (-1)).2)), (3, .int (nI ((bpG (n, g, t, u, q) p n 0 0 (-1)).1))), (2, .int (nI n)), (1, .int (nI p)), (0, .ref b)]) 9 dL_isBest_183 rfl (nI_1 m) (by decide) rfl ?_
          refine ex_goto (tgt := 31) dL_isBest_186 (by decide) ?_
          refine ex_widen (c2 := 11 * (m + 1)) (s2 := 75 * (m + 1)) (by omega) (by omega) ?_
          have e2 := ih (m + 1) m (dgM (n, g, t, u, q) p m) ((recX (B4, (recX (B6, (recX (moveA (n, g, t, u, q) p m, (recX ((n, g, t, u, q), (sv (n, g, t, u, q) R)) A0).2) A0).2) A0).2) A0).2) h z1 (by omega) (by omega) S (nV_sv hV n8) hh
          refine ex_lv (lv2 := [(7, .int (nI (m + 1))), (6, .int (dgM (n, g, t, u, q) p m)), (5, .int (nI m)), (4, .int ((bpG (n, g, t, u, q) p n 0 0 (-1)).2)), (3, .int (nI ((bpG (n, g, t, u, q) p n 0 0 (-1)).1))), (2, .int (nI n)), (1, .int (nI p)), (0, .ref b)]) [0, 2, 3, 10, 11, 12, 13, 14] rfl ?_
          exact e2
      · have n_127 : ¬ (p ≤ m) := fun q9 => c_127 ((nI_leI (by omega) (by omega)).mpr q9)
        refine ex_iload_n 12 dL_isBest_130 rfl rfl ?_
        refine ex_iload 8 dL_isBest_131 rfl ?_
        refine ex_isubN dL_isBest_133 (by omega) ?_
        refine ex_goto (tgt := 141) dL_isBest_134 (by decide) ?_
        refine ex_istore (lv' := [(14, .int (nI (p - m))), (6, .int (dgM (n, g, t, u, q) p m)), (5, .int (nI m)), (13, .int (dgM (n, g, t, u, q) p m)), (12, .int (nI (pcN (B6) 40))), (11, .int (nI (pcN (moveA (n, g, t, u, q) p m) 60))), (10, .int ((moveA (n, g, t, u, q) p m).2.2.2.2 m 5)), (9, .int (nI (if p = m then 0 else (if p < m then m - p else p - m) + 1))), (8, .int (u 6)), (7, .int (nI m)), (4, .int ((bpG (n, g, t, u, q) p n 0 0 (-1)).2)), (3, .int (nI ((bpG (n, g, t, u, q) p n 0 0 (-1)).1))), (2, .int (nI n)), (1, .int (nI p)), (0, .ref b)]) dL_isBest_141 (by decide) rfl ?_
        refine ex_iload 7 dL_isBest_143 rfl ?_
        refine ex_iload 0 dL_isBest_145 rfl ?_
        refine ex_if_ne (tgt := 154) dL_isBest_147 (by decide) (fun c_147 => ?_) (fun c_147 => ?_)
        · have n_147 : ¬ ((p - m) = 0) := fun q9 => c_147 ((nI_eq (b := 0) (by omega) (by omega)).mpr q9)
          refine ex_iload 0 dL_isBest_154 rfl ?_
          refine ex_iconst (v := nI 1) dL_isBest_156 (by decide) ?_
          refine ex_iaddN dL_isBest_157 ?_
          refine ex_icmp_ne (tgt := 181) dL_isBest_158 (by decide) (fun c_158 => absurd (congrArg nI (by (repeat' split) <;> omega)) c_158) (fun c_158 => ?_)
          refine ex_iload 5 dL_isBest_161 rfl ?_
          refine ex_if_lt (tgt := 181) dL_isBest_163 (by decide) (fun c_163 => absurd c_163 (nI_pos (by omega))) (fun c_163 => ?_)
          refine ex_iload 4 dL_isBest_166 rfl ?_
          refine ex_if_lt (tgt := 181) dL_isBest_168 (by decide) (fun c_168 => absurd c_168 (nI_pos (by omega))) (fun c_168 => ?_)
          refine ex_aload_n 14 dL_isBest_171 rfl rfl ?_
          refine ex_iconst (v := nI 0) dL_isBest_172 (by decide) ?_
          refine ex_ch (As := [.int (nI 0)]) (v := u 6) (x2 := ((n, g, t, u, q), (recX (B4, (recX (B6, (recX (moveA (n, g, t, u, q) p m, (recX ((n, g, t, u, q), (sv (n, g, t, u, q) R)) A0).2) A0).2) A0).2) A0).2)) vl_L_43 rfl S (c_restoreX S wf4.1 hV4) (X_restore_0 (x := (B4, (recX (B6, (recX (moveA (n, g, t, u, q) p m, (recX ((n, g, t, u, q), (sv (n, g, t, u, q) R)) A0).2) A0).2) A0).2)) (B := (n, g, t, u, q)) rfl) rfl (by decide) (Nat.le_of_ble_eq_true rfl) (by omega) (by omega) rfl dL_isBest_173 (fun h S => ?_)
          refine ex_iload 8 dL_isBest_176 rfl ?_
          refine ex_icmp_eq (tgt := 183) dL_isBest_178 (by decide) (fun c_178 => ?_) (fun c_178 => absurd (rfl) c_178)
          refine ex_iinc (v := nI (m + 1)) (lv' := [(7, .int (nI (m + 1))), (14, .int (nI (p - m))), (6, .int (dgM (n, g, t, u, q) p m)), (5, .int (nI m)), (13, .int (dgM (n, g, t, u, q) p m)), (12, .int (nI (pcN (B6) 40))), (11, .int (nI (pcN (moveA (n, g, t, u, q) p m) 60))), (10, .int ((moveA (n, g, t, u, q) p m).2.2.2.2 m 5)), (9, .int (nI (if p = m then 0 else (if p < m then m - p else p - m) + 1))), (8, .int (u 6)), (4, .int ((bpG (n, g, t, u, q) p n 0 0 (-1)).2)), (3, .int (nI ((bpG (n, g, t, u, q) p n 0 0 (-1)).1))), (2, .int (nI n)), (1, .int (nI p)), (0, .ref b)]) 9 dL_isBest_183 rfl (nI_1 m) (by decide) rfl ?_
          refine ex_goto (tgt := 31) dL_isBest_186 (by decide) ?_
          refine ex_widen (c2 := 11 * (m + 1)) (s2 := 75 * (m + 1)) (by omega) (by omega) ?_
          have e2 := ih (m + 1) m (dgM (n, g, t, u, q) p m) ((recX (B4, (recX (B6, (recX (moveA (n, g, t, u, q) p m, (recX ((n, g, t, u, q), (sv (n, g, t, u, q) R)) A0).2) A0).2) A0).2) A0).2) h z1 (by omega) (by omega) S (nV_sv hV n8) hh
          refine ex_lv (lv2 := [(7, .int (nI (m + 1))), (6, .int (dgM (n, g, t, u, q) p m)), (5, .int (nI m)), (4, .int ((bpG (n, g, t, u, q) p n 0 0 (-1)).2)), (3, .int (nI ((bpG (n, g, t, u, q) p n 0 0 (-1)).1))), (2, .int (nI n)), (1, .int (nI p)), (0, .ref b)]) [0, 2, 3, 10, 11, 12, 13, 14] rfl ?_
          exact e2
        · have n_147 : (p - m) = 0 := (nI_eq (b := 0) (by omega) (by omega)).mp c_147
          refine ex_iconst (v := nI 0) dL_isBest_150 (by decide) ?_
          refine ex_goto (tgt := 158) dL_isBest_151 (by decide) ?_
          refine ex_icmp_ne (tgt := 181) dL_isBest_158 (by decide) (fun c_158 => absurd (congrArg nI (by (repeat' split) <;> omega)) c_158) (fun c_158 => ?_)
          refine ex_iload 5 dL_isBest_161 rfl ?_
          refine ex_if_lt (tgt := 181) dL_isBest_163 (by decide) (fun c_163 => absurd c_163 (nI_pos (by omega))) (fun c_163 => ?_)
          refine ex_iload 4 dL_isBest_166 rfl ?_
          refine ex_if_lt (tgt := 181) dL_isBest_168 (by decide) (fun c_168 => absurd c_168 (nI_pos (by omega))) (fun c_168 => ?_)
          refine ex_aload_n 14 dL_isBest_171 rfl rfl ?_
          refine ex_iconst (v := nI 0) dL_isBest_172 (by decide) ?_
          refine ex_ch (As := [.int (nI 0)]) (v := u 6) (x2 := ((n, g, t, u, q), (recX (B4, (recX (B6, (recX (moveA (n, g, t, u, q) p m, (recX ((n, g, t, u, q), (sv (n, g, t, u, q) R)) A0).2) A0).2) A0).2) A0).2)) vl_L_43 rfl S (c_restoreX S wf4.1 hV4) (X_restore_0 (x := (B4, (recX (B6, (recX (moveA (n, g, t, u, q) p m, (recX ((n, g, t, u, q), (sv (n, g, t, u, q) R)) A0).2) A0).2) A0).2)) (B := (n, g, t, u, q)) rfl) rfl (by decide) (Nat.le_of_ble_eq_true rfl) (by omega) (by omega) rfl dL_isBest_173 (fun h S => ?_)
          refine ex_iload 8 dL_isBest_176 rfl ?_
          refine ex_icmp_eq (tgt := 183) dL_isBest_178 (by decide) (fun c_178 => ?_) (fun c_178 => absurd (rfl) c_178)
          refine ex_iinc (v := nI (m + 1)) (lv' := [(7, .int (nI (m + 1))), (14, .int (nI (p - m))), (6, .int (dgM (n, g, t, u, q) p m)), (5, .int (nI m)), (13, .int (dgM (n, g, t, u, q) p m)), (12, .int (nI (pcN (B6) 40))), (11, .int (nI (pcN (moveA (n, g, t, u, q) p m) 60))), (10, .int ((moveA (n, g, t, u, q) p m).2.2.2.2 m 5)), (9, .int (nI (if p = m then 0 else (if p < m then m - p else p - m) + 1))), (8, .int (u 6)), (4, .int ((bpG (n, g, t, u, q) p n 0 0 (-1)).2)), (3, .int (nI ((bpG (n, g, t, u, q) p n 0 0 (-1)).1))), (2, .int (nI n)), (1, .int (nI p)), (0, .ref b)]) 9 dL_isBest_183 rfl (nI_1 m) (by decide) rfl ?_
          refine ex_goto (tgt := 31) dL_isBest_186 (by decide) ?_
          refine ex_widen (c2 := 11 * (m + 1)) (s2 := 75 * (m + 1)) (by omega) (by omega) ?_
          have e2 := ih (m + 1) m (dgM (n, g, t, u, q) p m) ((recX (B4, (recX (B6, (recX (moveA (n, g, t, u, q) p m, (recX ((n, g, t, u, q), (sv (n, g, t, u, q) R)) A0).2) A0).2) A0).2) A0).2) h z1 (by omega) (by omega) S (nV_sv hV n8) hh
          refine ex_lv (lv2 := [(7, .int (nI (m + 1))), (6, .int (dgM (n, g, t, u, q) p m)), (5, .int (nI m)), (4, .int ((bpG (n, g, t, u, q) p n 0 0 (-1)).2)), (3, .int (nI ((bpG (n, g, t, u, q) p n 0 0 (-1)).1))), (2, .int (nI n)), (1, .int (nI p)), (0, .ref b)]) [0, 2, 3, 10, 11, 12, 13, 14] rfl ?_
          exact e2
    · rw [if_neg hb] at hh
      refine ex_iload 0 dL_isBest_92 rfl ?_
      refine ex_iload 7 dL_isBest_94 rfl ?_
      refine ex_icmp_le (tgt := 104) dL_isBest_96 (by decide) (fun c_96 => ?_) (fun c_96 => absurd (Int32.not_lt.mp hb) c_96)
      refine ex_iload 8 dL_isBest_104 rfl ?_
      refine ex_istore (lv' := [(5, .int (nI best)), (13, .int (dgM (n, g, t, u, q) p m)), (12, .int (nI (pcN (B6) 40))), (11, .int (nI (pcN (moveA (n, g, t, u, q) p m) 60))), (10, .int ((moveA (n, g, t, u, q) p m).2.2.2.2 m 5)), (9, .int (nI (if p = m then 0 else (if p < m then m - p else p - m) + 1))), (8, .int (u 6)), (7, .int (nI m)), (6, .int most), (4, .int ((bpG (n, g, t, u, q) p n 0 0 (-1)).2)), (3, .int (nI ((bpG (n, g, t, u, q) p n 0 0 (-1)).1))), (2, .int (nI n)), (1, .int (nI p)), (0, .ref b)]) dL_isBest_106 (by decide) rfl ?_
      refine ex_iload 1 dL_isBest_108 rfl ?_
      refine ex_iload 8 dL_isBest_110 rfl ?_
      refine ex_icmp_le (tgt := 120) dL_isBest_112 (by decide) (fun c_112 => ?_) (fun c_112 => absurd (Int32.not_lt.mp hb) c_112)
      refine ex_iload 8 dL_isBest_120 rfl ?_
      refine ex_istore (lv' := [(6, .int most), (5, .int (nI best)), (13, .int (dgM (n, g, t, u, q) p m)), (12, .int (nI (pcN (B6) 40))), (11, .int (nI (pcN (moveA (n, g, t, u, q) p m) 60))), (10, .int ((moveA (n, g, t, u, q) p m).2.2.2.2 m 5)), (9, .int (nI (if p = m then 0 else (if p < m then m - p else p - m) + 1))), (8, .int (u 6)), (7, .int (nI m)), (4, .int ((bpG (n, g, t, u, q) p n 0 0 (-1)).2)), (3, .int (nI ((bpG (n, g, t, u, q) p n 0 0 (-1)).1))), (2, .int (nI n)), (1, .int (nI p)), (0, .ref b)]) dL_isBest_122 (by decide) rfl ?_
      refine ex_iload 8 dL_isBest_124 rfl ?_
      refine ex_iload_n 12 dL_isBest_126 rfl rfl ?_
      refine ex_icmp_ge (tgt := 137) dL_isBest_127 (by decide) (fun c_127 => ?_) (fun c_127 => ?_)
      · have n_127 : p ≤ m := (nI_leI (by omega) (by omega)).mp c_127
        refine ex_iload 8 dL_isBest_137 rfl ?_
        refine ex_iload_n 12 dL_isBest_139 rfl rfl ?_
        refine ex_isubN dL_isBest_140 (by omega) ?_
        refine ex_istore (lv' := [(14, .int (nI (m - p))), (6, .int most), (5, .int (nI best)), (13, .int (dgM (n, g, t, u, q) p m)), (12, .int (nI (pcN (B6) 40))), (11, .int (nI (pcN (moveA (n, g, t, u, q) p m) 60))), (10, .int ((moveA (n, g, t, u, q) p m).2.2.2.2 m 5)), (9, .int (nI (if p = m then 0 else (if p < m then m - p else p - m) + 1))), (8, .int (u 6)), (7, .int (nI m)), (4, .int ((bpG (n, g, t, u, q) p n 0 0 (-1)).2)), (3, .int (nI ((bpG (n, g, t, u, q) p n 0 0 (-1)).1))), (2, .int (nI n)), (1, .int (nI p)), (0, .ref b)]) dL_isBest_141 (by decide) rfl ?_
        refine ex_iload 7 dL_isBest_143 rfl ?_
        refine ex_iload 0 dL_isBest_145 rfl ?_
        refine ex_if_ne (tgt := 154) dL_isBest_147 (by decide) (fun c_147 => ?_) (fun c_147 => ?_)
        · have n_147 : ¬ ((m - p) = 0) := fun q9 => c_147 ((nI_eq (b := 0) (by omega) (by omega)).mpr q9)
          refine ex_iload 0 dL_isBest_154 rfl ?_
          refine ex_iconst (v := nI 1) dL_isBest_156 (by decide) ?_
          refine ex_iaddN dL_isBest_157 ?_
          refine ex_icmp_ne (tgt := 181) dL_isBest_158 (by decide) (fun c_158 => absurd (congrArg nI (by (repeat' split) <;> omega)) c_158) (fun c_158 => ?_)
          refine ex_iload 5 dL_isBest_161 rfl ?_
          refine ex_if_lt (tgt := 181) dL_isBest_163 (by decide) (fun c_163 => absurd c_163 (nI_pos (by omega))) (fun c_163 => ?_)
          refine ex_iload 4 dL_isBest_166 rfl ?_
          refine ex_if_lt (tgt := 181) dL_isBest_168 (by decide) (fun c_168 => absurd c_168 (nI_pos (by omega))) (fun c_168 => ?_)
          refine ex_aload_n 14 dL_isBest_171 rfl rfl ?_
          refine ex_iconst (v := nI 0) dL_isBest_172 (by decide) ?_
          refine ex_ch (As := [.int (nI 0)]) (v := u 6) (x2 := ((n, g, t, u, q), (recX (B4, (recX (B6, (recX (moveA (n, g, t, u, q) p m, (recX ((n, g, t, u, q), (sv (n, g, t, u, q) R)) A0).2) A0).2) A0).2) A0).2)) vl_L_43 rfl S (c_restoreX S wf4.1 hV4) (X_restore_0 (x := (B4, (recX (B6, (recX (moveA (n, g, t, u, q) p m, (recX ((n, g, t, u, q), (sv (n, g, t, u, q) R)) A0).2) A0).2) A0).2)) (B := (n, g, t, u, q)) rfl) rfl (by decide) (Nat.le_of_ble_eq_true rfl) (by omega) (by omega) rfl dL_isBest_173 (fun h S => ?_)
          refine ex_iload 8 dL_isBest_176 rfl ?_
          refine ex_icmp_eq (tgt := 183) dL_isBest_178 (by decide) (fun c_178 => ?_) (fun c_178 => absurd (rfl) c_178)
          refine ex_iinc (v := nI (m + 1)) (lv' := [(7, .int (nI (m + 1))), (14, .int (nI (m - p))), (6, .int most), (5, .int (nI best)), (13, .int (dgM (n, g, t, u, q) p m)), (12, .int (nI (pcN (B6) 40))), (11, .int (nI (pcN (moveA (n, g, t, u, q) p m) 60))), (10, .int ((moveA (n, g, t, u, q) p m).2.2.2.2 m 5)), (9, .int (nI (if p = m then 0 else (if p < m then m - p else p - m) + 1))), (8, .int (u 6)), (4, .int ((bpG (n, g, t, u, q) p n 0 0 (-1)).2)), (3, .int (nI ((bpG (n, g, t, u, q) p n 0 0 (-1)).1))), (2, .int (nI n)), (1, .int (nI p)), (0, .ref b)]) 9 dL_isBest_183 rfl (nI_1 m) (by decide) rfl ?_
          refine ex_goto (tgt := 31) dL_isBest_186 (by decide) ?_
          refine ex_widen (c2 := 11 * (m + 1)) (s2 := 75 * (m + 1)) (by omega) (by omega) ?_
          have e2 := ih (m + 1) best most ((recX (B4, (recX (B6, (recX (moveA (n, g, t, u, q) p m, (recX ((n, g, t, u, q), (sv (n, g, t, u, q) R)) A0).2) A0).2) A0).2) A0).2) h z1 (by omega) (by omega) S (nV_sv hV n8) hh
          refine ex_lv (lv2 := [(7, .int (nI (m + 1))), (6, .int most), (5, .int (nI best)), (4, .int ((bpG (n, g, t, u, q) p n 0 0 (-1)).2)), (3, .int (nI ((bpG (n, g, t, u, q) p n 0 0 (-1)).1))), (2, .int (nI n)), (1, .int (nI p)), (0, .ref b)]) [0, 2, 3, 10, 11, 12, 13, 14] rfl ?_
          exact e2
        · have n_147 : (m - p) = 0 := (nI_eq (b := 0) (by omega) (by omega)).mp c_147
          refine ex_iconst (v := nI 0) dL_isBest_150 (by decide) ?_
          refine ex_goto (tgt := 158) dL_isBest_151 (by decide) ?_
          refine ex_icmp_ne (tgt := 181) dL_isBest_158 (by decide) (fun c_158 => absurd (congrArg nI (by (repeat' split) <;> omega)) c_158) (fun c_158 => ?_)
          refine ex_iload 5 dL_isBest_161 rfl ?_
          refine ex_if_lt (tgt := 181) dL_isBest_163 (by decide) (fun c_163 => absurd c_163 (nI_pos (by omega))) (fun c_163 => ?_)
          refine ex_iload 4 dL_isBest_166 rfl ?_
          refine ex_if_lt (tgt := 181) dL_isBest_168 (by decide) (fun c_168 => absurd c_168 (nI_pos (by omega))) (fun c_168 => ?_)
          refine ex_aload_n 14 dL_isBest_171 rfl rfl ?_
          refine ex_iconst (v := nI 0) dL_isBest_172 (by decide) ?_
          refine ex_ch (As := [.int (nI 0)]) (v := u 6) (x2 := ((n, g, t, u, q), (recX (B4, (recX (B6, (recX (moveA (n, g, t, u, q) p m, (recX ((n, g, t, u, q), (sv (n, g, t, u, q) R)) A0).2) A0).2) A0).2) A0).2)) vl_L_43 rfl S (c_restoreX S wf4.1 hV4) (X_restore_0 (x := (B4, (recX (B6, (recX (moveA (n, g, t, u, q) p m, (recX ((n, g, t, u, q), (sv (n, g, t, u, q) R)) A0).2) A0).2) A0).2)) (B := (n, g, t, u, q)) rfl) rfl (by decide) (Nat.le_of_ble_eq_true rfl) (by omega) (by omega) rfl dL_isBest_173 (fun h S => ?_)
          refine ex_iload 8 dL_isBest_176 rfl ?_
          refine ex_icmp_eq (tgt := 183) dL_isBest_178 (by decide) (fun c_178 => ?_) (fun c_178 => absurd (rfl) c_178)
          refine ex_iinc (v := nI (m + 1)) (lv' := [(7, .int (nI (m + 1))), (14, .int (nI (m - p))), (6, .int most), (5, .int (nI best)), (13, .int (dgM (n, g, t, u, q) p m)), (12, .int (nI (pcN (B6) 40))), (11, .int (nI (pcN (moveA (n, g, t, u, q) p m) 60))), (10, .int ((moveA (n, g, t, u, q) p m).2.2.2.2 m 5)), (9, .int (nI (if p = m then 0 else (if p < m then m - p else p - m) + 1))), (8, .int (u 6)), (4, .int ((bpG (n, g, t, u, q) p n 0 0 (-1)).2)), (3, .int (nI ((bpG (n, g, t, u, q) p n 0 0 (-1)).1))), (2, .int (nI n)), (1, .int (nI p)), (0, .ref b)]) 9 dL_isBest_183 rfl (nI_1 m) (by decide) rfl ?_
          refine ex_goto (tgt := 31) dL_isBest_186 (by decide) ?_
          refine ex_widen (c2 := 11 * (m + 1)) (s2 := 75 * (m + 1)) (by omega) (by omega) ?_
          have e2 := ih (m + 1) best most ((recX (B4, (recX (B6, (recX (moveA (n, g, t, u, q) p m, (recX ((n, g, t, u, q), (sv (n, g, t, u, q) R)) A0).2) A0).2) A0).2) A0).2) h z1 (by omega) (by omega) S (nV_sv hV n8) hh
          refine ex_lv (lv2 := [(7, .int (nI (m + 1))), (6, .int most), (5, .int (nI best)), (4, .int ((bpG (n, g, t, u, q) p n 0 0 (-1)).2)), (3, .int (nI ((bpG (n, g, t, u, q) p n 0 0 (-1)).1))), (2, .int (nI n)), (1, .int (nI p)), (0, .ref b)]) [0, 2, 3, 10, 11, 12, 13, 14] rfl ?_
          exact e2
      · have n_127 : ¬ (p ≤ m) := fun q9 => c_127 ((nI_leI (by omega) (by omega)).mpr q9)
        refine ex_iload_n 12 dL_isBest_130 rfl rfl ?_
        refine ex_iload 8 dL_isBest_131 rfl ?_
        refine ex_isubN dL_isBest_133 (by omega) ?_
        refine ex_goto (tgt := 141) dL_isBest_134 (by decide) ?_
        refine ex_istore (lv' := [(14, .int (nI (p - m))), (6, .int most), (5, .int (nI best)), (13, .int (dgM (n, g, t, u, q) p m)), (12, .int (nI (pcN (B6) 40))), (11, .int (nI (pcN (moveA (n, g, t, u, q) p m) 60))), (10, .int ((moveA (n, g, t, u, q) p m).2.2.2.2 m 5)), (9, .int (nI (if p = m then 0 else (if p < m then m - p else p - m) + 1))), (8, .int (u 6)), (7, .int (nI m)), (4, .int ((bpG (n, g, t, u, q) p n 0 0 (-1)).2)), (3, .int (nI ((bpG (n, g, t, u, q) p n 0 0 (-1)).1))), (2, .int (nI n)), (1, .int (nI p)), (0, .ref b)]) dL_isBest_141 (by decide) rfl ?_
        refine ex_iload 7 dL_isBest_143 rfl ?_
        refine ex_iload 0 dL_isBest_145 rfl ?_
        refine ex_if_ne (tgt := 154) dL_isBest_147 (by decide) (fun c_147 => ?_) (fun c_147 => ?_)
        · have n_147 : ¬ ((p - m) = 0) := fun q9 => c_147 ((nI_eq (b := 0) (by omega) (by omega)).mpr q9)
          refine ex_iload 0 dL_isBest_154 rfl ?_
          refine ex_iconst (v := nI 1) dL_isBest_156 (by decide) ?_
          refine ex_iaddN dL_isBest_157 ?_
          refine ex_icmp_ne (tgt := 181) dL_isBest_158 (by decide) (fun c_158 => absurd (congrArg nI (by (repeat' split) <;> omega)) c_158) (fun c_158 => ?_)
          refine ex_iload 5 dL_isBest_161 rfl ?_
          refine ex_if_lt (tgt := 181) dL_isBest_163 (by decide) (fun c_163 => absurd c_163 (nI_pos (by omega))) (fun c_163 => ?_)
          refine ex_iload 4 dL_isBest_166 rfl ?_
          refine ex_if_lt (tgt := 181) dL_isBest_168 (by decide) (fun c_168 => absurd c_168 (nI_pos (by omega))) (fun c_168 => ?_)
          refine ex_aload_n 14 dL_isBest_171 rfl rfl ?_
          refine ex_iconst (v := nI 0) dL_isBest_172 (by decide) ?_
          refine ex_ch (As := [.int (nI 0)]) (v := u 6) (x2 := ((n, g, t, u, q), (recX (B4, (recX (B6, (recX (moveA (n, g, t, u, q) p m, (recX ((n, g, t, u, q), (sv (n, g, t, u, q) R)) A0).2) A0).2) A0).2) A0).2)) vl_L_43 rfl S (c_restoreX S wf4.1 hV4) (X_restore_0 (x := (B4, (recX (B6, (recX (moveA (n, g, t, u, q) p m, (recX ((n, g, t, u, q), (sv (n, g, t, u, q) R)) A0).2) A0).2) A0).2)) (B := (n, g, t, u, q)) rfl) rfl (by decide) (Nat.le_of_ble_eq_true rfl) (by omega) (by omega) rfl dL_isBest_173 (fun h S => ?_)
          refine ex_iload 8 dL_isBest_176 rfl ?_
          refine ex_icmp_eq (tgt := 183) dL_isBest_178 (by decide) (fun c_178 => ?_) (fun c_178 => absurd (rfl) c_178)
          refine ex_iinc (v := nI (m + 1)) (lv' := [(7, .int (nI (m + 1))), (14, .int (nI (p - m))), (6, .int most), (5, .int (nI best)), (13, .int (dgM (n, g, t, u, q) p m)), (12, .int (nI (pcN (B6) 40))), (11, .int (nI (pcN (moveA (n, g, t, u, q) p m) 60))), (10, .int ((moveA (n, g, t, u, q) p m).2.2.2.2 m 5)), (9, .int (nI (if p = m then 0 else (if p < m then m - p else p - m) + 1))), (8, .int (u 6)), (4, .int ((bpG (n, g, t, u, q) p n 0 0 (-1)).2)), (3, .int (nI ((bpG (n, g, t, u, q) p n 0 0 (-1)).1))), (2, .int (nI n)), (1, .int (nI p)), (0, .ref b)]) 9 dL_isBest_183 rfl (nI_1 m) (by decide) rfl ?_
          refine ex_goto (tgt := 31) dL_isBest_186 (by decide) ?_
          refine ex_widen (c2 := 11 * (m + 1)) (s2 := 75 * (m + 1)) (by omega) (by omega) ?_
          have e2 := ih (m + 1) best most ((recX (B4, (recX (B6, (recX (moveA (n, g, t, u, q) p m, (recX ((n, g, t, u, q), (sv (n, g, t, u, q) R)) A0).2) A0).2) A0).2) A0).2) h z1 (by omega) (by omega) S (nV_sv hV n8) hh
          refine ex_lv (lv2 := [(7, .int (nI (m + 1))), (6, .int most), (5, .int (nI best)), (4, .int ((bpG (n, g, t, u, q) p n 0 0 (-1)).2)), (3, .int (nI ((bpG (n, g, t, u, q) p n 0 0 (-1)).1))), (2, .int (nI n)), (1, .int (nI p)), (0, .ref b)]) [0, 2, 3, 10, 11, 12, 13, 14] rfl ?_
          exact e2
        · have n_147 : (p - m) = 0 := (nI_eq (b := 0) (by omega) (by omega)).mp c_147
          refine ex_iconst (v := nI 0) dL_isBest_150 (by decide) ?_
          refine ex_goto (tgt := 158) dL_isBest_151 (by decide) ?_
          refine ex_icmp_ne (tgt := 181) dL_isBest_158 (by decide) (fun c_158 => absurd (congrArg nI (by (repeat' split) <;> omega)) c_158) (fun c_158 => ?_)
          refine ex_iload 5 dL_isBest_161 rfl ?_
          refine ex_if_lt (tgt := 181) dL_isBest_163 (by decide) (fun c_163 => absurd c_163 (nI_pos (by omega))) (fun c_163 => ?_)
          refine ex_iload 4 dL_isBest_166 rfl ?_
          refine ex_if_lt (tgt := 181) dL_isBest_168 (by decide) (fun c_168 => absurd c_168 (nI_pos (by omega))) (fun c_168 => ?_)
          refine ex_aload_n 14 dL_isBest_171 rfl rfl ?_
          refine ex_iconst (v := nI 0) dL_isBest_172 (by decide) ?_
          refine ex_ch (As := [.int (nI 0)]) (v := u 6) (x2 := ((n, g, t, u, q), (recX (B4, (recX (B6, (recX (moveA (n, g, t, u, q) p m, (recX ((n, g, t, u, q), (sv (n, g, t, u, q) R)) A0).2) A0).2) A0).2) A0).2)) vl_L_43 rfl S (c_restoreX S wf4.1 hV4) (X_restore_0 (x := (B4, (recX (B6, (recX (moveA (n, g, t, u, q) p m, (recX ((n, g, t, u, q), (sv (n, g, t, u, q) R)) A0).2) A0).2) A0).2)) (B := (n, g, t, u, q)) rfl) rfl (by decide) (Nat.le_of_ble_eq_true rfl) (by omega) (by omega) rfl dL_isBest_173 (fun h S => ?_)
          refine ex_iload 8 dL_isBest_176 rfl ?_
          refine ex_icmp_eq (tgt := 183) dL_isBest_178 (by decide) (fun c_178 => ?_) (fun c_178 => absurd (rfl) c_178)
          refine ex_iinc (v := nI (m + 1)) (lv' := [(7, .int (nI (m + 1))), (14, .int (nI (p - m))), (6, .int most), (5, .int (nI best)), (13, .int (dgM (n, g, t, u, q) p m)), (12, .int (nI (pcN (B6) 40))), (11, .int (nI (pcN (moveA (n, g, t, u, q) p m) 60))), (10, .int ((moveA (n, g, t, u, q) p m).2.2.2.2 m 5)), (9, .int (nI (if p = m then 0 else (if p < m then m - p else p - m) + 1))), (8, .int (u 6)), (4, .int ((bpG (n, g, t, u, q) p n 0 0 (-1)).2)), (3, .int (nI ((bpG (n, g, t, u, q) p n 0 0 (-1)).1))), (2, .int (nI n)), (1, .int (nI p)), (0, .ref b)]) 9 dL_isBest_183 rfl (nI_1 m) (by decide) rfl ?_
          refine ex_goto (tgt := 31) dL_isBest_186 (by decide) ?_
          refine ex_widen (c2 := 11 * (m + 1)) (s2 := 75 * (m + 1)) (by omega) (by omega) ?_
          have e2 := ih (m + 1) best most ((recX (B4, (recX (B6, (recX (moveA (n, g, t, u, q) p m, (recX ((n, g, t, u, q), (sv (n, g, t, u, q) R)) A0).2) A0).2) A0).2) A0).2) h z1 (by omega) (by omega) S (nV_sv hV n8) hh
          refine ex_lv (lv2 := [(7, .int (nI (m + 1))), (6, .int most), (5, .int (nI best)), (4, .int ((bpG (n, g, t, u, q) p n 0 0 (-1)).2)), (3, .int (nI ((bpG (n, g, t, u, q) p n 0 0 (-1)).1))), (2, .int (nI n)), (1, .int (nI p)), (0, .ref b)]) [0, 2, 3, 10, 11, 12, 13, 14] rfl ?_
          exact e2

theorem c_isBest {G : GG} {l : Launch} {h0 : HP} {z b K p : Nat} {x : CX} (hp : p < x.1.1) (hV : nV x.2) (S0 : PP G h0 z b x) (ok : iv K x.1) (hK : K < 2 ^ 23) (hd : ¬ nI 9800 < x.1.2.2.2.1 6) : Ct G l 7 88 600 yL_isBest cL_isBest 15 (some .boolean) [.ref b, .int (nI p)] h0 z (pBt G b z x.1) := by
  obtain ⟨⟨n, g, t, u, q⟩, R⟩ := x
  exact c_isBestA hp hV S0 ok hK hd

