set_option maxRecDepth 20000 in
set_option maxHeartbeats 2000000 in
theorem c_cell {G : GG} {l : Launch} {h0 : HP} {z b L k : Nat} {xs : Nat → Int32} (hL : L ≤ 260) (hk : k < 1000) : CtX G l 0 0 0 yL_cell cL_cell 2 (some .int) [.ref b, .int (nI k)] h0 z b L xs (p0 (.int (clI xs L k)) h0 z) := by
  refine CtX.intro (lv := [(0, .ref b), (1, .int (nI k))]) (by decide +kernel) (Nat.le_of_ble_eq_true rfl) rfl (fun X Q hQ hX hbl hbA => ?_)
  refine ex_iload_n 1 dL_cell_0 rfl rfl ?_
  refine ex_aload_n 0 dL_cell_1 rfl rfl ?_
  refine ex_slen hX hbl hbA dL_cell_2 ?_
  refine ex_icmp_ge (tgt := 12) dL_cell_3 (by decide) (fun c_3 => ?_) (fun c_3 => ?_)
  · have n_3 : L ≤ k := (nI_leI (by omega) (by omega)).mp c_3
    refine ex_sipush (v := nI 7919) dL_cell_12 (by decide) ?_
    refine ex_iload_n 1 dL_cell_15 rfl rfl ?_
    refine ex_iconst (v := nI 3) dL_cell_16 (by decide) ?_
    refine ex_iaddN dL_cell_17 ?_
    refine ex_imulN dL_cell_18 ?_
    refine ex_iload_n 1 dL_cell_19 rfl rfl ?_
    refine ex_bipush (v := nI 11) dL_cell_20 (by decide) ?_
    refine ex_iaddN dL_cell_22 ?_
    refine ex_imulN dL_cell_23 ?_
    exact ex_iret hQ rfl ⟨by rw [clI, if_neg (by omega)], rfl, rfl⟩ dL_cell_24
  · have n_3 : ¬ (L ≤ k) := fun q9 => c_3 ((nI_leI (by omega) (by omega)).mpr q9)
    refine ex_aload_n 0 dL_cell_6 rfl rfl ?_
    refine ex_iload_n 1 dL_cell_7 rfl rfl ?_
    refine ex_sld (j := k) hX hbl hbA rfl (by omega) (by omega) dL_cell_8 ?_
    refine ex_goto (tgt := 24) dL_cell_9 (by decide) ?_
    exact ex_iret hQ rfl ⟨by rw [clI, if_pos (by omega)], rfl, rfl⟩ dL_cell_24

set_option maxRecDepth 20000 in
set_option maxHeartbeats 2000000 in
theorem law_ex {G : GG} {l : Launch} {X : CT} {Q : State → Prop} {b0 LL b : Nat} {xs : Nat → Int32} (hX : va_X b LL xs X.2.2.1 X.2.2.1.heap) (hbl : b < X.2.2.1.heap.size) (hbA : ¬ fr G b) (hL : LL ≤ 260) (hret : ∀ (h : HP) (z pc : Nat) (lv : List (Nat × Value)), decode cL_law pc = .ok (.ireturn, 1) → ex G l X Q 9 638151 7187795 638151 7187795 cL_law RL 3 (some .boolean) h z pc lv [.int (nI 1)]) : ex G l X Q 9 638151 7187795 0 0 cL_law RL 3 (some .boolean) (fun _ => none) b0 0 [(0, .ref b)] [] := by
  refine ex_new nl_L_9 (by decide) (by decide) dL_law_0 ?_
  refine ex_dup dL_law_3 rfl ?_
  refine ex_callI (As := []) vl_L_82 (c_Xinit hu_s) rfl (by decide) (Nat.le_of_ble_eq_true rfl) (by decide) (by decide) rfl dL_law_4 (fun r1 h1 z1 hp => ?_)
  obtain ⟨rfl, rfl, C1⟩ := hp
  have S : PP G h1 (b0 + 94) b0 x0 := C1.pp (fun _ _ _ => rfl)
  clear C1
  have ok0 : iv 100000 x0.1 := A0_iv (Nat.le_refl _)
  refine ex_astore_n (lv' := [(1, .ref b0), (0, .ref b)]) dL_law_7 rfl (by decide) rfl ?_
  refine ex_aload_n 0 dL_law_8 rfl rfl ?_
  refine ex_callS (As := [.ref b0]) vl_L_83 (c_areAll S ok0 (by omega)) rfl (by decide) (Nat.le_of_ble_eq_true rfl) (by omega) (by omega) rfl dL_law_9 (fun r1 h z1 hp1 => ?_)
  obtain ⟨rfl, rfl, S⟩ := hp1
  refine ex_if_eq (tgt := 52) dL_law_12 (by decide) (fun c_12 => absurd c_12 (by decide)) (fun c_12 => ?_)
  refine ex_aload_n 0 dL_law_15 rfl rfl ?_
  refine ex_iconst (v := nI 0) dL_law_16 (by decide) ?_
  refine ex_ch (As := [.int (nI 0)]) (v := (-6)) (x2 := x0) vl_L_24 rfl S (c_next S ok0.1.1 ok0.1.m3) (Prod.ext (X_next_0 (x := x0) rfl) rfl) rfl (by decide) (Nat.le_of_ble_eq_true rfl) (by omega) (by omega) rfl dL_law_17 (fun h S => ?_)
  refine ex_bipush (v := (-6)) dL_law_20 (by decide) ?_
  refine ex_icmp_ne (tgt := 52) dL_law_22 (by decide) (fun c_22 => absurd (rfl) c_22) (fun c_22 => ?_)
  refine ex_aload_n 0 dL_law_25 rfl rfl ?_
  refine ex_ch (As := []) (v := (-5)) (x2 := x0) vl_L_58 rfl S (c_stepDown S ok0.1.1.1 ok0.1.1.2.1) (rfl) rfl (by decide) (Nat.le_of_ble_eq_true rfl) (by omega) (by omega) rfl dL_law_26 (fun h S => ?_)
  refine ex_bipush (v := (-5)) dL_law_29 (by decide) ?_
  refine ex_icmp_ne (tgt := 52) dL_law_31 (by decide) (fun c_31 => absurd (rfl) c_31) (fun c_31 => ?_)
  refine ex_aload_n 0 dL_law_34 rfl rfl ?_
  refine ex_iconst (v := nI 0) dL_law_35 (by decide) ?_
  refine ex_ch (As := [.int (nI 0)]) (v := (-1)) (x2 := x0) vl_L_31 rfl S (c_appeal S ok0.1.1.1 ok0.1.1.2.1) (X_appeal_n (x := x0) (Nat.le_refl _) (by decide)) rfl (by decide) (Nat.le_of_ble_eq_true rfl) (by omega) (by omega) rfl dL_law_36 (fun h S => ?_)
  refine ex_iconst (v := (-1)) dL_law_39 (by decide) ?_
  refine ex_icmp_ne (tgt := 52) dL_law_40 (by decide) (fun c_40 => absurd (rfl) c_40) (fun c_40 => ?_)
  refine ex_aload_n 0 dL_law_43 rfl rfl ?_
  refine ex_ch (As := []) (v := (-5)) (x2 := x0) vl_L_86 rfl S (c_undo S (fun j hj => absurd hj (Nat.not_lt_zero _)) (by decide)) (rfl) rfl (by decide) (Nat.le_of_ble_eq_true rfl) (by omega) (by omega) rfl dL_law_44 (fun h S => ?_)
  refine ex_bipush (v := (-5)) dL_law_47 (by decide) ?_
  refine ex_icmp_eq (tgt := 54) dL_law_49 (by decide) (fun c_49 => ?_) (fun c_49 => absurd (rfl) c_49)
  refine ex_iconst (v := nI 0) dL_law_54 (by decide) ?_
  refine ex_istore_n (lv' := [(2, .int (nI 0)), (1, .ref b0), (0, .ref b)]) dL_law_55 rfl (by decide) rfl ?_
  suffices H : ∀ (k e : Nat) (x : CX) (h : HP) (z : Nat), e + k = 100 → iv (100000 + 300 * e) x.1 → nV x.2 → PP G h z b0 x → ex G l X Q 9 638151 7187795 (94 + 88 * e) (677 + 600 * e) cL_law RL 3 (some .boolean) h z 56 [(2, .int (nI e)), (1, .ref b0), (0, .ref b)] [] from by
    have e2 := H 100 0 x0 h (b0 + 94) (by omega) ok0 x0_nV S
    refine ex_lv (lv2 := [(2, .int (nI 0)), (1, .ref b0), (0, .ref b)]) [0, 1, 2] rfl ?_
    exact e2
  clear S ok0
  intro k
  induction k with
  | zero =>
    intro e x h z he ok hV S
    obtain ⟨⟨n, g, t, u, q⟩, R⟩ := x
    have ok1 := ok.1
    have wf : wfA (n, g, t, u, q) := ok1.1
    have n8 : n ≤ 8 := wf.1
    refine ex_iload_n 0 dL_law_56 rfl rfl ?_
    refine ex_bipush (v := nI 100) dL_law_57 (by decide) ?_
    refine ex_icmp_ge (tgt := 100) dL_law_59 (by decide) (fun c_59 => ?_) (fun c_59 => absurd ((nI_leI (by omega) (by omega)).mpr (by omega)) c_59)
    refine ex_aload_n 1 dL_law_100 rfl rfl ?_
    refine ex_iconst (v := nI 0) dL_law_101 (by decide) ?_
    refine ex_iconst (v := nI 1) dL_law_102 (by decide) ?_
    refine ex_ch (As := [.int (nI 0), .int (nI 1)]) (v := (-2)) (x2 := ((n, g, t, u, q), R)) vl_L_51 rfl S (c_add S n8) (bad_add1 (x := ((n, g, t, u, q), R))) rfl (by decide) (Nat.le_of_ble_eq_true rfl) (by omega) (by omega) rfl dL_law_103 (fun h S => ?_)
    refine ex_bipush (v := (-2)) dL_law_106 (by decide) ?_
    refine ex_icmp_ne (tgt := 205) dL_law_108 (by decide) (fun c_108 => absurd (rfl) c_108) (fun c_108 => ?_)
    refine ex_aload_n 1 dL_law_111 rfl rfl ?_
    refine ex_iconst (v := nI 1) dL_law_112 (by decide) ?_
    refine ex_bipush (v := nI 101) dL_law_113 (by decide) ?_
    refine ex_ch (As := [.int (nI 1), .int (nI 101)]) (v := (-2)) (x2 := ((n, g, t, u, q), R)) vl_L_51 rfl S (c_add S n8) (bad_add2 (x := ((n, g, t, u, q), R))) rfl (by decide) (Nat.le_of_ble_eq_true rfl) (by omega) (by omega) rfl dL_law_115 (fun h S => ?_)
    refine ex_bipush (v := (-2)) dL_law_118 (by decide) ?_
    refine ex_icmp_ne (tgt := 205) dL_law_120 (by decide) (fun c_120 => absurd (rfl) c_120) (fun c_120 => ?_)
    refine ex_aload_n 1 dL_law_123 rfl rfl ?_
    refine ex_iconst (v := nI 0) dL_law_124 (by decide) ?_
    refine ex_ch (As := [.int (nI 0)]) (v := (-2)) (x2 := ((n, g, t, u, q), R)) vl_L_65 rfl S (c_give S n8) (bad_give (x := ((n, g, t, u, q), R))) rfl (by decide) (Nat.le_of_ble_eq_true rfl) (by omega) (by omega) rfl dL_law_125 (fun h S => ?_)
    refine ex_bipush (v := (-2)) dL_law_128 (by decide) ?_
    refine ex_icmp_ne (tgt := 205) dL_law_130 (by decide) (fun c_130 => absurd (rfl) c_130) (fun c_130 => ?_)
    refine ex_aload_n 1 dL_law_133 rfl rfl ?_
    refine ex_bipush (v := nI 100) dL_law_134 (by decide) ?_
    refine ex_ch (As := [.int (nI 100)]) (v := (-2)) (x2 := ((n, g, t, u, q), R)) vl_L_18 rfl S (c_pass S wf ok1.m3) (bad_pass (x := ((n, g, t, u, q), R))) rfl (by decide) (Nat.le_of_ble_eq_true rfl) (by omega) (by omega) rfl dL_law_136 (fun h S => ?_)
    refine ex_bipush (v := (-2)) dL_law_139 (by decide) ?_
    refine ex_icmp_ne (tgt := 205) dL_law_141 (by decide) (fun c_141 => absurd (rfl) c_141) (fun c_141 => ?_)
    refine ex_aload_n 1 dL_law_144 rfl rfl ?_
    refine ex_iconst (v := nI 3) dL_law_145 (by decide) ?_
    refine ex_iconst (v := nI 4) dL_law_146 (by decide) ?_
    refine ex_ch (As := [.int (nI 3), .int (nI 4)]) (v := (-2)) (x2 := ((n, g, t, u, q), R)) vl_L_69 rfl S (c_set S n8) (bad_set1 (x := ((n, g, t, u, q), R))) rfl (by decide) (Nat.le_of_ble_eq_true rfl) (by omega) (by omega) rfl dL_law_147 (fun h S => ?_)
    refine ex_bipush (v := (-2)) dL_law_150 (by decide) ?_
    refine ex_icmp_ne (tgt := 205) dL_law_152 (by decide) (fun c_152 => absurd (rfl) c_152) (fun c_152 => ?_)
    refine ex_aload_n 1 dL_law_155 rfl rfl ?_
    refine ex_bipush (v := nI 6) dL_law_156 (by decide) ?_
    refine ex_iconst (v := nI 0) dL_law_158 (by decide) ?_
    refine ex_ch (As := [.int (nI 6), .int (nI 0)]) (v := (-2)) (x2 := ((n, g, t, u, q), R)) vl_L_69 rfl S (c_set S n8) (bad_set2 (x := ((n, g, t, u, q), R))) rfl (by decide) (Nat.le_of_ble_eq_true rfl) (by omega) (by omega) rfl dL_law_159 (fun h S => ?_)
    refine ex_bipush (v := (-2)) dL_law_162 (by decide) ?_
    refine ex_icmp_ne (tgt := 205) dL_law_164 (by decide) (fun c_164 => absurd (rfl) c_164) (fun c_164 => ?_)
    refine ex_aload_n 1 dL_law_167 rfl rfl ?_
    refine ex_sipush (v := nI 501) dL_law_168 (by decide) ?_
    refine ex_iconst (v := nI 0) dL_law_171 (by decide) ?_
    refine ex_ch (As := [.int (nI 501), .int (nI 0)]) (v := (-2)) (x2 := ((n, g, t, u, q), R)) vl_L_21 rfl S (c_ifPassed S wf ok1.m3) ((by rw [bad_ifp (x := ((n, g, t, u, q), R))])) rfl (by decide) (Nat.le_of_ble_eq_true rfl) (by omega) (by omega) rfl dL_law_172 (fun h S => ?_)
    refine ex_bipush (v := (-2)) dL_law_175 (by decide) ?_
    refine ex_icmp_ne (tgt := 205) dL_law_177 (by decide) (fun c_177 => absurd (rfl) c_177) (fun c_177 => ?_)
    refine ex_aload_n 1 dL_law_180 rfl rfl ?_
    refine ex_iconst (v := nI 2) dL_law_181 (by decide) ?_
    refine ex_ch (As := [.int (nI 2)]) (v := (-2)) (x2 := ((n, g, t, u, q), R)) vl_L_24 rfl S (c_next S wf ok1.m3) ((by rw [bad_next (x := ((n, g, t, u, q), R))])) rfl (by decide) (Nat.le_of_ble_eq_true rfl) (by omega) (by omega) rfl dL_law_182 (fun h S => ?_)
    refine ex_bipush (v := (-2)) dL_law_185 (by decide) ?_
    refine ex_icmp_ne (tgt := 205) dL_law_187 (by decide) (fun c_187 => absurd (rfl) c_187) (fun c_187 => ?_)
    refine ex_aload_n 1 dL_law_190 rfl rfl ?_
    refine ex_bipush (v := nI 21) dL_law_191 (by decide) ?_
    refine ex_ch (As := [.int (nI 21)]) (v := (-2)) (x2 := ((n, g, t, u, q), R)) vl_L_8 rfl S (c_count S n8 wf.2.1) ((by rw [bad_count (x := ((n, g, t, u, q), R))])) rfl (by decide) (Nat.le_of_ble_eq_true rfl) (by omega) (by omega) rfl dL_law_193 (fun h S => ?_)
    refine ex_bipush (v := (-2)) dL_law_196 (by decide) ?_
    refine ex_icmp_ne (tgt := 205) dL_law_198 (by decide) (fun c_198 => absurd (rfl) c_198) (fun c_198 => ?_)
    refine ex_iconst (v := nI 1) dL_law_201 (by decide) ?_
    refine ex_goto (tgt := 206) dL_law_202 (by decide) ?_
    refine ex_widen (c2 := 638151) (s2 := 7187795) (by omega) (by omega) ?_
    exact hret _ _ _ _ dL_law_206
  | succ k ih =>
    intro e x h z he ok hV S
    refine ex_iload_n 0 dL_law_56 rfl rfl ?_
    refine ex_bipush (v := nI 100) dL_law_57 (by decide) ?_
    refine ex_icmp_ge (tgt := 100) dL_law_59 (by decide) (fun c_59 => absurd c_59 (fun q9 => absurd ((nI_leI (by omega) (by omega)).mp q9) (by omega))) (fun c_59 => ?_)
    refine ex_aload_n 1 dL_law_62 rfl rfl ?_
    refine ex_aload_n 2 dL_law_63 rfl rfl ?_
    refine ex_iconst (v := nI 2) dL_law_64 (by decide) ?_
    refine ex_iload_n 0 dL_law_65 rfl rfl ?_
    refine ex_imulN dL_law_66 ?_
    refine ex_callX (As := [.ref b, .int (nI (2 * e))]) (v := .int (clI xs LL (2 * e))) hX hbl hbA vl_L_89 (c_cell hL (by omega)) rfl (by decide) (Nat.le_of_ble_eq_true rfl) (by omega) (by omega) rfl dL_law_67 ?_
    refine ex_aload_n 2 dL_law_70 rfl rfl ?_
    refine ex_iconst (v := nI 2) dL_law_71 (by decide) ?_
    refine ex_iload_n 0 dL_law_72 rfl rfl ?_
    refine ex_imulN dL_law_73 ?_
    refine ex_iconst (v := nI 1) dL_law_74 (by decide) ?_
    refine ex_iaddN dL_law_75 ?_
    refine ex_callX (As := [.ref b, .int (nI (2 * e + 1))]) (v := .int (clI xs LL (2 * e + 1))) hX hbl hbA vl_L_89 (c_cell hL (by omega)) rfl (by decide) (Nat.le_of_ble_eq_true rfl) (by omega) (by omega) rfl dL_law_76 ?_
    refine ex_callS (As := [.ref b0, .int (clI xs LL (2 * e)), .int (clI xs LL (2 * e + 1))]) vl_L_93 (c_does S ok (by omega) (by omega) hV) rfl (by decide) (Nat.le_of_ble_eq_true rfl) (by omega) (by omega) rfl dL_law_79 (fun r1 h z1 hp1 => ?_)
    obtain ⟨rfl, hz, x2, S, ok2, hV2⟩ := hp1
    refine ex_if_eq (tgt := 92) dL_law_82 (by decide) (fun c_82 => absurd c_82 (by decide)) (fun c_82 => ?_)
    refine ex_aload_n 1 dL_law_85 rfl rfl ?_
    refine ex_callS (As := [.ref b0]) vl_L_83 (c_areAll S ok2 (by omega)) rfl (by decide) (Nat.le_of_ble_eq_true rfl) (by omega) (by omega) rfl dL_law_86 (fun r1 h z1 hp1 => ?_)
    obtain ⟨rfl, rfl, S⟩ := hp1
    refine ex_if_ne (tgt := 94) dL_law_89 (by decide) (fun c_89 => ?_) (fun c_89 => absurd c_89 (by decide))
    refine ex_iinc (v := nI (e + 1)) (lv' := [(2, .int (nI (e + 1))), (1, .ref b0), (0, .ref b)]) 0 dL_law_94 rfl (nI_1 e) (by decide) rfl ?_
    refine ex_goto (tgt := 56) dL_law_97 (by decide) ?_
    refine ex_widen (c2 := 94 + 88 * (e + 1)) (s2 := 677 + 600 * (e + 1)) (by omega) (by omega) ?_
    have e2 := ih (e + 1) x2 h _ (by omega) (ok2.up (by omega)) hV2 S
    refine ex_lv (lv2 := [(2, .int (nI (e + 1))), (1, .ref b0), (0, .ref b)]) [0, 1, 2] rfl ?_
    exact e2

