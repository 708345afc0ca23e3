set_option maxRecDepth 20000 in
set_option maxHeartbeats 2000000 in
theorem c_isMovedN {G : GG} {l : Launch} {h0 : HP} {z b : Nat} {n : Nat} {t : Nat} {u : Nat → Int32} {q : Nat → Nat → Int32} {R : RX} {K : Nat} {p y : Nat} (hp : p < n) (hy : y < n) (S0 : PP G h0 z b ((n, none, t, u, q), R)) (ok : iv K (n, none, t, u, q)) (hK : K < 2 ^ 23) : Ct G l 4 0 0 yL_isMoved cL_isMoved 13 (some .boolean) [.ref b, .int (nI p), .int (nI y)] h0 z (pL G b z (X_move ((n, none, t, u, q), R) (nI p) (nI y)).2) := by
  refine Ct.intro (lv := [(0, .ref b), (1, .int (nI p)), (2, .int (nI y))]) (by decide +kernel) (Nat.le_of_ble_eq_true rfl) rfl (fun X Q hQ hnm => ?_)
  have S := S0
  have wf : wfA (n, none, t, u, q) := ok.1.1
  have n8 : n ≤ 8 := wf.1
  have tw : t < n ∨ t = 0 := wf.2.2
  have ok1 := ok.1
  have ow := ok.2
  have wf2 : wfA (n, none, (mvP t p y), u, (fun a b => q (mvI p y a) b)) := moveA_wf wf hp hy
  have hon : t < n := by omega
  have hom := mvP_lt hon hp hy
  have hpost : (X_move ((n, none, t, u, q), R) (nI p) (nI y)).2 = ((n, none, (mvP t p y), u, (fun a b => q (mvI p y a) b)), (recX ((n, none, t, u, q), R) A0).2) := by rw [X_move_k hp hy n8]; rfl
  rw [hpost] at hQ
  refine ex_aload_n 0 dL_isMoved_0 rfl rfl ?_
  refine ex_bipush (v := nI 7) dL_isMoved_1 (by decide) ?_
  refine ex_cnt (k := 7) (v := nI n) vl_L_8 S wf (by decide) rfl (by decide) (Nat.le_of_ble_eq_true rfl) (Nat.le_refl _) (Nat.le_refl _) dL_isMoved_3 (fun h S => ?_)
  refine ex_istore_n (lv' := [(3, .int (nI n)), (0, .ref b), (1, .int (nI p)), (2, .int (nI y))]) dL_isMoved_6 rfl (by decide) rfl ?_
  refine ex_aload_n 1 dL_isMoved_7 rfl rfl ?_
  refine ex_bipush (v := nI 9) dL_isMoved_8 (by decide) ?_
  refine ex_cnt (k := 9) (v := (-6)) vl_L_8 S wf (by decide) rfl (by decide) (Nat.le_of_ble_eq_true rfl) (Nat.le_refl _) (Nat.le_refl _) dL_isMoved_10 (fun h S => ?_)
  refine ex_istore (lv' := [(4, .int (-6)), (3, .int (nI n)), (0, .ref b), (1, .int (nI p)), (2, .int (nI y))]) dL_isMoved_13 (by decide) rfl ?_
  refine ex_aload_n 2 dL_isMoved_15 rfl rfl ?_
  refine ex_bipush (v := nI 10) dL_isMoved_16 (by decide) ?_
  refine ex_cnt (k := 10) (v := nI t) vl_L_8 S wf (by decide) rfl (by decide) (Nat.le_of_ble_eq_true rfl) (Nat.le_refl _) (Nat.le_refl _) dL_isMoved_18 (fun h S => ?_)
  refine ex_istore (lv' := [(5, .int (nI t)), (4, .int (-6)), (3, .int (nI n)), (0, .ref b), (1, .int (nI p)), (2, .int (nI y))]) dL_isMoved_21 (by decide) rfl ?_
  refine ex_aload_n 3 dL_isMoved_23 rfl rfl ?_
  refine ex_iload_n 4 dL_isMoved_24 rfl rfl ?_
  refine ex_iconst (v := nI 0) dL_isMoved_25 (by decide) ?_
  refine ex_per (j := p) (k := 0) (v := q p 0) vl_L_14 S wf hp (by decide) rfl (by decide) (Nat.le_of_ble_eq_true rfl) (Nat.le_refl _) (Nat.le_refl _) dL_isMoved_26 (fun h S => ?_)
  refine ex_istore (lv' := [(6, .int (q p 0)), (5, .int (nI t)), (4, .int (-6)), (3, .int (nI n)), (0, .ref b), (1, .int (nI p)), (2, .int (nI y))]) dL_isMoved_29 (by decide) rfl ?_
  refine ex_aload_n 4 dL_isMoved_31 rfl rfl ?_
  refine ex_iload_n 5 dL_isMoved_32 rfl rfl ?_
  refine ex_iconst (v := nI 3) dL_isMoved_33 (by decide) ?_
  refine ex_per (j := p) (k := 3) (v := q p 3) vl_L_14 S wf hp (by decide) rfl (by decide) (Nat.le_of_ble_eq_true rfl) (Nat.le_refl _) (Nat.le_refl _) dL_isMoved_34 (fun h S => ?_)
  refine ex_istore (lv' := [(7, .int (q p 3)), (6, .int (q p 0)), (5, .int (nI t)), (4, .int (-6)), (3, .int (nI n)), (0, .ref b), (1, .int (nI p)), (2, .int (nI y))]) dL_isMoved_37 (by decide) rfl ?_
  refine ex_iload 3 dL_isMoved_39 rfl ?_
  refine ex_if_lt (tgt := 49) dL_isMoved_41 (by decide) (fun c_41 => ?_) (fun c_41 => absurd (by decide) c_41)
  refine ex_iload 2 dL_isMoved_49 rfl ?_
  refine ex_istore (lv' := [(8, .int (nI t)), (7, .int (q p 3)), (6, .int (q p 0)), (5, .int (nI t)), (4, .int (-6)), (3, .int (nI n)), (0, .ref b), (1, .int (nI p)), (2, .int (nI y))]) dL_isMoved_51 (by decide) rfl ?_
  refine ex_iload 0 dL_isMoved_53 rfl ?_
  refine ex_iload_n 5 dL_isMoved_55 rfl rfl ?_
  refine ex_icmp_ge (tgt := 70) dL_isMoved_56 (by decide) (fun c_56 => absurd c_56 (fun q9 => absurd ((nI_leI (by omega) (by omega)).mp q9) (by omega))) (fun c_56 => ?_)
  refine ex_aload_n 6 dL_isMoved_59 rfl rfl ?_
  refine ex_iload 0 dL_isMoved_60 rfl ?_
  refine ex_bipush (v := nI 7) dL_isMoved_62 (by decide) ?_
  refine ex_per (j := t) (k := 7) (v := q t 5) vl_L_14 S wf hon (by decide) rfl (by decide) (Nat.le_of_ble_eq_true rfl) (Nat.le_refl _) (Nat.le_refl _) dL_isMoved_64 (fun h S => ?_)
  refine ex_goto (tgt := 71) dL_isMoved_67 (by decide) ?_
  refine ex_istore (lv' := [(9, .int (q t 5)), (8, .int (nI t)), (7, .int (q p 3)), (6, .int (q p 0)), (5, .int (nI t)), (4, .int (-6)), (3, .int (nI n)), (0, .ref b), (1, .int (nI p)), (2, .int (nI y))]) dL_isMoved_71 (by decide) rfl ?_
  refine ex_aload_n 7 dL_isMoved_73 rfl rfl ?_
  refine ex_iload_n 8 dL_isMoved_74 rfl rfl ?_
  refine ex_iload_n 9 dL_isMoved_75 rfl rfl ?_
  refine ex_ch (As := [.int (nI p), .int (nI y)]) (v := nI (if p = y then 0 else (if p < y then y - p else p - y) + 1)) (x2 := ((n, none, (mvP t p y), u, (fun a b => q (mvI p y a) b)), (recX ((n, none, t, u, q), R) A0).2)) vl_L_40 rfl S (c_move S n8 wf.2.1 wf.2.2) (X_move_k hp hy n8) rfl (by decide) (Nat.le_of_ble_eq_true rfl) (Nat.le_refl _) (Nat.le_refl _) rfl dL_isMoved_76 (fun h S => ?_)
  refine ex_istore (lv' := [(10, .int (nI (if p = y then 0 else (if p < y then y - p else p - y) + 1))), (9, .int (q t 5)), (8, .int (nI t)), (7, .int (q p 3)), (6, .int (q p 0)), (5, .int (nI t)), (4, .int (-6)), (3, .int (nI n)), (0, .ref b), (1, .int (nI p)), (2, .int (nI y))]) dL_isMoved_79 (by decide) rfl ?_
  refine ex_iload 6 dL_isMoved_81 rfl ?_
  refine ex_if_lt (tgt := 95) dL_isMoved_83 (by decide) (fun c_83 => ?_) (fun c_83 => absurd (by decide) c_83)
  refine ex_aload_n 8 dL_isMoved_95 rfl rfl ?_
  refine ex_bipush (v := nI 10) dL_isMoved_96 (by decide) ?_
  refine ex_cnt (k := 10) (v := nI (mvP t p y)) vl_L_8 S wf2 (by decide) rfl (by decide) (Nat.le_of_ble_eq_true rfl) (Nat.le_refl _) (Nat.le_refl _) dL_isMoved_98 (fun h S => ?_)
  refine ex_istore (lv' := [(11, .int (nI (mvP t p y))), (10, .int (nI (if p = y then 0 else (if p < y then y - p else p - y) + 1))), (9, .int (q t 5)), (8, .int (nI t)), (7, .int (q p 3)), (6, .int (q p 0)), (5, .int (nI t)), (4, .int (-6)), (3, .int (nI n)), (0, .ref b), (1, .int (nI p)), (2, .int (nI y))]) dL_isMoved_101 (by decide) rfl ?_
  refine ex_iload 3 dL_isMoved_103 rfl ?_
  refine ex_iload_n 10 dL_isMoved_105 rfl rfl ?_
  refine ex_icmp_ne (tgt := 113) dL_isMoved_106 (by decide) (fun c_106 => ?_) (fun c_106 => ?_)
  · have n_106 : ¬ (t = p) := fun q9 => c_106 ((nI_eq (by omega) (by omega)).mpr q9)
    refine ex_iload 3 dL_isMoved_113 rfl ?_
    refine ex_iload_n 10 dL_isMoved_115 rfl rfl ?_
    refine ex_icmp_le (tgt := 132) dL_isMoved_116 (by decide) (fun c_116 => ?_) (fun c_116 => ?_)
    · have n_116 : t ≤ p := (nI_leI (by omega) (by omega)).mp c_116
      refine ex_iload 3 dL_isMoved_132 rfl ?_
      refine ex_iload_n 10 dL_isMoved_134 rfl rfl ?_
      refine ex_icmp_ge (tgt := 151) dL_isMoved_135 (by decide) (fun c_135 => ?_) (fun c_135 => ?_)
      · have n_135 : p ≤ t := (nI_leI (by omega) (by omega)).mp c_135
        refine ex_iload 3 dL_isMoved_151 rfl ?_
        refine ex_istore (lv' := [(12, .int (nI t)), (11, .int (nI (mvP t p y))), (10, .int (nI (if p = y then 0 else (if p < y then y - p else p - y) + 1))), (9, .int (q t 5)), (8, .int (nI t)), (7, .int (q p 3)), (6, .int (q p 0)), (5, .int (nI t)), (4, .int (-6)), (3, .int (nI n)), (0, .ref b), (1, .int (nI p)), (2, .int (nI y))]) dL_isMoved_153 (by decide) rfl ?_
        refine ex_iload 2 dL_isMoved_155 rfl ?_
        refine ex_if_lt (tgt := 233) dL_isMoved_157 (by decide) (fun c_157 => absurd c_157 (nI_pos (by (repeat' split) <;> omega))) (fun c_157 => ?_)
        refine ex_iload 1 dL_isMoved_160 rfl ?_
        refine ex_iload 0 dL_isMoved_162 rfl ?_
        refine ex_icmp_ne (tgt := 233) dL_isMoved_164 (by decide) (fun c_164 => absurd (congrArg nI (show (mvP t p y) = t by unfold mvP; (repeat' split) <;> omega)) c_164) (fun c_164 => ?_)
        refine ex_aload_n 10 dL_isMoved_167 rfl rfl ?_
        refine ex_bipush (v := nI 9) dL_isMoved_168 (by decide) ?_
        refine ex_cnt (k := 9) (v := (-6)) vl_L_8 S wf2 (by decide) rfl (by decide) (Nat.le_of_ble_eq_true rfl) (Nat.le_refl _) (Nat.le_refl _) dL_isMoved_170 (fun h S => ?_)
        refine ex_if_lt (tgt := 180) dL_isMoved_173 (by decide) (fun c_173 => ?_) (fun c_173 => absurd (by decide) c_173)
        refine ex_iconst (v := nI 0) dL_isMoved_180 (by decide) ?_
        refine ex_iload 8 dL_isMoved_181 rfl ?_
        refine ex_if_lt (tgt := 190) dL_isMoved_183 (by decide) (fun c_183 => ?_) (fun c_183 => absurd (by decide) c_183)
        refine ex_iconst (v := nI 0) dL_isMoved_190 (by decide) ?_
        refine ex_icmp_ne (tgt := 233) dL_isMoved_191 (by decide) (fun c_191 => absurd (rfl) c_191) (fun c_191 => ?_)
        refine ex_aload_n 10 dL_isMoved_194 rfl rfl ?_
        refine ex_iload_n 12 dL_isMoved_195 rfl rfl ?_
        refine ex_iconst (v := nI 0) dL_isMoved_196 (by decide) ?_
        refine ex_per (j := y) (k := 0) (v := (fun a b => q (mvI p y a) b) y 0) vl_L_14 S wf2 hy (by decide) rfl (by decide) (Nat.le_of_ble_eq_true rfl) (Nat.le_refl _) (Nat.le_refl _) dL_isMoved_197 (fun h S => ?_)
        refine ex_iload 6 dL_isMoved_200 rfl ?_
        refine ex_icmp_ne (tgt := 233) dL_isMoved_202 (by decide) (fun c_202 => absurd (congrArg (fun a => q a 0) mvI_y) c_202) (fun c_202 => ?_)
        refine ex_aload_n 10 dL_isMoved_205 rfl rfl ?_
        refine ex_iload_n 12 dL_isMoved_206 rfl rfl ?_
        refine ex_iconst (v := nI 3) dL_isMoved_207 (by decide) ?_
        refine ex_per (j := y) (k := 3) (v := (fun a b => q (mvI p y a) b) y 3) vl_L_14 S wf2 hy (by decide) rfl (by decide) (Nat.le_of_ble_eq_true rfl) (Nat.le_refl _) (Nat.le_refl _) dL_isMoved_208 (fun h S => ?_)
        refine ex_iload 5 dL_isMoved_211 rfl ?_
        refine ex_icmp_ne (tgt := 233) dL_isMoved_213 (by decide) (fun c_213 => absurd (congrArg (fun a => q a 3) mvI_y) c_213) (fun c_213 => ?_)
        refine ex_aload_n 10 dL_isMoved_216 rfl rfl ?_
        refine ex_iload 1 dL_isMoved_217 rfl ?_
        refine ex_bipush (v := nI 7) dL_isMoved_219 (by decide) ?_
        refine ex_per (j := (mvP t p y)) (k := 7) (v := (fun a b => q (mvI p y a) b) (mvP t p y) 5) vl_L_14 S wf2 (mvP_lt hon hp hy) (by decide) rfl (by decide) (Nat.le_of_ble_eq_true rfl) (Nat.le_refl _) (Nat.le_refl _) dL_isMoved_221 (fun h S => ?_)
        refine ex_iload 3 dL_isMoved_224 rfl ?_
        refine ex_icmp_ne (tgt := 233) dL_isMoved_226 (by decide) (fun c_226 => absurd (congrArg (fun a => q a 5) mv_mv) c_226) (fun c_226 => ?_)
        refine ex_iconst (v := nI 1) dL_isMoved_229 (by decide) ?_
        refine ex_goto (tgt := 234) dL_isMoved_230 (by decide) ?_
        exact ex_zret hQ rfl (by decide) ⟨rfl, rfl, S⟩ dL_isMoved_234
      · have n_135 : ¬ (p ≤ t) := fun q9 => c_135 ((nI_leI (by omega) (by omega)).mpr q9)
        refine ex_iload 3 dL_isMoved_138 rfl ?_
        refine ex_iload_n 11 dL_isMoved_140 rfl rfl ?_
        refine ex_icmp_lt (tgt := 151) dL_isMoved_141 (by decide) (fun c_141 => ?_) (fun c_141 => ?_)
        · have n_141 : t < y := (nI_ltI (by omega) (by omega)).mp c_141
          refine ex_iload 3 dL_isMoved_151 rfl ?_
          refine ex_istore (lv' := [(12, .int (nI t)), (11, .int (nI (mvP t p y))), (10, .int (nI (if p = y then 0 else (if p < y then y - p else p - y) + 1))), (9, .int (q t 5)), (8, .int (nI t)), (7, .int (q p 3)), (6, .int (q p 0)), (5, .int (nI t)), (4, .int (-6)), (3, .int (nI n)), (0, .ref b), (1, .int (nI p)), (2, .int (nI y))]) dL_isMoved_153 (by decide) rfl ?_
          refine ex_iload 2 dL_isMoved_155 rfl ?_
          refine ex_if_lt (tgt := 233) dL_isMoved_157 (by decide) (fun c_157 => absurd c_157 (nI_pos (by (repeat' split) <;> omega))) (fun c_157 => ?_)
          refine ex_iload 1 dL_isMoved_160 rfl ?_
          refine ex_iload 0 dL_isMoved_162 rfl ?_
          refine ex_icmp_ne (tgt := 233) dL_isMoved_164 (by decide) (fun c_164 => absurd (congrArg nI (show (mvP t p y) = t by unfold mvP; (repeat' split) <;> omega)) c_164) (fun c_164 => ?_)
          refine ex_aload_n 10 dL_isMoved_167 rfl rfl ?_
          refine ex_bipush (v := nI 9) dL_isMoved_168 (by decide) ?_
          refine ex_cnt (k := 9) (v := (-6)) vl_L_8 S wf2 (by decide) rfl (by decide) (Nat.le_of_ble_eq_true rfl) (Nat.le_refl _) (Nat.le_refl _) dL_isMoved_170 (fun h S => ?_)
          refine ex_if_lt (tgt := 180) dL_isMoved_173 (by decide) (fun c_173 => ?_) (fun c_173 => absurd (by decide) c_173)
          refine ex_iconst (v := nI 0) dL_isMoved_180 (by decide) ?_
          refine ex_iload 8 dL_isMoved_181 rfl ?_
          refine ex_if_lt (tgt := 190) dL_isMoved_183 (by decide) (fun c_183 => ?_) (fun c_183 => absurd (by decide) c_183)
          refine ex_iconst (v := nI 0) dL_isMoved_190 (by decide) ?_
          refine ex_icmp_ne (tgt := 233) dL_isMoved_191 (by decide) (fun c_191 => absurd (rfl) c_191) (fun c_191 => ?_)
          refine ex_aload_n 10 dL_isMoved_194 rfl rfl ?_
          refine ex_iload_n 12 dL_isMoved_195 rfl rfl ?_
          refine ex_iconst (v := nI 0) dL_isMoved_196 (by decide) ?_
          refine ex_per (j := y) (k := 0) (v := (fun a b => q (mvI p y a) b) y 0) vl_L_14 S wf2 hy (by decide) rfl (by decide) (Nat.le_of_ble_eq_true rfl) (Nat.le_refl _) (Nat.le_refl _) dL_isMoved_197 (fun h S => ?_)
          refine ex_iload 6 dL_isMoved_200 rfl ?_
          refine ex_icmp_ne (tgt := 233) dL_isMoved_202 (by decide) (fun c_202 => absurd (congrArg (fun a => q a 0) mvI_y) c_202) (fun c_202 => ?_)
          refine ex_aload_n 10 dL_isMoved_205 rfl rfl ?_
          refine ex_iload_n 12 dL_isMoved_206 rfl rfl ?_
          refine ex_iconst (v := nI 3) dL_isMoved_207 (by decide) ?_
          refine ex_per (j := y) (k := 3) (v := (fun a b => q (mvI p y a) b) y 3) vl_L_14 S wf2 hy (by decide) rfl (by decide) (Nat.le_of_ble_eq_true rfl) (Nat.le_refl _) (Nat.le_refl _) dL_isMoved_208 (fun h S => ?_)
          refine ex_iload 5 dL_isMoved_211 rfl ?_
          refine ex_icmp_ne (tgt := 233) dL_isMoved_213 (by decide) (fun c_213 => absurd (congrArg (fun a => q a 3) mvI_y) c_213) (fun c_213 => ?_)
          refine ex_aload_n 10 dL_isMoved_216 rfl rfl ?_
          refine ex_iload 1 dL_isMoved_217 rfl ?_
          refine ex_bipush (v := nI 7) dL_isMoved_219 (by decide) ?_
          refine ex_per (j := (mvP t p y)) (k := 7) (v := (fun a b => q (mvI p y a) b) (mvP t p y) 5) vl_L_14 S wf2 (mvP_lt hon hp hy) (by decide) rfl (by decide) (Nat.le_of_ble_eq_true rfl) (Nat.le_refl _) (Nat.le_refl _) dL_isMoved_221 (fun h S => ?_)
          refine ex_iload 3 dL_isMoved_224 rfl ?_
          refine ex_icmp_ne (tgt := 233) dL_isMoved_226 (by decide) (fun c_226 => absurd (congrArg (fun a => q a 5) mv_mv) c_226) (fun c_226 => ?_)
          refine ex_iconst (v := nI 1) dL_isMoved_229 (by decide) ?_
          refine ex_goto (tgt := 234) dL_isMoved_230 (by decide) ?_
          exact ex_zret hQ rfl (by decide) ⟨rfl, rfl, S⟩ dL_isMoved_234
        · have n_141 : ¬ (t < y) := fun q9 => c_141 ((nI_ltI (by omega) (by omega)).mpr q9)
          refine ex_iload 3 dL_isMoved_144 rfl ?_
          refine ex_iconst (v := nI 1) dL_isMoved_146 (by decide) ?_
          refine ex_iaddN dL_isMoved_147 ?_
          refine ex_goto (tgt := 153) dL_isMoved_148 (by decide) ?_
          refine ex_istore (lv' := [(12, .int (nI (t + 1))), (11, .int (nI (mvP t p y))), (10, .int (nI (if p = y then 0 else (if p < y then y - p else p - y) + 1))), (9, .int (q t 5)), (8, .int (nI t)), (7, .int (q p 3)), (6, .int (q p 0)), (5, .int (nI t)), (4, .int (-6)), (3, .int (nI n)), (0, .ref b), (1, .int (nI p)), (2, .int (nI y))]) dL_isMoved_153 (by decide) rfl ?_
          refine ex_iload 2 dL_isMoved_155 rfl ?_
          refine ex_if_lt (tgt := 233) dL_isMoved_157 (by decide) (fun c_157 => absurd c_157 (nI_pos (by (repeat' split) <;> omega))) (fun c_157 => ?_)
          refine ex_iload 1 dL_isMoved_160 rfl ?_
          refine ex_iload 0 dL_isMoved_162 rfl ?_
          refine ex_icmp_ne (tgt := 233) dL_isMoved_164 (by decide) (fun c_164 => absurd (congrArg nI (show (mvP t p y) = t + 1 by unfold mvP; (repeat' split) <;> omega)) c_164) (fun c_164 => ?_)
          refine ex_aload_n 10 dL_isMoved_167 rfl rfl ?_
          refine ex_bipush (v := nI 9) dL_isMoved_168 (by decide) ?_
          refine ex_cnt (k := 9) (v := (-6)) vl_L_8 S wf2 (by decide) rfl (by decide) (Nat.le_of_ble_eq_true rfl) (Nat.le_refl _) (Nat.le_refl _) dL_isMoved_170 (fun h S => ?_)
          refine ex_if_lt (tgt := 180) dL_isMoved_173 (by decide) (fun c_173 => ?_) (fun c_173 => absurd (by decide) c_173)
          refine ex_iconst (v := nI 0) dL_isMoved_180 (by decide) ?_
          refine ex_iload 8 dL_isMoved_181 rfl ?_
          refine ex_if_lt (tgt := 190) dL_isMoved_183 (by decide) (fun c_183 => ?_) (fun c_183 => absurd (by decide) c_183)
          refine ex_iconst (v := nI 0) dL_isMoved_190 (by decide) ?_
          refine ex_icmp_ne (tgt := 233) dL_isMoved_191 (by decide) (fun c_191 => absurd (rfl) c_191) (fun c_191 => ?_)
          refine ex_aload_n 10 dL_isMoved_194 rfl rfl ?_
          refine ex_iload_n 12 dL_isMoved_195 rfl rfl ?_
          refine ex_iconst (v := nI 0) dL_isMoved_196 (by decide) ?_
          refine ex_per (j := y) (k := 0) (v := (fun a b => q (mvI p y a) b) y 0) vl_L_14 S wf2 hy (by decide) rfl (by decide) (Nat.le_of_ble_eq_true rfl) (Nat.le_refl _) (Nat.le_refl _) dL_isMoved_197 (fun h S => ?_)
          refine ex_iload 6 dL_isMoved_200 rfl ?_
          refine ex_icmp_ne (tgt := 233) dL_isMoved_202 (by decide) (fun c_202 => absurd (congrArg (fun a => q a 0) mvI_y) c_202) (fun c_202 => ?_)
          refine ex_aload_n 10 dL_isMoved_205 rfl rfl ?_
          refine ex_iload_n 12 dL_isMoved_206 rfl rfl ?_
          refine ex_iconst (v := nI 3) dL_isMoved_207 (by decide) ?_
          refine ex_per (j := y) (k := 3) (v := (fun a b => q (mvI p y a) b) y 3) vl_L_14 S wf2 hy (by decide) rfl (by decide) (Nat.le_of_ble_eq_true rfl) (Nat.le_refl _) (Nat.le_refl _) dL_isMoved_208 (fun h S => ?_)
          refine ex_iload 5 dL_isMoved_211 rfl ?_
          refine ex_icmp_ne (tgt := 233) dL_isMoved_213 (by decide) (fun c_213 => absurd (congrArg (fun a => q a 3) mvI_y) c_213) (fun c_213 => ?_)
          refine ex_aload_n 10 dL_isMoved_216 rfl rfl ?_
          refine ex_iload 1 dL_isMoved_217 rfl ?_
          refine ex_bipush (v := nI 7) dL_isMoved_219 (by decide) ?_
          refine ex_per (j := (mvP t p y)) (k := 7) (v := (fun a b => q (mvI p y a) b) (mvP t p y) 5) vl_L_14 S wf2 (mvP_lt hon hp hy) (by decide) rfl (by decide) (Nat.le_of_ble_eq_true rfl) (Nat.le_refl _) (Nat.le_refl _) dL_isMoved_221 (fun h S => ?_)
          refine ex_iload 3 dL_isMoved_224 rfl ?_
          refine ex_icmp_ne (tgt := 233) dL_isMoved_226 (by decide) (fun c_226 => absurd (congrArg (fun a => q a 5) mv_mv) c_226) (fun c_226 => ?_)
          refine ex_iconst (v := nI 1) dL_isMoved_229 (by decide) ?_
          refine ex_goto (tgt := 234) dL_isMoved_230 (by decide) ?_
          exact ex_zret hQ rfl (by decide) ⟨rfl, rfl, S⟩ dL_isMoved_234
    · have n_116 : ¬ (t ≤ p) := fun q9 => c_116 ((nI_leI (by omega) (by omega)).mpr q9)
      refine ex_iload 3 dL_isMoved_119 rfl ?_
      refine ex_iload_n 11 dL_isMoved_121 rfl rfl ?_
      refine ex_icmp_gt (tgt := 132) dL_isMoved_122 (by decide) (fun c_122 => ?_) (fun c_122 => ?_)
      · have n_122 : y < t := (nI_ltI (by omega) (by omega)).mp c_122
        refine ex_iload 3 dL_isMoved_132 rfl ?_
        refine ex_iload_n 10 dL_isMoved_134 rfl rfl ?_
        refine ex_icmp_ge (tgt := 151) dL_isMoved_135 (by decide) (fun c_135 => ?_) (fun c_135 => ?_)
        · have n_135 : p ≤ t := (nI_leI (by omega) (by omega)).mp c_135
          refine ex_iload 3 dL_isMoved_151 rfl ?_
          refine ex_istore (lv' := [(12, .int (nI t)), (11, .int (nI (mvP t p y))), (10, .int (nI (if p = y then 0 else (if p < y then y - p else p - y) + 1))), (9, .int (q t 5)), (8, .int (nI t)), (7, .int (q p 3)), (6, .int (q p 0)), (5, .int (nI t)), (4, .int (-6)), (3, .int (nI n)), (0, .ref b), (1, .int (nI p)), (2, .int (nI y))]) dL_isMoved_153 (by decide) rfl ?_
          refine ex_iload 2 dL_isMoved_155 rfl ?_
          refine ex_if_lt (tgt := 233) dL_isMoved_157 (by decide) (fun c_157 => absurd c_157 (nI_pos (by (repeat' split) <;> omega))) (fun c_157 => ?_)
          refine ex_iload 1 dL_isMoved_160 rfl ?_
          refine ex_iload 0 dL_isMoved_162 rfl ?_
          refine ex_icmp_ne (tgt := 233) dL_isMoved_164 (by decide) (fun c_164 => absurd (congrArg nI (show (mvP t p y) = t by unfold mvP; (repeat' split) <;> omega)) c_164) (fun c_164 => ?_)
          refine ex_aload_n 10 dL_isMoved_167 rfl rfl ?_
          refine ex_bipush (v := nI 9) dL_isMoved_168 (by decide) ?_
          refine ex_cnt (k := 9) (v := (-6)) vl_L_8 S wf2 (by decide) rfl (by decide) (Nat.le_of_ble_eq_true rfl) (Nat.le_refl _) (Nat.le_refl _) dL_isMoved_170 (fun h S => ?_)
          refine ex_if_lt (tgt := 180) dL_isMoved_173 (by decide) (fun c_173 => ?_) (fun c_173 => absurd (by decide) c_173)
          refine ex_iconst (v := nI 0) dL_isMoved_180 (by decide) ?_
          refine ex_iload 8 dL_isMoved_181 rfl ?_
          refine ex_if_lt (tgt := 190) dL_isMoved_183 (by decide) (fun c_183 => ?_) (fun c_183 => absurd (by decide) c_183)
          refine ex_iconst (v := nI 0) dL_isMoved_190 (by decide) ?_
          refine ex_icmp_ne (tgt := 233) dL_isMoved_191 (by decide) (fun c_191 => absurd (rfl) c_191) (fun c_191 => ?_)
          refine ex_aload_n 10 dL_isMoved_194 rfl rfl ?_
          refine ex_iload_n 12 dL_isMoved_195 rfl rfl ?_
          refine ex_iconst (v := nI 0) dL_isMoved_196 (by decide) ?_
          refine ex_per (j := y) (k := 0) (v := (fun a b => q (mvI p y a) b) y 0) vl_L_14 S wf2 hy (by decide) rfl (by decide) (Nat.le_of_ble_eq_true rfl) (Nat.le_refl _) (Nat.le_refl _) dL_isMoved_197 (fun h S => ?_)
          refine ex_iload 6 dL_isMoved_200 rfl ?_
          refine ex_icmp_ne (tgt := 233) dL_isMoved_202 (by decide) (fun c_202 => absurd (congrArg (fun a => q a 0) mvI_y) c_202) (fun c_202 => ?_)
          refine ex_aload_n 10 dL_isMoved_205 rfl rfl ?_
          refine ex_iload_n 12 dL_isMoved_206 rfl rfl ?_
          refine ex_iconst (v := nI 3) dL_isMoved_207 (by decide) ?_
          refine ex_per (j := y) (k := 3) (v := (fun a b => q (mvI p y a) b) y 3) vl_L_14 S wf2 hy (by decide) rfl (by decide) (Nat.le_of_ble_eq_true rfl) (Nat.le_refl _) (Nat.le_refl _) dL_isMoved_208 (fun h S => ?_)
          refine ex_iload 5 dL_isMoved_211 rfl ?_
          refine ex_icmp_ne (tgt := 233) dL_isMoved_213 (by decide) (fun c_213 => absurd (congrArg (fun a => q a 3) mvI_y) c_213) (fun c_213 => ?_)
          refine ex_aload_n 10 dL_isMoved_216 rfl rfl ?_
          refine ex_iload 1 dL_isMoved_217 rfl ?_
          refine ex_bipush (v := nI 7) dL_isMoved_219 (by decide) ?_
          refine ex_per (j := (mvP t p y)) (k := 7) (v := (fun a b => q (mvI p y a) b) (mvP t p y) 5) vl_L_14 S wf2 (mvP_lt hon hp hy) (by decide) rfl (by decide) (Nat.le_of_ble_eq_true rfl) (Nat.le_refl _) (Nat.le_refl _) dL_isMoved_221 (fun h S => ?_)
          refine ex_iload 3 dL_isMoved_224 rfl ?_
          refine ex_icmp_ne (tgt := 233) dL_isMoved_226 (by decide) (fun c_226 => absurd (congrArg (fun a => q a 5) mv_mv) c_226) (fun c_226 => ?_)
          refine ex_iconst (v := nI 1) dL_isMoved_229 (by decide) ?_
          refine ex_goto (tgt := 234) dL_isMoved_230 (by decide) ?_
          exact ex_zret hQ rfl (by decide) ⟨rfl, rfl, S⟩ dL_isMoved_234
        · have n_135 : ¬ (p ≤ t) := fun q9 => c_135 ((nI_leI (by omega) (by omega)).mpr q9)
          refine ex_iload 3 dL_isMoved_138 rfl ?_
          refine ex_iload_n 11 dL_isMoved_140 rfl rfl ?_
          refine ex_icmp_lt (tgt := 151) dL_isMoved_141 (by decide) (fun c_141 => ?_) (fun c_141 => ?_)
          · have n_141 : t < y := (nI_ltI (by omega) (by omega)).mp c_141
            refine ex_iload 3 dL_isMoved_151 rfl ?_
            refine ex_istore (lv' := [(12, .int (nI t)), (11, .int (nI (mvP t p y))), (10, .int (nI (if p = y then 0 else (if p < y then y - p else p - y) + 1))), (9, .int (q t 5)), (8, .int (nI t)), (7, .int (q p 3)), (6, .int (q p 0)), (5, .int (nI t)), (4, .int (-6)), (3, .int (nI n)), (0, .ref b), (1, .int (nI p)), (2, .int (nI y))]) dL_isMoved_153 (by decide) rfl ?_
            refine ex_iload 2 dL_isMoved_155 rfl ?_
            refine ex_if_lt (tgt := 233) dL_isMoved_157 (by decide) (fun c_157 => absurd c_157 (nI_pos (by (repeat' split) <;> omega))) (fun c_157 => ?_)
            refine ex_iload 1 dL_isMoved_160 rfl ?_
            refine ex_iload 0 dL_isMoved_162 rfl ?_
            refine ex_icmp_ne (tgt := 233) dL_isMoved_164 (by decide) (fun c_164 => absurd (congrArg nI (show (mvP t p y) = t by unfold mvP; (repeat' split) <;> omega)) c_164) (fun c_164 => ?_)
            refine ex_aload_n 10 dL_isMoved_167 rfl rfl ?_
            refine ex_bipush (v := nI 9) dL_isMoved_168 (by decide) ?_
            refine ex_cnt (k := 9) (v := (-6)) vl_L_8 S wf2 (by decide) rfl (by decide) (Nat.le_of_ble_eq_true rfl) (Nat.le_refl _) (Nat.le_refl _) dL_isMoved_170 (fun h S => ?_)
            refine ex_if_lt (tgt := 180) dL_isMoved_173 (by decide) (fun c_173 => ?_) (fun c_173 => absurd (by decide) c_173)
            refine ex_iconst (v := nI 0) dL_isMoved_180 (by decide) ?_
            refine ex_iload 8 dL_isMoved_181 rfl ?_
            refine ex_if_lt (tgt := 190) dL_isMoved_183 (by decide) (fun c_183 => ?_) (fun c_183 => absurd (by decide) c_183)
            refine ex_iconst (v := nI 0) dL_isMoved_190 (by decide) ?_
            refine ex_icmp_ne (tgt := 233) dL_isMoved_191 (by decide) (fun c_191 => absurd (rfl) c_191) (fun c_191 => ?_)
            refine ex_aload_n 10 dL_isMoved_194 rfl rfl ?_
            refine ex_iload_n 12 dL_isMoved_195 rfl rfl ?_
            refine ex_iconst (v := nI 0) dL_isMoved_196 (by decide) ?_
            refine ex_per (j := y) (k := 0) (v := (fun a b => q (mvI p y a) b) y 0) vl_L_14 S wf2 hy (by decide) rfl (by decide) (Nat.le_of_ble_eq_true rfl) (Nat.le_refl _) (Nat.le_refl _) dL_isMoved_197 (fun h S => ?_)
            refine ex_iload 6 dL_isMoved_200 rfl ?_
            refine ex_icmp_ne (tgt := 233) dL_isMoved_202 (by decide) (fun c_202 => absurd (congrArg (fun a => q a 0) mvI_y) c_202) (fun c_202 => ?_)
            refine ex_aload_n 10 dL_isMoved_205 rfl rfl ?_
            refine ex_iload_n 12 dL_isMoved_206 rfl rfl ?_
            refine ex_iconst (v := nI 3) dL_isMoved_207 (by decide) ?_
            refine ex_per (j := y) (k := 3) (v := (fun a b => q (mvI p y a) b) y 3) vl_L_14 S wf2 hy (by decide) rfl (by decide) (Nat.le_of_ble_eq_true rfl) (Nat.le_refl _) (Nat.le_refl _) dL_isMoved_208 (fun h S => ?_)
            refine ex_iload 5 dL_isMoved_211 rfl ?_
            refine ex_icmp_ne (tgt := 233) dL_isMoved_213 (by decide) (fun c_213 => absurd (congrArg (fun a => q a 3) mvI_y) c_213) (fun c_213 => ?_)
            refine ex_aload_n 10 dL_isMoved_216 rfl rfl ?_
            refine ex_iload 1 dL_isMoved_217 rfl ?_
            refine ex_bipush (v := nI 7) dL_isMoved_219 (by decide) ?_
            refine ex_per (j := (mvP t p y)) (k := 7) (v := (fun a b => q (mvI p y a) b) (mvP t p y) 5) vl_L_14 S wf2 (mvP_lt hon hp hy) (by decide) rfl (by decide) (Nat.le_of_ble_eq_true rfl) (Nat.le_refl _) (Nat.le_refl _) dL_isMoved_221 (fun h S => ?_)
            refine ex_iload 3 dL_isMoved_224 rfl ?_
            refine ex_icmp_ne (tgt := 233) dL_isMoved_226 (by decide) (fun c_226 => absurd (congrArg (fun a => q a 5) mv_mv) c_226) (fun c_226 => ?_)
            refine ex_iconst (v := nI 1) dL_isMoved_229 (by decide) ?_
            refine ex_goto (tgt := 234) dL_isMoved_230 (by decide) ?_
            exact ex_zret hQ rfl (by decide) ⟨rfl, rfl, S⟩ dL_isMoved_234
          · have n_141 : ¬ (t < y) := fun q9 => c_141 ((nI_ltI (by omega) (by omega)).mpr q9)
            refine ex_iload 3 dL_isMoved_144 rfl ?_
            refine ex_iconst (v := nI 1) dL_isMoved_146 (by decide) ?_
            refine ex_iaddN dL_isMoved_147 ?_
            refine ex_goto (tgt := 153) dL_isMoved_148 (by decide) ?_
            refine ex_istore (lv' := [(12, .int (nI (t + 1))), (11, .int (nI (mvP t p y))), (10, .int (nI (if p = y then 0 else (if p < y then y - p else p - y) + 1))), (9, .int (q t 5)), (8, .int (nI t)), (7, .int (q p 3)), (6, .int (q p 0)), (5, .int (nI t)), (4, .int (-6)), (3, .int (nI n)), (0, .ref b), (1, .int (nI p)), (2, .int (nI y))]) dL_isMoved_153 (by decide) rfl ?_
            refine ex_iload 2 dL_isMoved_155 rfl ?_
            refine ex_if_lt (tgt := 233) dL_isMoved_157 (by decide) (fun c_157 => absurd c_157 (nI_pos (by (repeat' split) <;> omega))) (fun c_157 => ?_)
            refine ex_iload 1 dL_isMoved_160 rfl ?_
            refine ex_iload 0 dL_isMoved_162 rfl ?_
            refine ex_icmp_ne (tgt := 233) dL_isMoved_164 (by decide) (fun c_164 => absurd (congrArg nI (show (mvP t p y) = t + 1 by unfold mvP; (repeat' split) <;> omega)) c_164) (fun c_164 => ?_)
            refine ex_aload_n 10 dL_isMoved_167 rfl rfl ?_
            refine ex_bipush (v := nI 9) dL_isMoved_168 (by decide) ?_
            refine ex_cnt (k := 9) (v := (-6)) vl_L_8 S wf2 (by decide) rfl (by decide) (Nat.le_of_ble_eq_true rfl) (Nat.le_refl _) (Nat.le_refl _) dL_isMoved_170 (fun h S => ?_)
            refine ex_if_lt (tgt := 180) dL_isMoved_173 (by decide) (fun c_173 => ?_) (fun c_173 => absurd (by decide) c_173)
            refine ex_iconst (v := nI 0) dL_isMoved_180 (by decide) ?_
            refine ex_iload 8 dL_isMoved_181 rfl ?_
            refine ex_if_lt (tgt := 190) dL_isMoved_183 (by decide) (fun c_183 => ?_) (fun c_183 => absurd (by decide) c_183)
            refine ex_iconst (v := nI 0) dL_isMoved_190 (by decide) ?_
            refine ex_icmp_ne (tgt := 233) dL_isMoved_191 (by decide) (fun c_191 => absurd (rfl) c_191) (fun c_191 => ?_)
            refine ex_aload_n 10 dL_isMoved_194 rfl rfl ?_
            refine ex_iload_n 12 dL_isMoved_195 rfl rfl ?_
            refine ex_iconst (v := nI 0) dL_isMoved_196 (by decide) ?_
            refine ex_per (j := y) (k := 0) (v := (fun a b => q (mvI p y a) b) y 0) vl_L_14 S wf2 hy (by decide) rfl (by decide) (Nat.le_of_ble_eq_true rfl) (Nat.le_refl _) (Nat.le_refl _) dL_isMoved_197 (fun h S => ?_)
            refine ex_iload 6 dL_isMoved_200 rfl ?_
            refine ex_icmp_ne (tgt := 233) dL_isMoved_202 (by decide) (fun c_202 => absurd (congrArg (fun a => q a 0) mvI_y) c_202) (fun c_202 => ?_)
            refine ex_aload_n 10 dL_isMoved_205 rfl rfl ?_
            refine ex_iload_n 12 dL_isMoved_206 rfl rfl ?_
            refine ex_iconst (v := nI 3) dL_isMoved_207 (by decide) ?_
            refine ex_per (j := y) (k := 3) (v := (fun a b => q (mvI p y a) b) y 3) vl_L_14 S wf2 hy (by decide) rfl (by decide) (Nat.le_of_ble_eq_true rfl) (Nat.le_refl _) (Nat.le_refl _) dL_isMoved_208 (fun h S => ?_)
            refine ex_iload 5 dL_isMoved_211 rfl ?_
            refine ex_icmp_ne (tgt := 233) dL_isMoved_213 (by decide) (fun c_213 => absurd (congrArg (fun a => q a 3) mvI_y) c_213) (fun c_213 => ?_)
            refine ex_aload_n 10 dL_isMoved_216 rfl rfl ?_
            refine ex_iload 1 dL_isMoved_217 rfl ?_
            refine ex_bipush (v := nI 7) dL_isMoved_219 (by decide) ?_
            refine ex_per (j := (mvP t p y)) (k := 7) (v := (fun a b => q (mvI p y a) b) (mvP t p y) 5) vl_L_14 S wf2 (mvP_lt hon hp hy) (by decide) rfl (by decide) (Nat.le_of_ble_eq_true rfl) (Nat.le_refl _) (Nat.le_refl _) dL_isMoved_221 (fun h S => ?_)
            refine ex_iload 3 dL_isMoved_224 rfl ?_
            refine ex_icmp_ne (tgt := 233) dL_isMoved_226 (by decide) (fun c_226 => absurd (congrArg (fun a => q a 5) mv_mv) c_226) (fun c_226 => ?_)
            refine ex_iconst (v := nI 1) dL_isMoved_229 (by decide) ?_
            refine ex_goto (tgt := 234) dL_isMoved_230 (by decide) ?_
            exact ex_zret hQ rfl (by decide) ⟨rfl, rfl, S⟩ dL_isMoved_234
      · have n_122 : ¬ (y < t) := fun q9 => c_122 ((nI_ltI (by omega) (by omega)).mpr q9)
        refine ex_iload 3 dL_isMoved_125 rfl ?_
        refine ex_iconst (v := nI 1) dL_isMoved_127 (by decide) ?_
        refine ex_isubN dL_isMoved_128 (by omega) ?_
        refine ex_goto (tgt := 153) dL_isMoved_129 (by decide) ?_
        refine ex_istore (lv' := [(12, .int (nI (t - 1))), (11, .int (nI (mvP t p y))), (10, .int (nI (if p = y then 0 else (if p < y then y - p else p - y) + 1))), (9, .int (q t 5)), (8, .int (nI t)), (7, .int (q p 3)), (6, .int (q p 0)), (5, .int (nI t)), (4, .int (-6)), (3, .int (nI n)), (0, .ref b), (1, .int (nI p)), (2, .int (nI y))]) dL_isMoved_153 (by decide) rfl ?_
        refine ex_iload 2 dL_isMoved_155 rfl ?_
        refine ex_if_lt (tgt := 233) dL_isMoved_157 (by decide) (fun c_157 => absurd c_157 (nI_pos (by (repeat' split) <;> omega))) (fun c_157 => ?_)
        refine ex_iload 1 dL_isMoved_160 rfl ?_
        refine ex_iload 0 dL_isMoved_162 rfl ?_
        refine ex_icmp_ne (tgt := 233) dL_isMoved_164 (by decide) (fun c_164 => absurd (congrArg nI (show (mvP t p y) = t - 1 by unfold mvP; (repeat' split) <;> omega)) c_164) (fun c_164 => ?_)
        refine ex_aload_n 10 dL_isMoved_167 rfl rfl ?_
        refine ex_bipush (v := nI 9) dL_isMoved_168 (by decide) ?_
        refine ex_cnt (k := 9) (v := (-6)) vl_L_8 S wf2 (by decide) rfl (by decide) (Nat.le_of_ble_eq_true rfl) (Nat.le_refl _) (Nat.le_refl _) dL_isMoved_170 (fun h S => ?_)
        refine ex_if_lt (tgt := 180) dL_isMoved_173 (by decide) (fun c_173 => ?_) (fun c_173 => absurd (by decide) c_173)
        refine ex_iconst (v := nI 0) dL_isMoved_180 (by decide) ?_
        refine ex_iload 8 dL_isMoved_181 rfl ?_
        refine ex_if_lt (tgt := 190) dL_isMoved_183 (by decide) (fun c_183 => ?_) (fun c_183 => absurd (by decide) c_183)
        refine ex_iconst (v := nI 0) dL_isMoved_190 (by decide) ?_
        refine ex_icmp_ne (tgt := 233) dL_isMoved_191 (by decide) (fun c_191 => absurd (rfl) c_191) (fun c_191 => ?_)
        refine ex_aload_n 10 dL_isMoved_194 rfl rfl ?_
        refine ex_iload_n 12 dL_isMoved_195 rfl rfl ?_
        refine ex_iconst (v := nI 0) dL_isMoved_196 (by decide) ?_
        refine ex_per (j := y) (k := 0) (v := (fun a b => q (mvI p y a) b) y 0) vl_L_14 S wf2 hy (by decide) rfl (by decide) (Nat.le_of_ble_eq_true rfl) (Nat.le_refl _) (Nat.le_refl _) dL_isMoved_197 (fun h S => ?_)
        refine ex_iload 6 dL_isMoved_200 rfl ?_
        refine ex_icmp_ne (tgt := 233) dL_isMoved_202 (by decide) (fun c_202 => absurd (congrArg (fun a => q a 0) mvI_y) c_202) (fun c_202 => ?_)
        refine ex_aload_n 10 dL_isMoved_205 rfl rfl ?_
        refine ex_iload_n 12 dL_isMoved_206 rfl rfl ?_
        refine ex_iconst (v := nI 3) dL_isMoved_207 (by decide) ?_
        refine ex_per (j := y) (k := 3) (v := (fun a b => q (mvI p y a) b) y 3) vl_L_14 S wf2 hy (by decide) rfl (by decide) (Nat.le_of_ble_eq_true rfl) (Nat.le_refl _) (Nat.le_refl _) dL_isMoved_208 (fun h S => ?_)
        refine ex_iload 5 dL_isMoved_211 rfl ?_
        refine ex_icmp_ne (tgt := 233) dL_isMoved_213 (by decide) (fun c_213 => absurd (congrArg (fun a => q a 3) mvI_y) c_213) (fun c_213 => ?_)
        refine ex_aload_n 10 dL_isMoved_216 rfl rfl ?_
        refine ex_iload 1 dL_isMoved_217 rfl ?_
        refine ex_bipush (v := nI 7) dL_isMoved_219 (by decide) ?_
        refine ex_per (j := (mvP t p y)) (k := 7) (v := (fun a b => q (mvI p y a) b) (mvP t p y) 5) vl_L_14 S wf2 (mvP_lt hon hp hy) (by decide) rfl (by decide) (Nat.le_of_ble_eq_true rfl) (Nat.le_refl _) (Nat.le_refl _) dL_isMoved_221 (fun h S => ?_)
        refine ex_iload 3 dL_isMoved_224 rfl ?_
        refine ex_icmp_ne (tgt := 233) dL_isMoved_226 (by decide) (fun c_226 => absurd (congrArg (fun a => q a 5) mv_mv) c_226) (fun c_226 => ?_)
        refine ex_iconst (v := nI 1) dL_isMoved_229 (by decide) ?_
        refine ex_goto (tgt := 234) dL_isMoved_230 (by decide) ?_
        exact ex_zret hQ rfl (by decide) ⟨rfl, rfl, S⟩ dL_isMoved_234
  · have n_106 : t = p := (nI_eq (by omega) (by omega)).mp c_106
    refine ex_iload_n 11 dL_isMoved_109 rfl rfl ?_
    refine ex_goto (tgt := 153) dL_isMoved_110 (by decide) ?_
    refine ex_istore (lv' := [(12, .int (nI y)), (11, .int (nI (mvP t p y))), (10, .int (nI (if p = y then 0 else (if p < y then y - p else p - y) + 1))), (9, .int (q t 5)), (8, .int (nI t)), (7, .int (q p 3)), (6, .int (q p 0)), (5, .int (nI t)), (4, .int (-6)), (3, .int (nI n)), (0, .ref b), (1, .int (nI p)), (2, .int (nI y))]) dL_isMoved_153 (by decide) rfl ?_
    refine ex_iload 2 dL_isMoved_155 rfl ?_
    refine ex_if_lt (tgt := 233) dL_isMoved_157 (by decide) (fun c_157 => absurd c_157 (nI_pos (by (repeat' split) <;> omega))) (fun c_157 => ?_)
    refine ex_iload 1 dL_isMoved_160 rfl ?_
    refine ex_iload 0 dL_isMoved_162 rfl ?_
    refine ex_icmp_ne (tgt := 233) dL_isMoved_164 (by decide) (fun c_164 => absurd (congrArg nI (show (mvP t p y) = y by unfold mvP; (repeat' split) <;> omega)) c_164) (fun c_164 => ?_)
    refine ex_aload_n 10 dL_isMoved_167 rfl rfl ?_
    refine ex_bipush (v := nI 9) dL_isMoved_168 (by decide) ?_
    refine ex_cnt (k := 9) (v := (-6)) vl_L_8 S wf2 (by decide) rfl (by decide) (Nat.le_of_ble_eq_true rfl) (Nat.le_refl _) (Nat.le_refl _) dL_isMoved_170 (fun h S => ?_)
    refine ex_if_lt (tgt := 180) dL_isMoved_173 (by decide) (fun c_173 => ?_) (fun c_173 => absurd (by decide) c_173)
    refine ex_iconst (v := nI 0) dL_isMoved_180 (by decide) ?_
    refine ex_iload 8 dL_isMoved_181 rfl ?_
    refine ex_if_lt (tgt := 190) dL_isMoved_183 (by decide) (fun c_183 => ?_) (fun c_183 => absurd (by decide) c_183)
    refine ex_iconst (v := nI 0) dL_isMoved_190 (by decide) ?_
    refine ex_icmp_ne (tgt := 233) dL_isMoved_191 (by decide) (fun c_191 => absurd (rfl) c_191) (fun c_191 => ?_)
    refine ex_aload_n 10 dL_isMoved_194 rfl rfl ?_
    refine ex_iload_n 12 dL_isMoved_195 rfl rfl ?_
    refine ex_iconst (v := nI 0) dL_isMoved_196 (by decide) ?_
    refine ex_per (j := y) (k := 0) (v := (fun a b => q (mvI p y a) b) y 0) vl_L_14 S wf2 hy (by decide) rfl (by decide) (Nat.le_of_ble_eq_true rfl) (Nat.le_refl _) (Nat.le_refl _) dL_isMoved_197 (fun h S => ?_)
    refine ex_iload 6 dL_isMoved_200 rfl ?_
    refine ex_icmp_ne (tgt := 233) dL_isMoved_202 (by decide) (fun c_202 => absurd (congrArg (fun a => q a 0) mvI_y) c_202) (fun c_202 => ?_)
    refine ex_aload_n 10 dL_isMoved_205 rfl rfl ?_
    refine ex_iload_n 12 dL_isMoved_206 rfl rfl ?_
    refine ex_iconst (v := nI 3) dL_isMoved_207 (by decide) ?_
    refine ex_per (j := y) (k := 3) (v := (fun a b => q (mvI p y a) b) y 3) vl_L_14 S wf2 hy (by decide) rfl (by decide) (Nat.le_of_ble_eq_true rfl) (Nat.le_refl _) (Nat.le_refl _) dL_isMoved_208 (fun h S => ?_)
    refine ex_iload 5 dL_isMoved_211 rfl ?_
    refine ex_icmp_ne (tgt := 233) dL_isMoved_213 (by decide) (fun c_213 => absurd (congrArg (fun a => q a 3) mvI_y) c_213) (fun c_213 => ?_)
    refine ex_aload_n 10 dL_isMoved_216 rfl rfl ?_
    refine ex_iload 1 dL_isMoved_217 rfl ?_
    refine ex_bipush (v := nI 7) dL_isMoved_219 (by decide) ?_
    refine ex_per (j := (mvP t p y)) (k := 7) (v := (fun a b => q (mvI p y a) b) (mvP t p y) 5) vl_L_14 S wf2 (mvP_lt hon hp hy) (by decide) rfl (by decide) (Nat.le_of_ble_eq_true rfl) (Nat.le_refl _) (Nat.le_refl _) dL_isMoved_221 (fun h S => ?_)
    refine ex_iload 3 dL_isMoved_224 rfl ?_
    refine ex_icmp_ne (tgt := 233) dL_isMoved_226 (by decide) (fun c_226 => absurd (congrArg (fun a => q a 5) mv_mv) c_226) (fun c_226 => ?_)
    refine ex_iconst (v := nI 1) dL_isMoved_229 (by decide) ?_
    refine ex_goto (tgt := 234) dL_isMoved_230 (by decide) ?_
    exact ex_zret hQ rfl (by decide) ⟨rfl, rfl, S⟩ dL_isMoved_234

set_option maxRecDepth 20000 in
set_option maxHeartbeats 2000000 in
theorem c_isMovedS {G : GG} {l : Launch} {h0 : HP} {z b : Nat} {n : Nat} {t : Nat} {u : Nat → Int32} {q : Nat → Nat → Int32} {R : RX} {K : Nat} {i : Nat} {p y : Nat} (hp : p < n) (hy : y < n) (S0 : PP G h0 z b ((n, (some i), t, u, q), R)) (ok : iv K (n, (some i), t, u, q)) (hK : K < 2 ^ 23) : Ct G l 4 0 0 yL_isMoved cL_isMoved 13 (some .boolean) [.ref b, .int (nI p), .int (nI y)] h0 z (pL G b z (X_move ((n, (some i), t, u, q), R) (nI p) (nI y)).2) := by
  refine Ct.intro (lv := [(0, .ref b), (1, .int (nI p)), (2, .int (nI y))]) (by decide +kernel) (Nat.le_of_ble_eq_true rfl) rfl (fun X Q hQ hnm => ?_)
  have S := S0
  have wf : wfA (n, (some i), t, u, q) := ok.1.1
  have n8 : n ≤ 8 := wf.1
  have tw : t < n ∨ t = 0 := wf.2.2
  have ok1 := ok.1
  have ow := ok.2
  have hi : i < n := wf.2.1 i rfl
  have wf2 : wfA (n, (some (mvP i p y)), (mvP t p y), u, (fun a b => q (mvI p y a) b)) := moveA_wf wf hp hy
  have hon : i < n := by omega
  have hom := mvP_lt hon hp hy
  have hpost : (X_move ((n, (some i), t, u, q), R) (nI p) (nI y)).2 = ((n, (some (mvP i p y)), (mvP t p y), u, (fun a b => q (mvI p y a) b)), (recX ((n, (some i), t, u, q), R) A0).2) := by rw [X_move_k hp hy n8]; rfl
  rw [hpost] at hQ
  refine ex_aload_n 0 dL_isMoved_0 rfl rfl ?_
  refine ex_bipush (v := nI 7) dL_isMoved_1 (by decide) ?_
  refine ex_cnt (k := 7) (v := nI n) vl_L_8 S wf (by decide) rfl (by decide) (Nat.le_of_ble_eq_true rfl) (Nat.le_refl _) (Nat.le_refl _) dL_isMoved_3 (fun h S => ?_)
  refine ex_istore_n (lv' := [(3, .int (nI n)), (0, .ref b), (1, .int (nI p)), (2, .int (nI y))]) dL_isMoved_6 rfl (by decide) rfl ?_
  refine ex_aload_n 1 dL_isMoved_7 rfl rfl ?_
  refine ex_bipush (v := nI 9) dL_isMoved_8 (by decide) ?_
  refine ex_cnt (k := 9) (v := nI i) vl_L_8 S wf (by decide) rfl (by decide) (Nat.le_of_ble_eq_true rfl) (Nat.le_refl _) (Nat.le_refl _) dL_isMoved_10 (fun h S => ?_)
  refine ex_istore (lv' := [(4, .int (nI i)), (3, .int (nI n)), (0, .ref b), (1, .int (nI p)), (2, .int (nI y))]) dL_isMoved_13 (by decide) rfl ?_
  refine ex_aload_n 2 dL_isMoved_15 rfl rfl ?_
  refine ex_bipush (v := nI 10) dL_isMoved_16 (by decide) ?_
  refine ex_cnt (k := 10) (v := (-6)) vl_L_8 S wf (by decide) rfl (by decide) (Nat.le_of_ble_eq_true rfl) (Nat.le_refl _) (Nat.le_refl _) dL_isMoved_18 (fun h S => ?_)
  refine ex_istore (lv' := [(5, .int (-6)), (4, .int (nI i)), (3, .int (nI n)), (0, .ref b), (1, .int (nI p)), (2, .int (nI y))]) dL_isMoved_21 (by decide) rfl ?_
  refine ex_aload_n 3 dL_isMoved_23 rfl rfl ?_
  refine ex_iload_n 4 dL_isMoved_24 rfl rfl ?_
  refine ex_iconst (v := nI 0) dL_isMoved_25 (by decide) ?_
  refine ex_per (j := p) (k := 0) (v := q p 0) vl_L_14 S wf hp (by decide) rfl (by decide) (Nat.le_of_ble_eq_true rfl) (Nat.le_refl _) (Nat.le_refl _) dL_isMoved_26 (fun h S => ?_)
  refine ex_istore (lv' := [(6, .int (q p 0)), (5, .int (-6)), (4, .int (nI i)), (3, .int (nI n)), (0, .ref b), (1, .int (nI p)), (2, .int (nI y))]) dL_isMoved_29 (by decide) rfl ?_
  refine ex_aload_n 4 dL_isMoved_31 rfl rfl ?_
  refine ex_iload_n 5 dL_isMoved_32 rfl rfl ?_
  refine ex_iconst (v := nI 3) dL_isMoved_33 (by decide) ?_
  refine ex_per (j := p) (k := 3) (v := q p 3) vl_L_14 S wf hp (by decide) rfl (by decide) (Nat.le_of_ble_eq_true rfl) (Nat.le_refl _) (Nat.le_refl _) dL_isMoved_34 (fun h S => ?_)
  refine ex_istore (lv' := [(7, .int (q p 3)), (6, .int (q p 0)), (5, .int (-6)), (4, .int (nI i)), (3, .int (nI n)), (0, .ref b), (1, .int (nI p)), (2, .int (nI y))]) dL_isMoved_37 (by decide) rfl ?_
  refine ex_iload 3 dL_isMoved_39 rfl ?_
  refine ex_if_lt (tgt := 49) dL_isMoved_41 (by decide) (fun c_41 => absurd c_41 (nI_pos (by omega))) (fun c_41 => ?_)
  refine ex_iload 3 dL_isMoved_44 rfl ?_
  refine ex_goto (tgt := 51) dL_isMoved_46 (by decide) ?_
  refine ex_istore (lv' := [(8, .int (nI i)), (7, .int (q p 3)), (6, .int (q p 0)), (5, .int (-6)), (4, .int (nI i)), (3, .int (nI n)), (0, .ref b), (1, .int (nI p)), (2, .int (nI y))]) dL_isMoved_51 (by decide) rfl ?_
  refine ex_iload 0 dL_isMoved_53 rfl ?_
  refine ex_iload_n 5 dL_isMoved_55 rfl rfl ?_
  refine ex_icmp_ge (tgt := 70) dL_isMoved_56 (by decide) (fun c_56 => absurd c_56 (fun q9 => absurd ((nI_leI (by omega) (by omega)).mp q9) (by omega))) (fun c_56 => ?_)
  refine ex_aload_n 6 dL_isMoved_59 rfl rfl ?_
  refine ex_iload 0 dL_isMoved_60 rfl ?_
  refine ex_bipush (v := nI 7) dL_isMoved_62 (by decide) ?_
  refine ex_per (j := i) (k := 7) (v := q i 5) vl_L_14 S wf hon (by decide) rfl (by decide) (Nat.le_of_ble_eq_true rfl) (Nat.le_refl _) (Nat.le_refl _) dL_isMoved_64 (fun h S => ?_)
  refine ex_goto (tgt := 71) dL_isMoved_67 (by decide) ?_
  refine ex_istore (lv' := [(9, .int (q i 5)), (8, .int (nI i)), (7, .int (q p 3)), (6, .int (q p 0)), (5, .int (-6)), (4, .int (nI i)), (3, .int (nI n)), (0, .ref b), (1, .int (nI p)), (2, .int (nI y))]) dL_isMoved_71 (by decide) rfl ?_
  refine ex_aload_n 7 dL_isMoved_73 rfl rfl ?_
  refine ex_iload_n 8 dL_isMoved_74 rfl rfl ?_
  refine ex_iload_n 9 dL_isMoved_75 rfl rfl ?_
  refine ex_ch (As := [.int (nI p), .int (nI y)]) (v := nI (if p = y then 0 else (if p < y then y - p else p - y) + 1)) (x2 := ((n, (some (mvP i p y)), (mvP t p y), u, (fun a b => q (mvI p y a) b)), (recX ((n, (some i), t, u, q), R) A0).2)) vl_L_40 rfl S (c_move S n8 wf.2.1 wf.2.2) (X_move_k hp hy n8) rfl (by decide) (Nat.le_of_ble_eq_true rfl) (Nat.le_refl _) (Nat.le_refl _) rfl dL_isMoved_76 (fun h S => ?_)
  refine ex_istore (lv' := [(10, .int (nI (if p = y then 0 else (if p < y then y - p else p - y) + 1))), (9, .int (q i 5)), (8, .int (nI i)), (7, .int (q p 3)), (6, .int (q p 0)), (5, .int (-6)), (4, .int (nI i)), (3, .int (nI n)), (0, .ref b), (1, .int (nI p)), (2, .int (nI y))]) dL_isMoved_79 (by decide) rfl ?_
  refine ex_iload 6 dL_isMoved_81 rfl ?_
  refine ex_if_lt (tgt := 95) dL_isMoved_83 (by decide) (fun c_83 => absurd c_83 (nI_pos (by omega))) (fun c_83 => ?_)
  refine ex_aload_n 8 dL_isMoved_86 rfl rfl ?_
  refine ex_bipush (v := nI 9) dL_isMoved_87 (by decide) ?_
  refine ex_cnt (k := 9) (v := nI (mvP i p y)) vl_L_8 S wf2 (by decide) rfl (by decide) (Nat.le_of_ble_eq_true rfl) (Nat.le_refl _) (Nat.le_refl _) dL_isMoved_89 (fun h S => ?_)
  refine ex_goto (tgt := 101) dL_isMoved_92 (by decide) ?_
  refine ex_istore (lv' := [(11, .int (nI (mvP i p y))), (10, .int (nI (if p = y then 0 else (if p < y then y - p else p - y) + 1))), (9, .int (q i 5)), (8, .int (nI i)), (7, .int (q p 3)), (6, .int (q p 0)), (5, .int (-6)), (4, .int (nI i)), (3, .int (nI n)), (0, .ref b), (1, .int (nI p)), (2, .int (nI y))]) dL_isMoved_101 (by decide) rfl ?_
  refine ex_iload 3 dL_isMoved_103 rfl ?_
  refine ex_iload_n 10 dL_isMoved_105 rfl rfl ?_
  refine ex_icmp_ne (tgt := 113) dL_isMoved_106 (by decide) (fun c_106 => ?_) (fun c_106 => ?_)
  · have n_106 : ¬ (i = p) := fun q9 => c_106 ((nI_eq (by omega) (by omega)).mpr q9)
    refine ex_iload 3 dL_isMoved_113 rfl ?_
    refine ex_iload_n 10 dL_isMoved_115 rfl rfl ?_
    refine ex_icmp_le (tgt := 132) dL_isMoved_116 (by decide) (fun c_116 => ?_) (fun c_116 => ?_)
    · have n_116 : i ≤ p := (nI_leI (by omega) (by omega)).mp c_116
      refine ex_iload 3 dL_isMoved_132 rfl ?_
      refine ex_iload_n 10 dL_isMoved_134 rfl rfl ?_
      refine ex_icmp_ge (tgt := 151) dL_isMoved_135 (by decide) (fun c_135 => ?_) (fun c_135 => ?_)
      · have n_135 : p ≤ i := (nI_leI (by omega) (by omega)).mp c_135
        refine ex_iload 3 dL_isMoved_151 rfl ?_
        refine ex_istore (lv' := [(12, .int (nI i)), (11, .int (nI (mvP i p y))), (10, .int (nI (if p = y then 0 else (if p < y then y - p else p - y) + 1))), (9, .int (q i 5)), (8, .int (nI i)), (7, .int (q p 3)), (6, .int (q p 0)), (5, .int (-6)), (4, .int (nI i)), (3, .int (nI n)), (0, .ref b), (1, .int (nI p)), (2, .int (nI y))]) dL_isMoved_153 (by decide) rfl ?_
        refine ex_iload 2 dL_isMoved_155 rfl ?_
        refine ex_if_lt (tgt := 233) dL_isMoved_157 (by decide) (fun c_157 => absurd c_157 (nI_pos (by (repeat' split) <;> omega))) (fun c_157 => ?_)
        refine ex_iload 1 dL_isMoved_160 rfl ?_
        refine ex_iload 0 dL_isMoved_162 rfl ?_
        refine ex_icmp_ne (tgt := 233) dL_isMoved_164 (by decide) (fun c_164 => absurd (congrArg nI (show (mvP i p y) = i by unfold mvP; (repeat' split) <;> omega)) c_164) (fun c_164 => ?_)
        refine ex_aload_n 10 dL_isMoved_167 rfl rfl ?_
        refine ex_bipush (v := nI 9) dL_isMoved_168 (by decide) ?_
        refine ex_cnt (k := 9) (v := nI (mvP i p y)) vl_L_8 S wf2 (by decide) rfl (by decide) (Nat.le_of_ble_eq_true rfl) (Nat.le_refl _) (Nat.le_refl _) dL_isMoved_170 (fun h S => ?_)
        refine ex_if_lt (tgt := 180) dL_isMoved_173 (by decide) (fun c_173 => absurd c_173 (nI_pos (by omega))) (fun c_173 => ?_)
        refine ex_iconst (v := nI 1) dL_isMoved_176 (by decide) ?_
        refine ex_goto (tgt := 181) dL_isMoved_177 (by decide) ?_
        refine ex_iload 8 dL_isMoved_181 rfl ?_
        refine ex_if_lt (tgt := 190) dL_isMoved_183 (by decide) (fun c_183 => absurd c_183 (nI_pos (by omega))) (fun c_183 => ?_)
        refine ex_iconst (v := nI 1) dL_isMoved_186 (by decide) ?_
        refine ex_goto (tgt := 191) dL_isMoved_187 (by decide) ?_
        refine ex_icmp_ne (tgt := 233) dL_isMoved_191 (by decide) (fun c_191 => absurd (rfl) c_191) (fun c_191 => ?_)
        refine ex_aload_n 10 dL_isMoved_194 rfl rfl ?_
        refine ex_iload_n 12 dL_isMoved_195 rfl rfl ?_
        refine ex_iconst (v := nI 0) dL_isMoved_196 (by decide) ?_
        refine ex_per (j := y) (k := 0) (v := (fun a b => q (mvI p y a) b) y 0) vl_L_14 S wf2 hy (by decide) rfl (by decide) (Nat.le_of_ble_eq_true rfl) (Nat.le_refl _) (Nat.le_refl _) dL_isMoved_197 (fun h S => ?_)
        refine ex_iload 6 dL_isMoved_200 rfl ?_
        refine ex_icmp_ne (tgt := 233) dL_isMoved_202 (by decide) (fun c_202 => absurd (congrArg (fun a => q a 0) mvI_y) c_202) (fun c_202 => ?_)
        refine ex_aload_n 10 dL_isMoved_205 rfl rfl ?_
        refine ex_iload_n 12 dL_isMoved_206 rfl rfl ?_
        refine ex_iconst (v := nI 3) dL_isMoved_207 (by decide) ?_
        refine ex_per (j := y) (k := 3) (v := (fun a b => q (mvI p y a) b) y 3) vl_L_14 S wf2 hy (by decide) rfl (by decide) (Nat.le_of_ble_eq_true rfl) (Nat.le_refl _) (Nat.le_refl _) dL_isMoved_208 (fun h S => ?_)
        refine ex_iload 5 dL_isMoved_211 rfl ?_
        refine ex_icmp_ne (tgt := 233) dL_isMoved_213 (by decide) (fun c_213 => absurd (congrArg (fun a => q a 3) mvI_y) c_213) (fun c_213 => ?_)
        refine ex_aload_n 10 dL_isMoved_216 rfl rfl ?_
        refine ex_iload 1 dL_isMoved_217 rfl ?_
        refine ex_bipush (v := nI 7) dL_isMoved_219 (by decide) ?_
        refine ex_per (j := (mvP i p y)) (k := 7) (v := (fun a b => q (mvI p y a) b) (mvP i p y) 5) vl_L_14 S wf2 (mvP_lt hon hp hy) (by decide) rfl (by decide) (Nat.le_of_ble_eq_true rfl) (Nat.le_refl _) (Nat.le_refl _) dL_isMoved_221 (fun h S => ?_)
        refine ex_iload 3 dL_isMoved_224 rfl ?_
        refine ex_icmp_ne (tgt := 233) dL_isMoved_226 (by decide) (fun c_226 => absurd (congrArg (fun a => q a 5) mv_mv) c_226) (fun c_226 => ?_)
        refine ex_iconst (v := nI 1) dL_isMoved_229 (by decide) ?_
        refine ex_goto (tgt := 234) dL_isMoved_230 (by decide) ?_
        exact ex_zret hQ rfl (by decide) ⟨rfl, rfl, S⟩ dL_isMoved_234
      · have n_135 : ¬ (p ≤ i) := fun q9 => c_135 ((nI_leI (by omega) (by omega)).mpr q9)
        refine ex_iload 3 dL_isMoved_138 rfl ?_
        refine ex_iload_n 11 dL_isMoved_140 rfl rfl ?_
        refine ex_icmp_lt (tgt := 151) dL_isMoved_141 (by decide) (fun c_141 => ?_) (fun c_141 => ?_)
        · have n_141 : i < y := (nI_ltI (by omega) (by omega)).mp c_141
          refine ex_iload 3 dL_isMoved_151 rfl ?_
          refine ex_istore (lv' := [(12, .int (nI i)), (11, .int (nI (mvP i p y))), (10, .int (nI (if p = y then 0 else (if p < y then y - p else p - y) + 1))), (9, .int (q i 5)), (8, .int (nI i)), (7, .int (q p 3)), (6, .int (q p 0)), (5, .int (-6)), (4, .int (nI i)), (3, .int (nI n)), (0, .ref b), (1, .int (nI p)), (2, .int (nI y))]) dL_isMoved_153 (by decide) rfl ?_
          refine ex_iload 2 dL_isMoved_155 rfl ?_
          refine ex_if_lt (tgt := 233) dL_isMoved_157 (by decide) (fun c_157 => absurd c_157 (nI_pos (by (repeat' split) <;> omega))) (fun c_157 => ?_)
          refine ex_iload 1 dL_isMoved_160 rfl ?_
          refine ex_iload 0 dL_isMoved_162 rfl ?_
          refine ex_icmp_ne (tgt := 233) dL_isMoved_164 (by decide) (fun c_164 => absurd (congrArg nI (show (mvP i p y) = i by unfold mvP; (repeat' split) <;> omega)) c_164) (fun c_164 => ?_)
          refine ex_aload_n 10 dL_isMoved_167 rfl rfl ?_
          refine ex_bipush (v := nI 9) dL_isMoved_168 (by decide) ?_
          refine ex_cnt (k := 9) (v := nI (mvP i p y)) vl_L_8 S wf2 (by decide) rfl (by decide) (Nat.le_of_ble_eq_true rfl) (Nat.le_refl _) (Nat.le_refl _) dL_isMoved_170 (fun h S => ?_)
          refine ex_if_lt (tgt := 180) dL_isMoved_173 (by decide) (fun c_173 => absurd c_173 (nI_pos (by omega))) (fun c_173 => ?_)
          refine ex_iconst (v := nI 1) dL_isMoved_176 (by decide) ?_
          refine ex_goto (tgt := 181) dL_isMoved_177 (by decide) ?_
          refine ex_iload 8 dL_isMoved_181 rfl ?_
          refine ex_if_lt (tgt := 190) dL_isMoved_183 (by decide) (fun c_183 => absurd c_183 (nI_pos (by omega))) (fun c_183 => ?_)
          refine ex_iconst (v := nI 1) dL_isMoved_186 (by decide) ?_
          refine ex_goto (tgt := 191) dL_isMoved_187 (by decide) ?_
          refine ex_icmp_ne (tgt := 233) dL_isMoved_191 (by decide) (fun c_191 => absurd (rfl) c_191) (fun c_191 => ?_)
          refine ex_aload_n 10 dL_isMoved_194 rfl rfl ?_
          refine ex_iload_n 12 dL_isMoved_195 rfl rfl ?_
          refine ex_iconst (v := nI 0) dL_isMoved_196 (by decide) ?_
          refine ex_per (j := y) (k := 0) (v := (fun a b => q (mvI p y a) b) y 0) vl_L_14 S wf2 hy (by decide) rfl (by decide) (Nat.le_of_ble_eq_true rfl) (Nat.le_refl _) (Nat.le_refl _) dL_isMoved_197 (fun h S => ?_)
          refine ex_iload 6 dL_isMoved_200 rfl ?_
          refine ex_icmp_ne (tgt := 233) dL_isMoved_202 (by decide) (fun c_202 => absurd (congrArg (fun a => q a 0) mvI_y) c_202) (fun c_202 => ?_)
          refine ex_aload_n 10 dL_isMoved_205 rfl rfl ?_
          refine ex_iload_n 12 dL_isMoved_206 rfl rfl ?_
          refine ex_iconst (v := nI 3) dL_isMoved_207 (by decide) ?_
          refine ex_per (j := y) (k := 3) (v := (fun a b => q (mvI p y a) b) y 3) vl_L_14 S wf2 hy (by decide) rfl (by decide) (Nat.le_of_ble_eq_true rfl) (Nat.le_refl _) (Nat.le_refl _) dL_isMoved_208 (fun h S => ?_)
          refine ex_iload 5 dL_isMoved_211 rfl ?_
          refine ex_icmp_ne (tgt := 233) dL_isMoved_213 (by decide) (fun c_213 => absurd (congrArg (fun a => q a 3) mvI_y) c_213) (fun c_213 => ?_)
          refine ex_aload_n 10 dL_isMoved_216 rfl rfl ?_
          refine ex_iload 1 dL_isMoved_217 rfl ?_
          refine ex_bipush (v := nI 7) dL_isMoved_219 (by decide) ?_
          refine ex_per (j := (mvP i p y)) (k := 7) (v := (fun a b => q (mvI p y a) b) (mvP i p y) 5) vl_L_14 S wf2 (mvP_lt hon hp hy) (by decide) rfl (by decide) (Nat.le_of_ble_eq_true rfl) (Nat.le_refl _) (Nat.le_refl _) dL_isMoved_221 (fun h S => ?_)
          refine ex_iload 3 dL_isMoved_224 rfl ?_
          refine ex_icmp_ne (tgt := 233) dL_isMoved_226 (by decide) (fun c_226 => absurd (congrArg (fun a => q a 5) mv_mv) c_226) (fun c_226 => ?_)
          refine ex_iconst (v := nI 1) dL_isMoved_229 (by decide) ?_
          refine ex_goto (tgt := 234) dL_isMoved_230 (by decide) ?_
          exact ex_zret hQ rfl (by decide) ⟨rfl, rfl, S⟩ dL_isMoved_234
        · have n_141 : ¬ (i < y) := fun q9 => c_141 ((nI_ltI (by omega) (by omega)).mpr q9)
          refine ex_iload 3 dL_isMoved_144 rfl ?_
          refine ex_iconst (v := nI 1) dL_isMoved_146 (by decide) ?_
          refine ex_iaddN dL_isMoved_147 ?_
          refine ex_goto (tgt := 153) dL_isMoved_148 (by decide) ?_
          refine ex_istore (lv' := [(12, .int (nI (i + 1))), (11, .int (nI (mvP i p y))), (10, .int (nI (if p = y then 0 else (if p < y then y - p else p - y) + 1))), (9, .int (q i 5)), (8, .int (nI i)), (7, .int (q p 3)), (6, .int (q p 0)), (5, .int (-6)), (4, .int (nI i)), (3, .int (nI n)), (0, .ref b), (1, .int (nI p)), (2, .int (nI y))]) dL_isMoved_153 (by decide) rfl ?_
          refine ex_iload 2 dL_isMoved_155 rfl ?_
          refine ex_if_lt (tgt := 233) dL_isMoved_157 (by decide) (fun c_157 => absurd c_157 (nI_pos (by (repeat' split) <;> omega))) (fun c_157 => ?_)
          refine ex_iload 1 dL_isMoved_160 rfl ?_
          refine ex_iload 0 dL_isMoved_162 rfl ?_
          refine ex_icmp_ne (tgt := 233) dL_isMoved_164 (by decide) (fun c_164 => absurd (congrArg nI (show (mvP i p y) = i + 1 by unfold mvP; (repeat' split) <;> omega)) c_164) (fun c_164 => ?_)
          refine ex_aload_n 10 dL_isMoved_167 rfl rfl ?_
          refine ex_bipush (v := nI 9) dL_isMoved_168 (by decide) ?_
          refine ex_cnt (k := 9) (v := nI (mvP i p y)) vl_L_8 S wf2 (by decide) rfl (by decide) (Nat.le_of_ble_eq_true rfl) (Nat.le_refl _) (Nat.le_refl _) dL_isMoved_170 (fun h S => ?_)
          refine ex_if_lt (tgt := 180) dL_isMoved_173 (by decide) (fun c_173 => absurd c_173 (nI_pos (by omega))) (fun c_173 => ?_)
          refine ex_iconst (v := nI 1) dL_isMoved_176 (by decide) ?_
          refine ex_goto (tgt := 181) dL_isMoved_177 (by decide) ?_
          refine ex_iload 8 dL_isMoved_181 rfl ?_
          refine ex_if_lt (tgt := 190) dL_isMoved_183 (by decide) (fun c_183 => absurd c_183 (nI_pos (by omega))) (fun c_183 => ?_)
          refine ex_iconst (v := nI 1) dL_isMoved_186 (by decide) ?_
          refine ex_goto (tgt := 191) dL_isMoved_187 (by decide) ?_
          refine ex_icmp_ne (tgt := 233) dL_isMoved_191 (by decide) (fun c_191 => absurd (rfl) c_191) (fun c_191 => ?_)
          refine ex_aload_n 10 dL_isMoved_194 rfl rfl ?_
          refine ex_iload_n 12 dL_isMoved_195 rfl rfl ?_
          refine ex_iconst (v := nI 0) dL_isMoved_196 (by decide) ?_
          refine ex_per (j := y) (k := 0) (v := (fun a b => q (mvI p y a) b) y 0) vl_L_14 S wf2 hy (by decide) rfl (by decide) (Nat.le_of_ble_eq_true rfl) (Nat.le_refl _) (Nat.le_refl _) dL_isMoved_197 (fun h S => ?_)
          refine ex_iload 6 dL_isMoved_200 rfl ?_
          refine ex_icmp_ne (tgt := 233) dL_isMoved_202 (by decide) (fun c_202 => absurd (congrArg (fun a => q a 0) mvI_y) c_202) (fun c_202 => ?_)
          refine ex_aload_n 10 dL_isMoved_205 rfl rfl ?_
          refine ex_iload_n 12 dL_isMoved_206 rfl rfl ?_
          refine ex_iconst (v := nI 3) dL_isMoved_207 (by decide) ?_
          refine ex_per (j := y) (k := 3) (v := (fun a b => q (mvI p y a) b) y 3) vl_L_14 S wf2 hy (by decide) rfl (by decide) (Nat.le_of_ble_eq_true rfl) (Nat.le_refl _) (Nat.le_refl _) dL_isMoved_208 (fun h S => ?_)
          refine ex_iload 5 dL_isMoved_211 rfl ?_
          refine ex_icmp_ne (tgt := 233) dL_isMoved_213 (by decide) (fun c_213 => absurd (congrArg (fun a => q a 3) mvI_y) c_213) (fun c_213 => ?_)
          refine ex_aload_n 10 dL_isMoved_216 rfl rfl ?_
          refine ex_iload 1 dL_isMoved_217 rfl ?_
          refine ex_bipush (v := nI 7) dL_isMoved_219 (by decide) ?_
          refine ex_per (j := (mvP i p y)) (k := 7) (v := (fun a b => q (mvI p y a) b) (mvP i p y) 5) vl_L_14 S wf2 (mvP_lt hon hp hy) (by decide) rfl (by decide) (Nat.le_of_ble_eq_true rfl) (Nat.le_refl _) (Nat.le_refl _) dL_isMoved_221 (fun h S => ?_)
          refine ex_iload 3 dL_isMoved_224 rfl ?_
          refine ex_icmp_ne (tgt := 233) dL_isMoved_226 (by decide) (fun c_226 => absurd (congrArg (fun a => q a 5) mv_mv) c_226) (fun c_226 => ?_)
          refine ex_iconst (v := nI 1) dL_isMoved_229 (by decide) ?_
          refine ex_goto (tgt := 234) dL_isMoved_230 (by decide) ?_
          exact ex_zret hQ rfl (by decide) ⟨rfl, rfl, S⟩ dL_isMoved_234
    · have n_116 : ¬ (i ≤ p) := fun q9 => c_116 ((nI_leI (by omega) (by omega)).mpr q9)
      refine ex_iload 3 dL_isMoved_119 rfl ?_
      refine ex_iload_n 11 dL_isMoved_121 rfl rfl ?_
      refine ex_icmp_gt (tgt := 132) dL_isMoved_122 (by decide) (fun c_122 => ?_) (fun c_122 => ?_)
      · have n_122 : y < i := (nI_ltI (by omega) (by omega)).mp c_122
        refine ex_iload 3 dL_isMoved_132 rfl ?_
        refine ex_iload_n 10 dL_isMoved_134 rfl rfl ?_
        refine ex_icmp_ge (tgt := 151) dL_isMoved_135 (by decide) (fun c_135 => ?_) (fun c_135 => ?_)
        · have n_135 : p ≤ i := (nI_leI (by omega) (by omega)).mp c_135
          refine ex_iload 3 dL_isMoved_151 rfl ?_
          refine ex_istore (lv' := [(12, .int (nI i)), (11, .int (nI (mvP i p y))), (10, .int (nI (if p = y then 0 else (if p < y then y - p else p - y) + 1))), (9, .int (q i 5)), (8, .int (nI i)), (7, .int (q p 3)), (6, .int (q p 0)), (5, .int (-6)), (4, .int (nI i)), (3, .int (nI n)), (0, .ref b), (1, .int (nI p)), (2, .int (nI y))]) dL_isMoved_153 (by decide) rfl ?_
          refine ex_iload 2 dL_isMoved_155 rfl ?_
          refine ex_if_lt (tgt := 233) dL_isMoved_157 (by decide) (fun c_157 => absurd c_157 (nI_pos (by (repeat' split) <;> omega))) (fun c_157 => ?_)
          refine ex_iload 1 dL_isMoved_160 rfl ?_
          refine ex_iload 0 dL_isMoved_162 rfl ?_
          refine ex_icmp_ne (tgt := 233) dL_isMoved_164 (by decide) (fun c_164 => absurd (congrArg nI (show (mvP i p y) = i by unfold mvP; (repeat' split) <;> omega)) c_164) (fun c_164 => ?_)
          refine ex_aload_n 10 dL_isMoved_167 rfl rfl ?_
          refine ex_bipush (v := nI 9) dL_isMoved_168 (by decide) ?_
          refine ex_cnt (k := 9) (v := nI (mvP i p y)) vl_L_8 S wf2 (by decide) rfl (by decide) (Nat.le_of_ble_eq_true rfl) (Nat.le_refl _) (Nat.le_refl _) dL_isMoved_170 (fun h S => ?_)
          refine ex_if_lt (tgt := 180) dL_isMoved_173 (by decide) (fun c_173 => absurd c_173 (nI_pos (by omega))) (fun c_173 => ?_)
          refine ex_iconst (v := nI 1) dL_isMoved_176 (by decide) ?_
          refine ex_goto (tgt := 181) dL_isMoved_177 (by decide) ?_
          refine ex_iload 8 dL_isMoved_181 rfl ?_
          refine ex_if_lt (tgt := 190) dL_isMoved_183 (by decide) (fun c_183 => absurd c_183 (nI_pos (by omega))) (fun c_183 => ?_)
          refine ex_iconst (v := nI 1) dL_isMoved_186 (by decide) ?_
          refine ex_goto (tgt := 191) dL_isMoved_187 (by decide) ?_
          refine ex_icmp_ne (tgt := 233) dL_isMoved_191 (by decide) (fun c_191 => absurd (rfl) c_191) (fun c_191 => ?_)
          refine ex_aload_n 10 dL_isMoved_194 rfl rfl ?_
          refine ex_iload_n 12 dL_isMoved_195 rfl rfl ?_
          refine ex_iconst (v := nI 0) dL_isMoved_196 (by decide) ?_
          refine ex_per (j := y) (k := 0) (v := (fun a b => q (mvI p y a) b) y 0) vl_L_14 S wf2 hy (by decide) rfl (by decide) (Nat.le_of_ble_eq_true rfl) (Nat.le_refl _) (Nat.le_refl _) dL_isMoved_197 (fun h S => ?_)
          refine ex_iload 6 dL_isMoved_200 rfl ?_
          refine ex_icmp_ne (tgt := 233) dL_isMoved_202 (by decide) (fun c_202 => absurd (congrArg (fun a => q a 0) mvI_y) c_202) (fun c_202 => ?_)
          refine ex_aload_n 10 dL_isMoved_205 rfl rfl ?_
          refine ex_iload_n 12 dL_isMoved_206 rfl rfl ?_
          refine ex_iconst (v := nI 3) dL_isMoved_207 (by decide) ?_
          refine ex_per (j := y) (k := 3) (v := (fun a b => q (mvI p y a) b) y 3) vl_L_14 S wf2 hy (by decide) rfl (by decide) (Nat.le_of_ble_eq_true rfl) (Nat.le_refl _) (Nat.le_refl _) dL_isMoved_208 (fun h S => ?_)
          refine ex_iload 5 dL_isMoved_211 rfl ?_
          refine ex_icmp_ne (tgt := 233) dL_isMoved_213 (by decide) (fun c_213 => absurd (congrArg (fun a => q a 3) mvI_y) c_213) (fun c_213 => ?_)
          refine ex_aload_n 10 dL_isMoved_216 rfl rfl ?_
          refine ex_iload 1 dL_isMoved_217 rfl ?_
          refine ex_bipush (v := nI 7) dL_isMoved_219 (by decide) ?_
          refine ex_per (j := (mvP i p y)) (k := 7) (v := (fun a b => q (mvI p y a) b) (mvP i p y) 5) vl_L_14 S wf2 (mvP_lt hon hp hy) (by decide) rfl (by decide) (Nat.le_of_ble_eq_true rfl) (Nat.le_refl _) (Nat.le_refl _) dL_isMoved_221 (fun h S => ?_)
          refine ex_iload 3 dL_isMoved_224 rfl ?_
          refine ex_icmp_ne (tgt := 233) dL_isMoved_226 (by decide) (fun c_226 => absurd (congrArg (fun a => q a 5) mv_mv) c_226) (fun c_226 => ?_)
          refine ex_iconst (v := nI 1) dL_isMoved_229 (by decide) ?_
          refine ex_goto (tgt := 234) dL_isMoved_230 (by decide) ?_
          exact ex_zret hQ rfl (by decide) ⟨rfl, rfl, S⟩ dL_isMoved_234
        · have n_135 : ¬ (p ≤ i) := fun q9 => c_135 ((nI_leI (by omega) (by omega)).mpr q9)
          refine ex_iload 3 dL_isMoved_138 rfl ?_
          refine ex_iload_n 11 dL_isMoved_140 rfl rfl ?_
          refine ex_icmp_lt (tgt := 151) dL_isMoved_141 (by decide) (fun c_141 => ?_) (fun c_141 => ?_)
          · have n_141 : i < y := (nI_ltI (by omega) (by omega)).mp c_141
            refine ex_iload 3 dL_isMoved_151 rfl ?_
            refine ex_istore (lv' := [(12, .int (nI i)), (11, .int (nI (mvP i p y))), (10, .int (nI (if p = y then 0 else (if p < y then y - p else p - y) + 1))), (9, .int (q i 5)), (8, .int (nI i)), (7, .int (q p 3)), (6, .int (q p 0)), (5, .int (-6)), (4, .int (nI i)), (3, .int (nI n)), (0, .ref b), (1, .int (nI p)), (2, .int (nI y))]) dL_isMoved_153 (by decide) rfl ?_
            refine ex_iload 2 dL_isMoved_155 rfl ?_
            refine ex_if_lt (tgt := 233) dL_isMoved_157 (by decide) (fun c_157 => absurd c_157 (nI_pos (by (repeat' split) <;> omega))) (fun c_157 => ?_)
            refine ex_iload 1 dL_isMoved_160 rfl ?_
            refine ex_iload 0 dL_isMoved_162 rfl ?_
            refine ex_icmp_ne (tgt := 233) dL_isMoved_164 (by decide) (fun c_164 => absurd (congrArg nI (show (mvP i p y) = i by unfold mvP; (repeat' split) <;> omega)) c_164) (fun c_164 => ?_)
            refine ex_aload_n 10 dL_isMoved_167 rfl rfl ?_
            refine ex_bipush (v := nI 9) dL_isMoved_168 (by decide) ?_
            refine ex_cnt (k := 9) (v := nI (mvP i p y)) vl_L_8 S wf2 (by decide) rfl (by decide) (Nat.le_of_ble_eq_true rfl) (Nat.le_refl _) (Nat.le_refl _) dL_isMoved_170 (fun h S => ?_)
            refine ex_if_lt (tgt := 180) dL_isMoved_173 (by decide) (fun c_173 => absurd c_173 (nI_pos (by omega))) (fun c_173 => ?_)
            refine ex_iconst (v := nI 1) dL_isMoved_176 (by decide) ?_
            refine ex_goto (tgt := 181) dL_isMoved_177 (by decide) ?_
            refine ex_iload 8 dL_isMoved_181 rfl ?_
            refine ex_if_lt (tgt := 190) dL_isMoved_183 (by decide) (fun c_183 => absurd c_183 (nI_pos (by omega))) (fun c_183 => ?_)
            refine ex_iconst (v := nI 1) dL_isMoved_186 (by decide) ?_
            refine ex_goto (tgt := 191) dL_isMoved_187 (by decide) ?_
            refine ex_icmp_ne (tgt := 233) dL_isMoved_191 (by decide) (fun c_191 => absurd (rfl) c_191) (fun c_191 => ?_)
            refine ex_aload_n 10 dL_isMoved_194 rfl rfl ?_
            refine ex_iload_n 12 dL_isMoved_195 rfl rfl ?_
            refine ex_iconst (v := nI 0) dL_isMoved_196 (by decide) ?_
            refine ex_per (j := y) (k := 0) (v := (fun a b => q (mvI p y a) b) y 0) vl_L_14 S wf2 hy (by decide) rfl (by decide) (Nat.le_of_ble_eq_true rfl) (Nat.le_refl _) (Nat.le_refl _) dL_isMoved_197 (fun h S => ?_)
            refine ex_iload 6 dL_isMoved_200 rfl ?_
            refine ex_icmp_ne (tgt := 233) dL_isMoved_202 (by decide) (fun c_202 => absurd (congrArg (fun a => q a 0) mvI_y) c_202) (fun c_202 => ?_)
            refine ex_aload_n 10 dL_isMoved_205 rfl rfl ?_
            refine ex_iload_n 12 dL_isMoved_206 rfl rfl ?_
            refine ex_iconst (v := nI 3) dL_isMoved_207 (by decide) ?_
            refine ex_per (j := y) (k := 3) (v := (fun a b => q (mvI p y a) b) y 3) vl_L_14 S wf2 hy (by decide) rfl (by decide) (Nat.le_of_ble_eq_true rfl) (Nat.le_refl _) (Nat.le_refl _) dL_isMoved_208 (fun h S => ?_)
            refine ex_iload 5 dL_isMoved_211 rfl ?_
            refine ex_icmp_ne (tgt := 233) dL_isMoved_213 (by decide) (fun c_213 => absurd (congrArg (fun a => q a 3) mvI_y) c_213) (fun c_213 => ?_)
            refine ex_aload_n 10 dL_isMoved_216 rfl rfl ?_
            refine ex_iload 1 dL_isMoved_217 rfl ?_
            refine ex_bipush (v := nI 7) dL_isMoved_219 (by decide) ?_
            refine ex_per (j := (mvP i p y)) (k := 7) (v := (fun a b => q (mvI p y a) b) (mvP i p y) 5) vl_L_14 S wf2 (mvP_lt hon hp hy) (by decide) rfl (by decide) (Nat.le_of_ble_eq_true rfl) (Nat.le_refl _) (Nat.le_refl _) dL_isMoved_221 (fun h S => ?_)
            refine ex_iload 3 dL_isMoved_224 rfl ?_
            refine ex_icmp_ne (tgt := 233) dL_isMoved_226 (by decide) (fun c_226 => absurd (congrArg (fun a => q a 5) mv_mv) c_226) (fun c_226 => ?_)
            refine ex_iconst (v := nI 1) dL_isMoved_229 (by decide) ?_
            refine ex_goto (tgt := 234) dL_isMoved_230 (by decide) ?_
            exact ex_zret hQ rfl (by decide) ⟨rfl, rfl, S⟩ dL_isMoved_234
          · have n_141 : ¬ (i < y) := fun q9 => c_141 ((nI_ltI (by omega) (by omega)).mpr q9)
            refine ex_iload 3 dL_isMoved_144 rfl ?_
            refine ex_iconst (v := nI 1) dL_isMoved_146 (by decide) ?_
            refine ex_iaddN dL_isMoved_147 ?_
            refine ex_goto (tgt := 153) dL_isMoved_148 (by decide) ?_
            refine ex_istore (lv' := [(12, .int (nI (i + 1))), (11, .int (nI (mvP i p y))), (10, .int (nI (if p = y then 0 else (if p < y then y - p else p - y) + 1))), (9, .int (q i 5)), (8, .int (nI i)), (7, .int (q p 3)), (6, .int (q p 0)), (5, .int (-6)), (4, .int (nI i)), (3, .int (nI n)), (0, .ref b), (1, .int (nI p)), (2, .int (nI y))]) dL_isMoved_153 (by decide) rfl ?_
            refine ex_iload 2 dL_isMoved_155 rfl ?_
            refine ex_if_lt (tgt := 233) dL_isMoved_157 (by decide) (fun c_157 => absurd c_157 (nI_pos (by (repeat' split) <;> omega))) (fun c_157 => ?_)
            refine ex_iload 1 dL_isMoved_160 rfl ?_
            refine ex_iload 0 dL_isMoved_162 rfl ?_
            refine ex_icmp_ne (tgt := 233) dL_isMoved_164 (by decide) (fun c_164 => absurd (congrArg nI (show (mvP i p y) = i + 1 by unfold mvP; (repeat' split) <;> omega)) c_164) (fun c_164 => ?_)
            refine ex_aload_n 10 dL_isMoved_167 rfl rfl ?_
            refine ex_bipush (v := nI 9) dL_isMoved_168 (by decide) ?_
            refine ex_cnt (k := 9) (v := nI (mvP i p y)) vl_L_8 S wf2 (by decide) rfl (by decide) (Nat.le_of_ble_eq_true rfl) (Nat.le_refl _) (Nat.le_refl _) dL_isMoved_170 (fun h S => ?_)
            refine ex_if_lt (tgt := 180) dL_isMoved_173 (by decide) (fun c_173 => absurd c_173 (nI_pos (by omega))) (fun c_173 => ?_)
            refine ex_iconst (v := nI 1) dL_isMoved_176 (by decide) ?_
            refine ex_goto (tgt := 181) dL_isMoved_177 (by decide) ?_
            refine ex_iload 8 dL_isMoved_181 rfl ?_
            refine ex_if_lt (tgt := 190) dL_isMoved_183 (by decide) (fun c_183 => absurd c_183 (nI_pos (by omega))) (fun c_183 => ?_)
            refine ex_iconst (v := nI 1) dL_isMoved_186 (by decide) ?_
            refine ex_goto (tgt := 191) dL_isMoved_187 (by decide) ?_
            refine ex_icmp_ne (tgt := 233) dL_isMoved_191 (by decide) (fun c_191 => absurd (rfl) c_191) (fun c_191 => ?_)
            refine ex_aload_n 10 dL_isMoved_194 rfl rfl ?_
            refine ex_iload_n 12 dL_isMoved_195 rfl rfl ?_
            refine ex_iconst (v := nI 0) dL_isMoved_196 (by decide) ?_
            refine ex_per (j := y) (k := 0) (v := (fun a b => q (mvI p y a) b) y 0) vl_L_14 S wf2 hy (by decide) rfl (by decide) (Nat.le_of_ble_eq_true rfl) (Nat.le_refl _) (Nat.le_refl _) dL_isMoved_197 (fun h S => ?_)
            refine ex_iload 6 dL_isMoved_200 rfl ?_
            refine ex_icmp_ne (tgt := 233) dL_isMoved_202 (by decide) (fun c_202 => absurd (congrArg (fun a => q a 0) mvI_y) c_202) (fun c_202 => ?_)
            refine ex_aload_n 10 dL_isMoved_205 rfl rfl ?_
            refine ex_iload_n 12 dL_isMoved_206 rfl rfl ?_
            refine ex_iconst (v := nI 3) dL_isMoved_207 (by decide) ?_
            refine ex_per (j := y) (k := 3) (v := (fun a b => q (mvI p y a) b) y 3) vl_L_14 S wf2 hy (by decide) rfl (by decide) (Nat.le_of_ble_eq_true rfl) (Nat.le_refl _) (Nat.le_refl _) dL_isMoved_208 (fun h S => ?_)
            refine ex_iload 5 dL_isMoved_211 rfl ?_
            refine ex_icmp_ne (tgt := 233) dL_isMoved_213 (by decide) (fun c_213 => absurd (congrArg (fun a => q a 3) mvI_y) c_213) (fun c_213 => ?_)
            refine ex_aload_n 10 dL_isMoved_216 rfl rfl ?_
            refine ex_iload 1 dL_isMoved_217 rfl ?_
            refine ex_bipush (v := nI 7) dL_isMoved_219 (by decide) ?_
            refine ex_per (j := (mvP i p y)) (k := 7) (v := (fun a b => q (mvI p y a) b) (mvP i p y) 5) vl_L_14 S wf2 (mvP_lt hon hp hy) (by decide) rfl (by decide) (Nat.le_of_ble_eq_true rfl) (Nat.le_refl _) (Nat.le_refl _) dL_isMoved_221 (fun h S => ?_)
            refine ex_iload 3 dL_isMoved_224 rfl ?_
            refine ex_icmp_ne (tgt := 233) dL_isMoved_226 (by decide) (fun c_226 => absurd (congrArg (fun a => q a 5) mv_mv) c_226) (fun c_226 => ?_)
            refine ex_iconst (v := nI 1) dL_isMoved_229 (by decide) ?_
            refine ex_goto (tgt := 234) dL_isMoved_230 (by decide) ?_
            exact ex_zret hQ rfl (by decide) ⟨rfl, rfl, S⟩ dL_isMoved_234
      · have n_122 : ¬ (y < i) := fun q9 => c_122 ((nI_ltI (by omega) (by omega)).mpr q9)
        refine ex_iload 3 dL_isMoved_125 rfl ?_
        refine ex_iconst (v := nI 1) dL_isMoved_127 (by decide) ?_
        refine ex_isubN dL_isMoved_128 (by omega) ?_
        refine ex_goto (tgt := 153) dL_isMoved_129 (by decide) ?_
        refine ex_istore (lv' := [(12, .int (nI (i - 1))), (11, .int (nI (mvP i p y))), (10, .int (nI (if p = y then 0 else (if p < y then y - p else p - y) + 1))), (9, .int (q i 5)), (8, .int (nI i)), (7, .int (q p 3)), (6, .int (q p 0)), (5, .int (-6)), (4, .int (nI i)), (3, .int (nI n)), (0, .ref b), (1, .int (nI p)), (2, .int (nI y))]) dL_isMoved_153 (by decide) rfl ?_
        refine ex_iload 2 dL_isMoved_155 rfl ?_
        refine ex_if_lt (tgt := 233) dL_isMoved_157 (by decide) (fun c_157 => absurd c_157 (nI_pos (by (repeat' split) <;> omega))) (fun c_157 => ?_)
        refine ex_iload 1 dL_isMoved_160 rfl ?_
        refine ex_iload 0 dL_isMoved_162 rfl ?_
        refine ex_icmp_ne (tgt := 233) dL_isMoved_164 (by decide) (fun c_164 => absurd (congrArg nI (show (mvP i p y) = i - 1 by unfold mvP; (repeat' split) <;> omega)) c_164) (fun c_164 => ?_)
        refine ex_aload_n 10 dL_isMoved_167 rfl rfl ?_
        refine ex_bipush (v := nI 9) dL_isMoved_168 (by decide) ?_
        refine ex_cnt (k := 9) (v := nI (mvP i p y)) vl_L_8 S wf2 (by decide) rfl (by decide) (Nat.le_of_ble_eq_true rfl) (Nat.le_refl _) (Nat.le_refl _) dL_isMoved_170 (fun h S => ?_)
        refine ex_if_lt (tgt := 180) dL_isMoved_173 (by decide) (fun c_173 => absurd c_173 (nI_pos (by omega))) (fun c_173 => ?_)
        refine ex_iconst (v := nI 1) dL_isMoved_176 (by decide) ?_
        refine ex_goto (tgt := 181) dL_isMoved_177 (by decide) ?_
        refine ex_iload 8 dL_isMoved_181 rfl ?_
        refine ex_if_lt (tgt := 190) dL_isMoved_183 (by decide) (fun c_183 => absurd c_183 (nI_pos (by omega))) (fun c_183 => ?_)
        refine ex_iconst (v := nI 1) dL_isMoved_186 (by decide) ?_
        refine ex_goto (tgt := 191) dL_isMoved_187 (by decide) ?_
        refine ex_icmp_ne (tgt := 233) dL_isMoved_191 (by decide) (fun c_191 => absurd (rfl) c_191) (fun c_191 => ?_)
        refine ex_aload_n 10 dL_isMoved_194 rfl rfl ?_
        refine ex_iload_n 12 dL_isMoved_195 rfl rfl ?_
        refine ex_iconst (v := nI 0) dL_isMoved_196 (by decide) ?_
        refine ex_per (j := y) (k := 0) (v := (fun a b => q (mvI p y a) b) y 0) vl_L_14 S wf2 hy (by decide) rfl (by decide) (Nat.le_of_ble_eq_true rfl) (Nat.le_refl _) (Nat.le_refl _) dL_isMoved_197 (fun h S => ?_)
        refine ex_iload 6 dL_isMoved_200 rfl ?_
        refine ex_icmp_ne (tgt := 233) dL_isMoved_202 (by decide) (fun c_202 => absurd (congrArg (fun a => q a 0) mvI_y) c_202) (fun c_202 => ?_)
        refine ex_aload_n 10 dL_isMoved_205 rfl rfl ?_
        refine ex_iload_n 12 dL_isMoved_206 rfl rfl ?_
        refine ex_iconst (v := nI 3) dL_isMoved_207 (by decide) ?_
        refine ex_per (j := y) (k := 3) (v := (fun a b => q (mvI p y a) b) y 3) vl_L_14 S wf2 hy (by decide) rfl (by decide) (Nat.le_of_ble_eq_true rfl) (Nat.le_refl _) (Nat.le_refl _) dL_isMoved_208 (fun h S => ?_)
        refine ex_iload 5 dL_isMoved_211 rfl ?_
        refine ex_icmp_ne (tgt := 233) dL_isMoved_213 (by decide) (fun c_213 => absurd (congrArg (fun a => q a 3) mvI_y) c_213) (fun c_213 => ?_)
        refine ex_aload_n 10 dL_isMoved_216 rfl rfl ?_
        refine ex_iload 1 dL_isMoved_217 rfl ?_
        refine ex_bipush (v := nI 7) dL_isMoved_219 (by decide) ?_
        refine ex_per (j := (mvP i p y)) (k := 7) (v := (fun a b => q (mvI p y a) b) (mvP i p y) 5) vl_L_14 S wf2 (mvP_lt hon hp hy) (by decide) rfl (by decide) (Nat.le_of_ble_eq_true rfl) (Nat.le_refl _) (Nat.le_refl _) dL_isMoved_221 (fun h S => ?_)
        refine ex_iload 3 dL_isMoved_224 rfl ?_
        refine ex_icmp_ne (tgt := 233) dL_isMoved_226 (by decide) (fun c_226 => absurd (congrArg (fun a => q a 5) mv_mv) c_226) (fun c_226 => ?_)
        refine ex_iconst (v := nI 1) dL_isMoved_229 (by decide) ?_
        refine ex_goto (tgt := 234) dL_isMoved_230 (by decide) ?_
        exact ex_zret hQ rfl (by decide) ⟨rfl, rfl, S⟩ dL_isMoved_234
  · have n_106 : i = p := (nI_eq (by omega) (by omega)).mp c_106
    refine ex_iload_n 11 dL_isMoved_109 rfl rfl ?_
    refine ex_goto (tgt := 153) dL_isMoved_110 (by decide) ?_
    refine ex_istore (lv' := [(12, .int (nI y)), (11, .int (nI (mvP i p y))), (10, .int (nI (if p = y then 0 else (if p < y then y - p else p - y) + 1))), (9, .int (q i 5)), (8, .int (nI i)), (7, .int (q p 3)), (6, .int (q p 0)), (5, .int (-6)), (4, .int (nI i)), (3, .int (nI n)), (0, .ref b), (1, .int (nI p)), (2, .int (nI y))]) dL_isMoved_153 (by decide) rfl ?_
    refine ex_iload 2 dL_isMoved_155 rfl ?_
    refine ex_if_lt (tgt := 233) dL_isMoved_157 (by decide) (fun c_157 => absurd c_157 (nI_pos (by (repeat' split) <;> omega))) (fun c_157 => ?_)
    refine ex_iload 1 dL_isMoved_160 rfl ?_
    refine ex_iload 0 dL_isMoved_162 rfl ?_
    refine ex_icmp_ne (tgt := 233) dL_isMoved_164 (by decide) (fun c_164 => absurd (congrArg nI (show (mvP i p y) = y by unfold mvP; (repeat' split) <;> omega)) c_164) (fun c_164 => ?_)
    refine ex_aload_n 10 dL_isMoved_167 rfl rfl ?_
    refine ex_bipush (v := nI 9) dL_isMoved_168 (by decide) ?_
    refine ex_cnt (k := 9) (v := nI (mvP i p y)) vl_L_8 S wf2 (by decide) rfl (by decide) (Nat.le_of_ble_eq_true rfl) (Nat.le_refl _) (Nat.le_refl _) dL_isMoved_170 (fun h S => ?_)
    refine ex_if_lt (tgt := 180) dL_isMoved_173 (by decide) (fun c_173 => absurd c_173 (nI_pos (by omega))) (fun c_173 => ?_)
    refine ex_iconst (v := nI 1) dL_isMoved_176 (by decide) ?_
    refine ex_goto (tgt := 181) dL_isMoved_177 (by decide) ?_
    refine ex_iload 8 dL_isMoved_181 rfl ?_
    refine ex_if_lt (tgt := 190) dL_isMoved_183 (by decide) (fun c_183 => absurd c_183 (nI_pos (by omega))) (fun c_183 => ?_)
    refine ex_iconst (v := nI 1) dL_isMoved_186 (by decide) ?_
    refine ex_goto (tgt := 191) dL_isMoved_187 (by decide) ?_
    refine ex_icmp_ne (tgt := 233) dL_isMoved_191 (by decide) (fun c_191 => absurd (rfl) c_191) (fun c_191 => ?_)
    refine ex_aload_n 10 dL_isMoved_194 rfl rfl ?_
    refine ex_iload_n 12 dL_isMoved_195 rfl rfl ?_
    refine ex_iconst (v := nI 0) dL_isMoved_196 (by decide) ?_
    refine ex_per (j := y) (k := 0) (v := (fun a b => q (mvI p y a) b) y 0) vl_L_14 S wf2 hy (by decide) rfl (by decide) (Nat.le_of_ble_eq_true rfl) (Nat.le_refl _) (Nat.le_refl _) dL_isMoved_197 (fun h S => ?_)
    refine ex_iload 6 dL_isMoved_200 rfl ?_
    refine ex_icmp_ne (tgt := 233) dL_isMoved_202 (by decide) (fun c_202 => absurd (congrArg (fun a => q a 0) mvI_y) c_202) (fun c_202 => ?_)
    refine ex_aload_n 10 dL_isMoved_205 rfl rfl ?_
    refine ex_iload_n 12 dL_isMoved_206 rfl rfl ?_
    refine ex_iconst (v := nI 3) dL_isMoved_207 (by decide) ?_
    refine ex_per (j := y) (k := 3) (v := (fun a b => q (mvI p y a) b) y 3) vl_L_14 S wf2 hy (by decide) rfl (by decide) (Nat.le_of_ble_eq_true rfl) (Nat.le_refl _) (Nat.le_refl _) dL_isMoved_208 (fun h S => ?_)
    refine ex_iload 5 dL_isMoved_211 rfl ?_
    refine ex_icmp_ne (tgt := 233) dL_isMoved_213 (by decide) (fun c_213 => absurd (congrArg (fun a => q a 3) mvI_y) c_213) (fun c_213 => ?_)
    refine ex_aload_n 10 dL_isMoved_216 rfl rfl ?_
    refine ex_iload 1 dL_isMoved_217 rfl ?_
    refine ex_bipush (v := nI 7) dL_isMoved_219 (by decide) ?_
    refine ex_per (j := (mvP i p y)) (k := 7) (v := (fun a b => q (mvI p y a) b) (mvP i p y) 5) vl_L_14 S wf2 (mvP_lt hon hp hy) (by decide) rfl (by decide) (Nat.le_of_ble_eq_true rfl) (Nat.le_refl _) (Nat.le_refl _) dL_isMoved_221 (fun h S => ?_)
    refine ex_iload 3 dL_isMoved_224 rfl ?_
    refine ex_icmp_ne (tgt := 233) dL_isMoved_226 (by decide) (fun c_226 => absurd (congrArg (fun a => q a 5) mv_mv) c_226) (fun c_226 => ?_)
    refine ex_iconst (v := nI 1) dL_isMoved_229 (by decide) ?_
    refine ex_goto (tgt := 234) dL_isMoved_230 (by decide) ?_
    exact ex_zret hQ rfl (by decide) ⟨rfl, rfl, S⟩ dL_isMoved_234

theorem c_isMoved {G : GG} {l : Launch} {h0 : HP} {z b K : Nat} {x : CX} {p y : Nat} (hp : p < x.1.1) (hy : y < x.1.1) (S0 : PP G h0 z b x) (ok : iv K x.1) (hK : K < 2 ^ 23) : Ct G l 4 0 0 yL_isMoved cL_isMoved 13 (some .boolean) [.ref b, .int (nI p), .int (nI y)] h0 z (pL G b z (X_move x (nI p) (nI y)).2) := by
  obtain ⟨⟨n, _ | i, t, u, q⟩, R⟩ := x
  · exact c_isMovedN hp hy S0 ok hK
  · exact c_isMovedS hp hy S0 ok hK

set_option maxRecDepth 20000 in
set_option maxHeartbeats 2000000 in
theorem c_isAppealA {G : GG} {l : Launch} {h0 : HP} {z b : Nat} {n : Nat} {t : Nat} {u : Nat → Int32} {q : Nat → Nat → Int32} {R : RX} {K : Nat} {p : Nat} {g : Option Nat} (hp : n ≤ p) (hp8 : p ≤ 8) (S0 : PP G h0 z b ((n, g, t, u, q), R)) (ok : iv K (n, g, t, u, q)) (hK : K < 2 ^ 23) : Ct G l 4 0 0 yL_isAppeal cL_isAppeal 11 (some .boolean) [.ref b, .int (nI p)] h0 z (pL G b z (X_appeal ((n, g, t, u, q), R) (nI p)).2) := by
  refine Ct.intro (lv := [(0, .ref b), (1, .int (nI p))]) (by decide +kernel) (Nat.le_of_ble_eq_true rfl) rfl (fun X Q hQ hnm => ?_)
  have S := S0
  have wf : wfA (n, g, t, u, q) := ok.1.1
  have n8 : n ≤ 8 := wf.1
  have tw : t < n ∨ t = 0 := wf.2.2
  have ok1 := ok.1
  have ow := ok.2
  rw [X_appeal_n (x := ((n, g, t, u, q), R)) hp (by omega)] at hQ
  refine ex_aload_n 0 dL_isAppeal_0 rfl rfl ?_
  refine ex_bipush (v := nI 9) dL_isAppeal_1 (by decide) ?_
  refine ex_cnt (k := 9) (v := gv g) vl_L_8 S wf (by decide) rfl (by decide) (Nat.le_of_ble_eq_true rfl) (Nat.le_refl _) (Nat.le_refl _) dL_isAppeal_3 (fun h S => ?_)
  refine ex_istore_n (lv' := [(2, .int (gv g)), (0, .ref b), (1, .int (nI p))]) dL_isAppeal_6 rfl (by decide) rfl ?_
  refine ex_aload_n 1 dL_isAppeal_7 rfl rfl ?_
  refine ex_iload_n 2 dL_isAppeal_8 rfl rfl ?_
  refine ex_bipush (v := nI 8) dL_isAppeal_9 (by decide) ?_
  refine ex_perN vl_L_14 S wf (by show n ≤ p; omega) (by omega) (by decide) (Nat.le_of_ble_eq_true rfl) (Nat.le_refl _) (Nat.le_refl _) dL_isAppeal_11 (fun h S => ?_)
  refine ex_iconst (v := nI 1) dL_isAppeal_14 (by decide) ?_
  refine ex_icmp_ne (tgt := 22) dL_isAppeal_15 (by decide) (fun c_15 => ?_) (fun c_15 => absurd c_15 (by decide))
  refine ex_iconst (v := nI 0) dL_isAppeal_22 (by decide) ?_
  refine ex_istore_n (lv' := [(3, .int (nI 0)), (2, .int (gv g)), (0, .ref b), (1, .int (nI p))]) dL_isAppeal_23 rfl (by decide) rfl ?_
  refine ex_iload_n 0 dL_isAppeal_24 rfl rfl ?_
  refine ex_if_eq (tgt := 47) dL_isAppeal_25 (by decide) (fun c_25 => ?_) (fun c_25 => absurd (by decide) c_25)
  refine ex_iconst (v := nI 0) dL_isAppeal_47 (by decide) ?_
  refine ex_istore (lv' := [(4, .int (nI 0)), (3, .int (nI 0)), (2, .int (gv g)), (0, .ref b), (1, .int (nI p))]) dL_isAppeal_48 (by decide) rfl ?_
  refine ex_aload_n 3 dL_isAppeal_50 rfl rfl ?_
  refine ex_iload_n 4 dL_isAppeal_51 rfl rfl ?_
  refine ex_iconst (v := nI 3) dL_isAppeal_52 (by decide) ?_
  refine ex_perN vl_L_14 S wf (by show n ≤ p; omega) (by omega) (by decide) (Nat.le_of_ble_eq_true rfl) (Nat.le_refl _) (Nat.le_refl _) dL_isAppeal_53 (fun h S => ?_)
  refine ex_istore (lv' := [(5, .int (-1)), (4, .int (nI 0)), (3, .int (nI 0)), (2, .int (gv g)), (0, .ref b), (1, .int (nI p))]) dL_isAppeal_56 (by decide) rfl ?_
  refine ex_aload_n 4 dL_isAppeal_58 rfl rfl ?_
  refine ex_bipush (v := nI 11) dL_isAppeal_59 (by decide) ?_
  refine ex_cnt (k := 11) (v := u 11) vl_L_8 S wf (by decide) rfl (by decide) (Nat.le_of_ble_eq_true rfl) (Nat.le_refl _) (Nat.le_refl _) dL_isAppeal_61 (fun h S => ?_)
  refine ex_istore (lv' := [(6, .int (u 11)), (5, .int (-1)), (4, .int (nI 0)), (3, .int (nI 0)), (2, .int (gv g)), (0, .ref b), (1, .int (nI p))]) dL_isAppeal_64 (by decide) rfl ?_
  refine ex_aload_n 5 dL_isAppeal_66 rfl rfl ?_
  refine ex_iload_n 6 dL_isAppeal_67 rfl rfl ?_
  refine ex_iconst (v := nI 2) dL_isAppeal_68 (by decide) ?_
  refine ex_perN vl_L_14 S wf (by show n ≤ p; omega) (by omega) (by decide) (Nat.le_of_ble_eq_true rfl) (Nat.le_refl _) (Nat.le_refl _) dL_isAppeal_69 (fun h S => ?_)
  refine ex_istore (lv' := [(7, .int (-1)), (6, .int (u 11)), (5, .int (-1)), (4, .int (nI 0)), (3, .int (nI 0)), (2, .int (gv g)), (0, .ref b), (1, .int (nI p))]) dL_isAppeal_72 (by decide) rfl ?_
  refine ex_aload_n 6 dL_isAppeal_74 rfl rfl ?_
  refine ex_bipush (v := nI 15) dL_isAppeal_75 (by decide) ?_
  refine ex_cnt (k := 15) (v := u 14) vl_L_8 S wf (by decide) rfl (by decide) (Nat.le_of_ble_eq_true rfl) (Nat.le_refl _) (Nat.le_refl _) dL_isAppeal_77 (fun h S => ?_)
  refine ex_istore (lv' := [(8, .int (u 14)), (7, .int (-1)), (6, .int (u 11)), (5, .int (-1)), (4, .int (nI 0)), (3, .int (nI 0)), (2, .int (gv g)), (0, .ref b), (1, .int (nI p))]) dL_isAppeal_80 (by decide) rfl ?_
  refine ex_aload_n 7 dL_isAppeal_82 rfl rfl ?_
  refine ex_bipush (v := nI 8) dL_isAppeal_83 (by decide) ?_
  refine ex_cnt (k := 8) (v := u 8) vl_L_8 S wf (by decide) rfl (by decide) (Nat.le_of_ble_eq_true rfl) (Nat.le_refl _) (Nat.le_refl _) dL_isAppeal_85 (fun h S => ?_)
  refine ex_istore (lv' := [(9, .int (u 8)), (8, .int (u 14)), (7, .int (-1)), (6, .int (u 11)), (5, .int (-1)), (4, .int (nI 0)), (3, .int (nI 0)), (2, .int (gv g)), (0, .ref b), (1, .int (nI p))]) dL_isAppeal_88 (by decide) rfl ?_
  refine ex_aload_n 8 dL_isAppeal_90 rfl rfl ?_
  refine ex_iload_n 9 dL_isAppeal_91 rfl rfl ?_
  refine ex_ch (As := [.int (nI p)]) (v := (-1)) (x2 := ((n, g, t, u, q), R)) vl_L_31 rfl S (c_appeal S n8 wf.2.1) (X_appeal_n hp (by omega)) rfl (by decide) (Nat.le_of_ble_eq_true rfl) (Nat.le_refl _) (Nat.le_refl _) rfl dL_isAppeal_92 (fun h S => ?_)
  refine ex_istore (lv' := [(10, .int (-1)), (9, .int (u 8)), (8, .int (u 14)), (7, .int (-1)), (6, .int (u 11)), (5, .int (-1)), (4, .int (nI 0)), (3, .int (nI 0)), (2, .int (gv g)), (0, .ref b), (1, .int (nI p))]) dL_isAppeal_95 (by decide) rfl ?_
  refine ex_iload_n 7 dL_isAppeal_97 rfl rfl ?_
  refine ex_if_ne (tgt := 128) dL_isAppeal_98 (by decide) (fun c_98 => absurd (by decide) c_98) (fun c_98 => ?_)
  refine ex_iload 0 dL_isAppeal_101 rfl ?_
  refine ex_iload_n 10 dL_isAppeal_103 rfl rfl ?_
  refine ex_aload_n 9 dL_isAppeal_104 rfl rfl ?_
  refine ex_bipush (v := nI 7) dL_isAppeal_105 (by decide) ?_
  refine ex_cnt (k := 7) (v := nI n) vl_L_8 S wf (by decide) rfl (by decide) (Nat.le_of_ble_eq_true rfl) (Nat.le_refl _) (Nat.le_refl _) dL_isAppeal_107 (fun h S => ?_)
  refine ex_icmp_ge (tgt := 118) dL_isAppeal_110 (by decide) (fun c_110 => ?_) (fun c_110 => absurd ((nI_leI (by omega) (by omega)).mpr (by omega)) c_110)
  refine ex_iconst (v := (-1)) dL_isAppeal_118 (by decide) ?_
  refine ex_icmp_ne (tgt := 126) dL_isAppeal_119 (by decide) (fun c_119 => absurd (rfl) c_119) (fun c_119 => ?_)
  refine ex_iconst (v := nI 1) dL_isAppeal_122 (by decide) ?_
  refine ex_goto (tgt := 127) dL_isAppeal_123 (by decide) ?_
  exact ex_zret hQ rfl (by decide) ⟨rfl, rfl, S⟩ dL_isAppeal_127

set_option maxRecDepth 20000 in
set_option maxHeartbeats 2000000 in
theorem c_isAppealB {G : GG} {l : Launch} {h0 : HP} {z b : Nat} {n : Nat} {t : Nat} {u : Nat → Int32} {q : Nat → Nat → Int32} {R : RX} {K : Nat} {p : Nat} {g : Option Nat} (hp : p < n) (hm : mayI n g u q p = nI 0) (S0 : PP G h0 z b ((n, g, t, u, q), R)) (ok : iv K (n, g, t, u, q)) (hK : K < 2 ^ 23) : Ct G l 4 0 0 yL_isAppeal cL_isAppeal 11 (some .boolean) [.ref b, .int (nI p)] h0 z (pL G b z (X_appeal ((n, g, t, u, q), R) (nI p)).2) := by
  refine Ct.intro (lv := [(0, .ref b), (1, .int (nI p))]) (by decide +kernel) (Nat.le_of_ble_eq_true rfl) rfl (fun X Q hQ hnm => ?_)
  have S := S0
  have wf : wfA (n, g, t, u, q) := ok.1.1
  have n8 : n ≤ 8 := wf.1
  have tw : t < n ∨ t = 0 := wf.2.2
  have ok1 := ok.1
  have ow := ok.2
  rw [X_appeal_0 (x := ((n, g, t, u, q), R)) hp n8 hm] at hQ
  refine ex_aload_n 0 dL_isAppeal_0 rfl rfl ?_
  refine ex_bipush (v := nI 9) dL_isAppeal_1 (by decide) ?_
  refine ex_cnt (k := 9) (v := gv g) vl_L_8 S wf (by decide) rfl (by decide) (Nat.le_of_ble_eq_true rfl) (Nat.le_refl _) (Nat.le_refl _) dL_isAppeal_3 (fun h S => ?_)
  refine ex_istore_n (lv' := [(2, .int (gv g)), (0, .ref b), (1, .int (nI p))]) dL_isAppeal_6 rfl (by decide) rfl ?_
  refine ex_aload_n 1 dL_isAppeal_7 rfl rfl ?_
  refine ex_iload_n 2 dL_isAppeal_8 rfl rfl ?_
  refine ex_bipush (v := nI 8) dL_isAppeal_9 (by decide) ?_
  refine ex_per (j := p) (k := 8) (v := mayI n g u q p) vl_L_14 S wf hp (by decide) rfl (by decide) (Nat.le_of_ble_eq_true rfl) (Nat.le_refl _) (Nat.le_refl _) dL_isAppeal_11 (fun h S => ?_)
  refine ex_iconst (v := nI 1) dL_isAppeal_14 (by decide) ?_
  refine ex_icmp_ne (tgt := 22) dL_isAppeal_15 (by decide) (fun c_15 => ?_) (fun c_15 => absurd c_15 (by rw [hm]; decide))
  refine ex_iconst (v := nI 0) dL_isAppeal_22 (by decide) ?_
  refine ex_istore_n (lv' := [(3, .int (nI 0)), (2, .int (gv g)), (0, .ref b), (1, .int (nI p))]) dL_isAppeal_23 rfl (by decide) rfl ?_
  refine ex_iload_n 0 dL_isAppeal_24 rfl rfl ?_
  refine ex_if_eq (tgt := 47) dL_isAppeal_25 (by decide) (fun c_25 => ?_) (fun c_25 => absurd (by decide) c_25)
  refine ex_iconst (v := nI 0) dL_isAppeal_47 (by decide) ?_
  refine ex_istore (lv' := [(4, .int (nI 0)), (3, .int (nI 0)), (2, .int (gv g)), (0, .ref b), (1, .int (nI p))]) dL_isAppeal_48 (by decide) rfl ?_
  refine ex_aload_n 3 dL_isAppeal_50 rfl rfl ?_
  refine ex_iload_n 4 dL_isAppeal_51 rfl rfl ?_
  refine ex_iconst (v := nI 3) dL_isAppeal_52 (by decide) ?_
  refine ex_per (j := p) (k := 3) (v := q p 3) vl_L_14 S wf hp (by decide) rfl (by decide) (Nat.le_of_ble_eq_true rfl) (Nat.le_refl _) (Nat.le_refl _) dL_isAppeal_53 (fun h S => ?_)
  refine ex_istore (lv' := [(5, .int (q p 3)), (4, .int (nI 0)), (3, .int (nI 0)), (2, .int (gv g)), (0, .ref b), (1, .int (nI p))]) dL_isAppeal_56 (by decide) rfl ?_
  refine ex_aload_n 4 dL_isAppeal_58 rfl rfl ?_
  refine ex_bipush (v := nI 11) dL_isAppeal_59 (by decide) ?_
  refine ex_cnt (k := 11) (v := u 11) vl_L_8 S wf (by decide) rfl (by decide) (Nat.le_of_ble_eq_true rfl) (Nat.le_refl _) (Nat.le_refl _) dL_isAppeal_61 (fun h S => ?_)
  refine ex_istore (lv' := [(6, .int (u 11)), (5, .int (q p 3)), (4, .int (nI 0)), (3, .int (nI 0)), (2, .int (gv g)), (0, .ref b), (1, .int (nI p))]) dL_isAppeal_64 (by decide) rfl ?_
  refine ex_aload_n 5 dL_isAppeal_66 rfl rfl ?_
  refine ex_iload_n 6 dL_isAppeal_67 rfl rfl ?_
  refine ex_iconst (v := nI 2) dL_isAppeal_68 (by decide) ?_
  refine ex_per (j := p) (k := 2) (v := q p 2) vl_L_14 S wf hp (by decide) rfl (by decide) (Nat.le_of_ble_eq_true rfl) (Nat.le_refl _) (Nat.le_refl _) dL_isAppeal_69 (fun h S => ?_)
  refine ex_istore (lv' := [(7, .int (q p 2)), (6, .int (u 11)), (5, .int (q p 3)), (4, .int (nI 0)), (3, .int (nI 0)), (2, .int (gv g)), (0, .ref b), (1, .int (nI p))]) dL_isAppeal_72 (by decide) rfl ?_
  refine ex_aload_n 6 dL_isAppeal_74 rfl rfl ?_
  refine ex_bipush (v := nI 15) dL_isAppeal_75 (by decide) ?_
  refine ex_cnt (k := 15) (v := u 14) vl_L_8 S wf (by decide) rfl (by decide) (Nat.le_of_ble_eq_true rfl) (Nat.le_refl _) (Nat.le_refl _) dL_isAppeal_77 (fun h S => ?_)
  refine ex_istore (lv' := [(8, .int (u 14)), (7, .int (q p 2)), (6, .int (u 11)), (5, .int (q p 3)), (4, .int (nI 0)), (3, .int (nI 0)), (2, .int (gv g)), (0, .ref b), (1, .int (nI p))]) dL_isAppeal_80 (by decide) rfl ?_
  refine ex_aload_n 7 dL_isAppeal_82 rfl rfl ?_
  refine ex_bipush (v := nI 8) dL_isAppeal_83 (by decide) ?_
  refine ex_cnt (k := 8) (v := u 8) vl_L_8 S wf (by decide) rfl (by decide) (Nat.le_of_ble_eq_true rfl) (Nat.le_refl _) (Nat.le_refl _) dL_isAppeal_85 (fun h S => ?_)
  refine ex_istore (lv' := [(9, .int (u 8)), (8, .int (u 14)), (7, .int (q p 2)), (6, .int (u 11)), (5, .int (q p 3)), (4, .int (nI 0)), (3, .int (nI 0)), (2, .int (gv g)), (0, .ref b), (1, .int (nI p))]) dL_isAppeal_88 (by decide) rfl ?_
  refine ex_aload_n 8 dL_isAppeal_90 rfl rfl ?_
  refine ex_iload_n 9 dL_isAppeal_91 rfl rfl ?_
  refine ex_ch (As := [.int (nI p)]) (v := (-5)) (x2 := ((n, g, t, u, q), R)) vl_L_31 rfl S (c_appeal S n8 wf.2.1) (X_appeal_0 hp n8 hm) rfl (by decide) (Nat.le_of_ble_eq_true rfl) (Nat.le_refl _) (Nat.le_refl _) rfl dL_isAppeal_92 (fun h S => ?_)
  refine ex_istore (lv' := [(10, .int (-5)), (9, .int (u 8)), (8, .int (u 14)), (7, .int (q p 2)), (6, .int (u 11)), (5, .int (q p 3)), (4, .int (nI 0)), (3, .int (nI 0)), (2, .int (gv g)), (0, .ref b), (1, .int (nI p))]) dL_isAppeal_95 (by decide) rfl ?_
  refine ex_iload_n 7 dL_isAppeal_97 rfl rfl ?_
  refine ex_if_ne (tgt := 128) dL_isAppeal_98 (by decide) (fun c_98 => absurd (by decide) c_98) (fun c_98 => ?_)
  refine ex_iload 0 dL_isAppeal_101 rfl ?_
  refine ex_iload_n 10 dL_isAppeal_103 rfl rfl ?_
  refine ex_aload_n 9 dL_isAppeal_104 rfl rfl ?_
  refine ex_bipush (v := nI 7) dL_isAppeal_105 (by decide) ?_
  refine ex_cnt (k := 7) (v := nI n) vl_L_8 S wf (by decide) rfl (by decide) (Nat.le_of_ble_eq_true rfl) (Nat.le_refl _) (Nat.le_refl _) dL_isAppeal_107 (fun h S => ?_)
  refine ex_icmp_ge (tgt := 118) dL_isAppeal_110 (by decide) (fun c_110 => absurd c_110 (fun q9 => absurd ((nI_leI (by omega) (by omega)).mp q9) (by omega))) (fun c_110 => ?_)
  refine ex_bipush (v := (-5)) dL_isAppeal_113 (by decide) ?_
  refine ex_goto (tgt := 119) dL_isAppeal_115 (by decide) ?_
  refine ex_icmp_ne (tgt := 126) dL_isAppeal_119 (by decide) (fun c_119 => absurd (rfl) c_119) (fun c_119 => ?_)
  refine ex_iconst (v := nI 1) dL_isAppeal_122 (by decide) ?_
  refine ex_goto (tgt := 127) dL_isAppeal_123 (by decide) ?_
  exact ex_zret hQ rfl (by decide) ⟨rfl, rfl, S⟩ dL_isAppeal_127

set_option maxRecDepth 20000 in
set_option maxHeartbeats 2000000 in
theorem c_isAppealW {G : GG} {l : Launch} {h0 : HP} {z b : Nat} {n : Nat} {t : Nat} {u : Nat → Int32} {q : Nat → Nat → Int32} {R : RX} {K : Nat} {p i : Nat} (hp : p < n) (hm : ¬ mayI n (some i) u q p = nI 0) (hm1 : mayI n (some i) u q p = nI 1) (hw : scI u q i < scI u q p) (S0 : PP G h0 z b ((n, (some i), t, u, q), R)) (ok : iv K (n, (some i), t, u, q)) (hK : K < 2 ^ 23) : Ct G l 4 0 0 yL_isAppeal cL_isAppeal 11 (some .boolean) [.ref b, .int (nI p)] h0 z (pL G b z (X_appeal ((n, some i, t, u, q), R) (nI p)).2) := by
  refine Ct.intro (lv := [(0, .ref b), (1, .int (nI p))]) (by decide +kernel) (Nat.le_of_ble_eq_true rfl) rfl (fun X Q hQ hnm => ?_)
  have S := S0
  have wf : wfA (n, (some i), t, u, q) := ok.1.1
  have n8 : n ≤ 8 := wf.1
  have tw : t < n ∨ t = 0 := wf.2.2
  have ok1 := ok.1
  have ow := ok.2
  have hi : i < n := wf.2.1 i rfl
  have wf2 : wfA (n, none, p, (upd (upd u 11 (u 11 + u 2)) 14 (u 14 + nI 1)), (uq q p 3 (q p 3 - u 2))) := ⟨n8, fun i h => (by cases h), Or.inl hp⟩
  rw [X_appeal_w hp n8 hm hw] at hQ
  refine ex_aload_n 0 dL_isAppeal_0 rfl rfl ?_
  refine ex_bipush (v := nI 9) dL_isAppeal_1 (by decide) ?_
  refine ex_cnt (k := 9) (v := nI i) vl_L_8 S wf (by decide) rfl (by decide) (Nat.le_of_ble_eq_true rfl) (Nat.le_refl _) (Nat.le_refl _) dL_isAppeal_3 (fun h S => ?_)
  refine ex_istore_n (lv' := [(2, .int (nI i)), (0, .ref b), (1, .int (nI p))]) dL_isAppeal_6 rfl (by decide) rfl ?_
  refine ex_aload_n 1 dL_isAppeal_7 rfl rfl ?_
  refine ex_iload_n 2 dL_isAppeal_8 rfl rfl ?_
  refine ex_bipush (v := nI 8) dL_isAppeal_9 (by decide) ?_
  refine ex_per (j := p) (k := 8) (v := mayI n (some i) u q p) vl_L_14 S wf hp (by decide) rfl (by decide) (Nat.le_of_ble_eq_true rfl) (Nat.le_refl _) (Nat.le_refl _) dL_isAppeal_11 (fun h S => ?_)
  refine ex_iconst (v := nI 1) dL_isAppeal_14 (by decide) ?_
  refine ex_icmp_ne (tgt := 22) dL_isAppeal_15 (by decide) (fun c_15 => absurd (hm1) c_15) (fun c_15 => ?_)
  refine ex_iconst (v := nI 1) dL_isAppeal_18 (by decide) ?_
  refine ex_goto (tgt := 23) dL_isAppeal_19 (by decide) ?_
  refine ex_istore_n (lv' := [(3, .int (nI 1)), (2, .int (nI i)), (0, .ref b), (1, .int (nI p))]) dL_isAppeal_23 rfl (by decide) rfl ?_
  refine ex_iload_n 0 dL_isAppeal_24 rfl rfl ?_
  refine ex_if_eq (tgt := 47) dL_isAppeal_25 (by decide) (fun c_25 => absurd c_25 (by decide)) (fun c_25 => ?_)
  refine ex_aload_n 2 dL_isAppeal_28 rfl rfl ?_
  refine ex_iload_n 3 dL_isAppeal_29 rfl rfl ?_
  refine ex_iconst (v := nI 5) dL_isAppeal_30 (by decide) ?_
  refine ex_per (j := p) (k := 5) (v := scI u q p + nI 1000) vl_L_14 S wf hp (by decide) rfl (by decide) (Nat.le_of_ble_eq_true rfl) (Nat.le_refl _) (Nat.le_refl _) dL_isAppeal_31 (fun h S => ?_)
  refine ex_aload_n 2 dL_isAppeal_34 rfl rfl ?_
  refine ex_iload_n 1 dL_isAppeal_35 rfl rfl ?_
  refine ex_iconst (v := nI 5) dL_isAppeal_36 (by decide) ?_
  refine ex_per (j := i) (k := 5) (v := scI u q i + nI 1000) vl_L_14 S wf hi (by decide) rfl (by decide) (Nat.le_of_ble_eq_true rfl) (Nat.le_refl _) (Nat.le_refl _) dL_isAppeal_37 (fun h S => ?_)
  refine ex_icmp_le (tgt := 47) dL_isAppeal_40 (by decide) (fun c_40 => absurd c_40 (fun q9 => (sc_lt ok hi hp).mp q9 hw)) (fun c_40 => ?_)
  refine ex_iconst (v := nI 1) dL_isAppeal_43 (by decide) ?_
  refine ex_goto (tgt := 48) dL_isAppeal_44 (by decide) ?_
  refine ex_istore (lv' := [(4, .int (nI 1)), (3, .int (nI 1)), (2, .int (nI i)), (0, .ref b), (1, .int (nI p))]) dL_isAppeal_48 (by decide) rfl ?_
  refine ex_aload_n 3 dL_isAppeal_50 rfl rfl ?_
  refine ex_iload_n 4 dL_isAppeal_51 rfl rfl ?_
  refine ex_iconst (v := nI 3) dL_isAppeal_52 (by decide) ?_
  refine ex_per (j := p) (k := 3) (v := q p 3) vl_L_14 S wf hp (by decide) rfl (by decide) (Nat.le_of_ble_eq_true rfl) (Nat.le_refl _) (Nat.le_refl _) dL_isAppeal_53 (fun h S => ?_)
  refine ex_istore (lv' := [(5, .int (q p 3)), (4, .int (nI 1)), (3, .int (nI 1)), (2, .int (nI i)), (0, .ref b), (1, .int (nI p))]) dL_isAppeal_56 (by decide) rfl ?_
  refine ex_aload_n 4 dL_isAppeal_58 rfl rfl ?_
  refine ex_bipush (v := nI 11) dL_isAppeal_59 (by decide) ?_
  refine ex_cnt (k := 11) (v := u 11) vl_L_8 S wf (by decide) rfl (by decide) (Nat.le_of_ble_eq_true rfl) (Nat.le_refl _) (Nat.le_refl _) dL_isAppeal_61 (fun h S => ?_)
  refine ex_istore (lv' := [(6, .int (u 11)), (5, .int (q p 3)), (4, .int (nI 1)), (3, .int (nI 1)), (2, .int (nI i)), (0, .ref b), (1, .int (nI p))]) dL_isAppeal_64 (by decide) rfl ?_
  refine ex_aload_n 5 dL_isAppeal_66 rfl rfl ?_
  refine ex_iload_n 6 dL_isAppeal_67 rfl rfl ?_
  refine ex_iconst (v := nI 2) dL_isAppeal_68 (by decide) ?_
  refine ex_per (j := p) (k := 2) (v := q p 2) vl_L_14 S wf hp (by decide) rfl (by decide) (Nat.le_of_ble_eq_true rfl) (Nat.le_refl _) (Nat.le_refl _) dL_isAppeal_69 (fun h S => ?_)
  refine ex_istore (lv' := [(7, .int (q p 2)), (6, .int (u 11)), (5, .int (q p 3)), (4, .int (nI 1)), (3, .int (nI 1)), (2, .int (nI i)), (0, .ref b), (1, .int (nI p))]) dL_isAppeal_72 (by decide) rfl ?_
  refine ex_aload_n 6 dL_isAppeal_74 rfl rfl ?_
  refine ex_bipush (v := nI 15) dL_isAppeal_75 (by decide) ?_
  refine ex_cnt (k := 15) (v := u 14) vl_L_8 S wf (by decide) rfl (by decide) (Nat.le_of_ble_eq_true rfl) (Nat.le_refl _) (Nat.le_refl _) dL_isAppeal_77 (fun h S => ?_)
  refine ex_istore (lv' := [(8, .int (u 14)), (7, .int (q p 2)), (6, .int (u 11)), (5, .int (q p 3)), (4, .int (nI 1)), (3, .int (nI 1)), (2, .int (nI i)), (0, .ref b), (1, .int (nI p))]) dL_isAppeal_80 (by decide) rfl ?_
  refine ex_aload_n 7 dL_isAppeal_82 rfl rfl ?_
  refine ex_bipush (v := nI 8) dL_isAppeal_83 (by decide) ?_
  refine ex_cnt (k := 8) (v := u 8) vl_L_8 S wf (by decide) rfl (by decide) (Nat.le_of_ble_eq_true rfl) (Nat.le_refl _) (Nat.le_refl _) dL_isAppeal_85 (fun h S => ?_)
  refine ex_istore (lv' := [(9, .int (u 8)), (8, .int (u 14)), (7, .int (q p 2)), (6, .int (u 11)), (5, .int (q p 3)), (4, .int (nI 1)), (3, .int (nI 1)), (2, .int (nI i)), (0, .ref b), (1, .int (nI p))]) dL_isAppeal_88 (by decide) rfl ?_
  refine ex_aload_n 8 dL_isAppeal_90 rfl rfl ?_
  refine ex_iload_n 9 dL_isAppeal_91 rfl rfl ?_
  refine ex_ch (As := [.int (nI p)]) (v := nI 1) (x2 := ((n, none, p, (upd (upd u 11 (u 11 + u 2)) 14 (u 14 + nI 1)), (uq q p 3 (q p 3 - u 2))), (recX ((n, some i, t, u, q), R) A0).2)) vl_L_31 rfl S (c_appeal S n8 wf.2.1) (X_appeal_w hp n8 hm hw) rfl (by decide) (Nat.le_of_ble_eq_true rfl) (Nat.le_refl _) (Nat.le_refl _) rfl dL_isAppeal_92 (fun h S => ?_)
  refine ex_istore (lv' := [(10, .int (nI 1)), (9, .int (u 8)), (8, .int (u 14)), (7, .int (q p 2)), (6, .int (u 11)), (5, .int (q p 3)), (4, .int (nI 1)), (3, .int (nI 1)), (2, .int (nI i)), (0, .ref b), (1, .int (nI p))]) dL_isAppeal_95 (by decide) rfl ?_
  refine ex_iload_n 7 dL_isAppeal_97 rfl rfl ?_
  refine ex_if_ne (tgt := 128) dL_isAppeal_98 (by decide) (fun c_98 => ?_) (fun c_98 => absurd c_98 (by decide))
  refine ex_iload 0 dL_isAppeal_128 rfl ?_
  refine ex_iload 6 dL_isAppeal_130 rfl ?_
  refine ex_if_eq (tgt := 139) dL_isAppeal_132 (by decide) (fun c_132 => absurd c_132 (by decide)) (fun c_132 => ?_)
  refine ex_iconst (v := nI 1) dL_isAppeal_135 (by decide) ?_
  refine ex_goto (tgt := 140) dL_isAppeal_136 (by decide) ?_
  refine ex_icmp_ne (tgt := 263) dL_isAppeal_140 (by decide) (fun c_140 => absurd (rfl) c_140) (fun c_140 => ?_)
  refine ex_aload_n 9 dL_isAppeal_143 rfl rfl ?_
  refine ex_iload_n 10 dL_isAppeal_144 rfl rfl ?_
  refine ex_iconst (v := nI 3) dL_isAppeal_145 (by decide) ?_
  refine ex_per (j := p) (k := 3) (v := (uq q p 3 (q p 3 - u 2)) p 3) vl_L_14 S wf2 hp (by decide) rfl (by decide) (Nat.le_of_ble_eq_true rfl) (Nat.le_refl _) (Nat.le_refl _) dL_isAppeal_146 (fun h S => ?_)
  refine ex_iload 5 dL_isAppeal_149 rfl ?_
  refine ex_aload_n 9 dL_isAppeal_151 rfl rfl ?_
  refine ex_iconst (v := nI 2) dL_isAppeal_152 (by decide) ?_
  refine ex_cnt (k := 2) (v := u 2) vl_L_8 S wf2 (by decide) rfl (by decide) (Nat.le_of_ble_eq_true rfl) (Nat.le_refl _) (Nat.le_refl _) dL_isAppeal_153 (fun h S => ?_)
  refine ex_isub dL_isAppeal_156 ?_
  refine ex_icmp_ne (tgt := 263) dL_isAppeal_157 (by decide) (fun c_157 => absurd (by simp [uq]) c_157) (fun c_157 => ?_)
  refine ex_aload_n 9 dL_isAppeal_160 rfl rfl ?_
  refine ex_bipush (v := nI 11) dL_isAppeal_161 (by decide) ?_
  refine ex_cnt (k := 11) (v := u 11 + u 2) vl_L_8 S wf2 (by decide) rfl (by decide) (Nat.le_of_ble_eq_true rfl) (Nat.le_refl _) (Nat.le_refl _) dL_isAppeal_163 (fun h S => ?_)
  refine ex_iload 4 dL_isAppeal_166 rfl ?_
  refine ex_aload_n 9 dL_isAppeal_168 rfl rfl ?_
  refine ex_iconst (v := nI 2) dL_isAppeal_169 (by decide) ?_
  refine ex_cnt (k := 2) (v := u 2) vl_L_8 S wf2 (by decide) rfl (by decide) (Nat.le_of_ble_eq_true rfl) (Nat.le_refl _) (Nat.le_refl _) dL_isAppeal_170 (fun h S => ?_)
  refine ex_iadd dL_isAppeal_173 ?_
  refine ex_icmp_ne (tgt := 263) dL_isAppeal_174 (by decide) (fun c_174 => absurd (rfl) c_174) (fun c_174 => ?_)
  refine ex_aload_n 9 dL_isAppeal_177 rfl rfl ?_
  refine ex_iload_n 10 dL_isAppeal_178 rfl rfl ?_
  refine ex_iconst (v := nI 2) dL_isAppeal_179 (by decide) ?_
  refine ex_per (j := p) (k := 2) (v := q p 2) vl_L_14 S wf2 hp (by decide) rfl (by decide) (Nat.le_of_ble_eq_true rfl) (Nat.le_refl _) (Nat.le_refl _) dL_isAppeal_180 (fun h S => ?_)
  refine ex_iload 3 dL_isAppeal_183 rfl ?_
  refine ex_iload 6 dL_isAppeal_185 rfl ?_
  refine ex_if_eq (tgt := 194) dL_isAppeal_187 (by decide) (fun c_187 => absurd c_187 (by decide)) (fun c_187 => ?_)
  refine ex_iconst (v := nI 0) dL_isAppeal_190 (by decide) ?_
  refine ex_goto (tgt := 195) dL_isAppeal_191 (by decide) ?_
  refine ex_iadd dL_isAppeal_195 ?_
  refine ex_icmp_ne (tgt := 263) dL_isAppeal_196 (by decide) (fun c_196 => absurd ((Int32.add_zero _).symm) c_196) (fun c_196 => ?_)
  refine ex_aload_n 9 dL_isAppeal_199 rfl rfl ?_
  refine ex_bipush (v := nI 9) dL_isAppeal_200 (by decide) ?_
  refine ex_cnt (k := 9) (v := (-6)) vl_L_8 S wf2 (by decide) rfl (by decide) (Nat.le_of_ble_eq_true rfl) (Nat.le_refl _) (Nat.le_refl _) dL_isAppeal_202 (fun h S => ?_)
  refine ex_iload 6 dL_isAppeal_205 rfl ?_
  refine ex_if_eq (tgt := 215) dL_isAppeal_207 (by decide) (fun c_207 => absurd c_207 (by decide)) (fun c_207 => ?_)
  refine ex_bipush (v := (-6)) dL_isAppeal_210 (by decide) ?_
  refine ex_goto (tgt := 216) dL_isAppeal_212 (by decide) ?_
  refine ex_icmp_ne (tgt := 263) dL_isAppeal_216 (by decide) (fun c_216 => absurd (rfl) c_216) (fun c_216 => ?_)
  refine ex_aload_n 9 dL_isAppeal_219 rfl rfl ?_
  refine ex_bipush (v := nI 15) dL_isAppeal_220 (by decide) ?_
  refine ex_cnt (k := 15) (v := u 14 + nI 1) vl_L_8 S wf2 (by decide) rfl (by decide) (Nat.le_of_ble_eq_true rfl) (Nat.le_refl _) (Nat.le_refl _) dL_isAppeal_222 (fun h S => ?_)
  refine ex_iload 2 dL_isAppeal_225 rfl ?_
  refine ex_iload 0 dL_isAppeal_227 rfl ?_
  refine ex_iadd dL_isAppeal_229 ?_
  refine ex_icmp_ne (tgt := 263) dL_isAppeal_230 (by decide) (fun c_230 => absurd (rfl) c_230) (fun c_230 => ?_)
  refine ex_aload_n 9 dL_isAppeal_233 rfl rfl ?_
  refine ex_bipush (v := nI 8) dL_isAppeal_234 (by decide) ?_
  refine ex_cnt (k := 8) (v := u 8) vl_L_8 S wf2 (by decide) rfl (by decide) (Nat.le_of_ble_eq_true rfl) (Nat.le_refl _) (Nat.le_refl _) dL_isAppeal_236 (fun h S => ?_)
  refine ex_iload 1 dL_isAppeal_239 rfl ?_
  refine ex_icmp_ne (tgt := 263) dL_isAppeal_241 (by decide) (fun c_241 => absurd (rfl) c_241) (fun c_241 => ?_)
  refine ex_iload 6 dL_isAppeal_244 rfl ?_
  refine ex_if_eq (tgt := 259) dL_isAppeal_246 (by decide) (fun c_246 => absurd c_246 (by decide)) (fun c_246 => ?_)
  refine ex_aload_n 9 dL_isAppeal_249 rfl rfl ?_
  refine ex_bipush (v := nI 10) dL_isAppeal_250 (by decide) ?_
  refine ex_cnt (k := 10) (v := nI p) vl_L_8 S wf2 (by decide) rfl (by decide) (Nat.le_of_ble_eq_true rfl) (Nat.le_refl _) (Nat.le_refl _) dL_isAppeal_252 (fun h S => ?_)
  refine ex_iload_n 10 dL_isAppeal_255 rfl rfl ?_
  refine ex_icmp_ne (tgt := 263) dL_isAppeal_256 (by decide) (fun c_256 => absurd (rfl) c_256) (fun c_256 => ?_)
  refine ex_iconst (v := nI 1) dL_isAppeal_259 (by decide) ?_
  refine ex_goto (tgt := 264) dL_isAppeal_260 (by decide) ?_
  exact ex_zret hQ rfl (by decide) ⟨rfl, rfl, S⟩ dL_isAppeal_264

set_option maxRecDepth 20000 in
set_option maxHeartbeats 2000000 in
theorem c_isAppealL {G : GG} {l : Launch} {h0 : HP} {z b : Nat} {n : Nat} {t : Nat} {u : Nat → Int32} {q : Nat → Nat → Int32} {R : RX} {K : Nat} {p i : Nat} (hp : p < n) (hm : ¬ mayI n (some i) u q p = nI 0) (hm1 : mayI n (some i) u q p = nI 1) (hw : ¬ scI u q i < scI u q p) (S0 : PP G h0 z b ((n, (some i), t, u, q), R)) (ok : iv K (n, (some i), t, u, q)) (hK : K < 2 ^ 23) : Ct G l 4 0 0 yL_isAppeal cL_isAppeal 11 (some .boolean) [.ref b, .int (nI p)] h0 z (pL G b z (X_appeal ((n, some i, t, u, q), R) (nI p)).2) := by
  refine Ct.intro (lv := [(0, .ref b), (1, .int (nI p))]) (by decide +kernel) (Nat.le_of_ble_eq_true rfl) rfl (fun X Q hQ hnm => ?_)
  have S := S0
  have wf : wfA (n, (some i), t, u, q) := ok.1.1
  have n8 : n ≤ 8 := wf.1
  have tw : t < n ∨ t = 0 := wf.2.2
  have ok1 := ok.1
  have ow := ok.2
  have hi : i < n := wf.2.1 i rfl
  have wf2 : wfA (n, (some i), t, (upd (upd u 11 (u 11 + u 2)) 12 (u 12 + nI 1)), (uq (uq q p 3 (q p 3 - u 2)) p 2 (q p 2 + nI 1))) := wf
  rw [X_appeal_l hp n8 hm hw] at hQ
  refine ex_aload_n 0 dL_isAppeal_0 rfl rfl ?_
  refine ex_bipush (v := nI 9) dL_isAppeal_1 (by decide) ?_
  refine ex_cnt (k := 9) (v := nI i) vl_L_8 S wf (by decide) rfl (by decide) (Nat.le_of_ble_eq_true rfl) (Nat.le_refl _) (Nat.le_refl _) dL_isAppeal_3 (fun h S => ?_)
  refine ex_istore_n (lv' := [(2, .int (nI i)), (0, .ref b), (1, .int (nI p))]) dL_isAppeal_6 rfl (by decide) rfl ?_
  refine ex_aload_n 1 dL_isAppeal_7 rfl rfl ?_
  refine ex_iload_n 2 dL_isAppeal_8 rfl rfl ?_
  refine ex_bipush (v := nI 8) dL_isAppeal_9 (by decide) ?_
  refine ex_per (j := p) (k := 8) (v := mayI n (some i) u q p) vl_L_14 S wf hp (by decide) rfl (by decide) (Nat.le_of_ble_eq_true rfl) (Nat.le_refl _) (Nat.le_refl _) dL_isAppeal_11 (fun h S => ?_)
  refine ex_iconst (v := nI 1) dL_isAppeal_14 (by decide) ?_
  refine ex_icmp_ne (tgt := 22) dL_isAppeal_15 (by decide) (fun c_15 => absurd (hm1) c_15) (fun c_15 => ?_)
  refine ex_iconst (v := nI 1) dL_isAppeal_18 (by decide) ?_
  refine ex_goto (tgt := 23) dL_isAppeal_19 (by decide) ?_
  refine ex_istore_n (lv' := [(3, .int (nI 1)), (2, .int (nI i)), (0, .ref b), (1, .int (nI p))]) dL_isAppeal_23 rfl (by decide) rfl ?_
  refine ex_iload_n 0 dL_isAppeal_24 rfl rfl ?_
  refine ex_if_eq (tgt := 47) dL_isAppeal_25 (by decide) (fun c_25 => absurd c_25 (by decide)) (fun c_25 => ?_)
  refine ex_aload_n 2 dL_isAppeal_28 rfl rfl ?_
  refine ex_iload_n 3 dL_isAppeal_29 rfl rfl ?_
  refine ex_iconst (v := nI 5) dL_isAppeal_30 (by decide) ?_
  refine ex_per (j := p) (k := 5) (v := scI u q p + nI 1000) vl_L_14 S wf hp (by decide) rfl (by decide) (Nat.le_of_ble_eq_true rfl) (Nat.le_refl _) (Nat.le_refl _) dL_isAppeal_31 (fun h S => ?_)
  refine ex_aload_n 2 dL_isAppeal_34 rfl rfl ?_
  refine ex_iload_n 1 dL_isAppeal_35 rfl rfl ?_
  refine ex_iconst (v := nI 5) dL_isAppeal_36 (by decide) ?_
  refine ex_per (j := i) (k := 5) (v := scI u q i + nI 1000) vl_L_14 S wf hi (by decide) rfl (by decide) (Nat.le_of_ble_eq_true rfl) (Nat.le_refl _) (Nat.le_refl _) dL_isAppeal_37 (fun h S => ?_)
  refine ex_icmp_le (tgt := 47) dL_isAppeal_40 (by decide) (fun c_40 => ?_) (fun c_40 => absurd ((sc_lt ok hi hp).mpr hw) c_40)
  refine ex_iconst (v := nI 0) dL_isAppeal_47 (by decide) ?_
  refine ex_istore (lv' := [(4, .int (nI 0)), (3, .int (nI 1)), (2, .int (nI i)), (0, .ref b), (1, .int (nI p))]) dL_isAppeal_48 (by decide) rfl ?_
  refine ex_aload_n 3 dL_isAppeal_50 rfl rfl ?_
  refine ex_iload_n 4 dL_isAppeal_51 rfl rfl ?_
  refine ex_iconst (v := nI 3) dL_isAppeal_52 (by decide) ?_
  refine ex_per (j := p) (k := 3) (v := q p 3) vl_L_14 S wf hp (by decide) rfl (by decide) (Nat.le_of_ble_eq_true rfl) (Nat.le_refl _) (Nat.le_refl _) dL_isAppeal_53 (fun h S => ?_)
  refine ex_istore (lv' := [(5, .int (q p 3)), (4, .int (nI 0)), (3, .int (nI 1)), (2, .int (nI i)), (0, .ref b), (1, .int (nI p))]) dL_isAppeal_56 (by decide) rfl ?_
  refine ex_aload_n 4 dL_isAppeal_58 rfl rfl ?_
  refine ex_bipush (v := nI 11) dL_isAppeal_59 (by decide) ?_
  refine ex_cnt (k := 11) (v := u 11) vl_L_8 S wf (by decide) rfl (by decide) (Nat.le_of_ble_eq_true rfl) (Nat.le_refl _) (Nat.le_refl _) dL_isAppeal_61 (fun h S => ?_)
  refine ex_istore (lv' := [(6, .int (u 11)), (5, .int (q p 3)), (4, .int (nI 0)), (3, .int (nI 1)), (2, .int (nI i)), (0, .ref b), (1, .int (nI p))]) dL_isAppeal_64 (by decide) rfl ?_
  refine ex_aload_n 5 dL_isAppeal_66 rfl rfl ?_
  refine ex_iload_n 6 dL_isAppeal_67 rfl rfl ?_
  refine ex_iconst (v := nI 2) dL_isAppeal_68 (by decide) ?_
  refine ex_per (j := p) (k := 2) (v := q p 2) vl_L_14 S wf hp (by decide) rfl (by decide) (Nat.le_of_ble_eq_true rfl) (Nat.le_refl _) (Nat.le_refl _) dL_isAppeal_69 (fun h S => ?_)
  refine ex_istore (lv' := [(7, .int (q p 2)), (6, .int (u 11)), (5, .int (q p 3)), (4, .int (nI 0)), (3, .int (nI 1)), (2, .int (nI i)), (0, .ref b), (1, .int (nI p))]) dL_isAppeal_72 (by decide) rfl ?_
  refine ex_aload_n 6 dL_isAppeal_74 rfl rfl ?_
  refine ex_bipush (v := nI 15) dL_isAppeal_75 (by decide) ?_
  refine ex_cnt (k := 15) (v := u 14) vl_L_8 S wf (by decide) rfl (by decide) (Nat.le_of_ble_eq_true rfl) (Nat.le_refl _) (Nat.le_refl _) dL_isAppeal_77 (fun h S => ?_)
  refine ex_istore (lv' := [(8, .int (u 14)), (7, .int (q p 2)), (6, .int (u 11)), (5, .int (q p 3)), (4, .int (nI 0)), (3, .int (nI 1)), (2, .int (nI i)), (0, .ref b), (1, .int (nI p))]) dL_isAppeal_80 (by decide) rfl ?_
  refine ex_aload_n 7 dL_isAppeal_82 rfl rfl ?_
  refine ex_bipush (v := nI 8) dL_isAppeal_83 (by decide) ?_
  refine ex_cnt (k := 8) (v := u 8) vl_L_8 S wf (by decide) rfl (by decide) (Nat.le_of_ble_eq_true rfl) (Nat.le_refl _) (Nat.le_refl _) dL_isAppeal_85 (fun h S => ?_)
  refine ex_istore (lv' := [(9, .int (u 8)), (8, .int (u 14)), (7, .int (q p 2)), (6, .int (u 11)), (5, .int (q p 3)), (4, .int (nI 0)), (3, .int (nI 1)), (2, .int (nI i)), (0, .ref b), (1, .int (nI p))]) dL_isAppeal_88 (by decide) rfl ?_
  refine ex_aload_n 8 dL_isAppeal_90 rfl rfl ?_
  refine ex_iload_n 9 dL_isAppeal_91 rfl rfl ?_
  refine ex_ch (As := [.int (nI p)]) (v := nI 0) (x2 := ((n, (some i), t, (upd (upd u 11 (u 11 + u 2)) 12 (u 12 + nI 1)), (uq (uq q p 3 (q p 3 - u 2)) p 2 (q p 2 + nI 1))), (recX ((n, some i, t, u, q), R) A0).2)) vl_L_31 rfl S (c_appeal S n8 wf.2.1) (X_appeal_l hp n8 hm hw) rfl (by decide) (Nat.le_of_ble_eq_true rfl) (Nat.le_refl _) (Nat.le_refl _) rfl dL_isAppeal_92 (fun h S => ?_)
  refine ex_istore (lv' := [(10, .int (nI 0)), (9, .int (u 8)), (8, .int (u 14)), (7, .int (q p 2)), (6, .int (u 11)), (5, .int (q p 3)), (4, .int (nI 0)), (3, .int (nI 1)), (2, .int (nI i)), (0, .ref b), (1, .int (nI p))]) dL_isAppeal_95 (by decide) rfl ?_
  refine ex_iload_n 7 dL_isAppeal_97 rfl rfl ?_
  refine ex_if_ne (tgt := 128) dL_isAppeal_98 (by decide) (fun c_98 => ?_) (fun c_98 => absurd c_98 (by decide))
  refine ex_iload 0 dL_isAppeal_128 rfl ?_
  refine ex_iload 6 dL_isAppeal_130 rfl ?_
  refine ex_if_eq (tgt := 139) dL_isAppeal_132 (by decide) (fun c_132 => ?_) (fun c_132 => absurd (by decide) c_132)
  refine ex_iconst (v := nI 0) dL_isAppeal_139 (by decide) ?_
  refine ex_icmp_ne (tgt := 263) dL_isAppeal_140 (by decide) (fun c_140 => absurd (rfl) c_140) (fun c_140 => ?_)
  refine ex_aload_n 9 dL_isAppeal_143 rfl rfl ?_
  refine ex_iload_n 10 dL_isAppeal_144 rfl rfl ?_
  refine ex_iconst (v := nI 3) dL_isAppeal_145 (by decide) ?_
  refine ex_per (j := p) (k := 3) (v := (uq q p 3 (q p 3 - u 2)) p 3) vl_L_14 S wf2 hp (by decide) rfl (by decide) (Nat.le_of_ble_eq_true rfl) (Nat.le_refl _) (Nat.le_refl _) dL_isAppeal_146 (fun h S => ?_)
  refine ex_iload 5 dL_isAppeal_149 rfl ?_
  refine ex_aload_n 9 dL_isAppeal_151 rfl rfl ?_
  refine ex_iconst (v := nI 2) dL_isAppeal_152 (by decide) ?_
  refine ex_cnt (k := 2) (v := u 2) vl_L_8 S wf2 (by decide) rfl (by decide) (Nat.le_of_ble_eq_true rfl) (Nat.le_refl _) (Nat.le_refl _) dL_isAppeal_153 (fun h S => ?_)
  refine ex_isub dL_isAppeal_156 ?_
  refine ex_icmp_ne (tgt := 263) dL_isAppeal_157 (by decide) (fun c_157 => absurd (by simp [uq]) c_157) (fun c_157 => ?_)
  refine ex_aload_n 9 dL_isAppeal_160 rfl rfl ?_
  refine ex_bipush (v := nI 11) dL_isAppeal_161 (by decide) ?_
  refine ex_cnt (k := 11) (v := u 11 + u 2) vl_L_8 S wf2 (by decide) rfl (by decide) (Nat.le_of_ble_eq_true rfl) (Nat.le_refl _) (Nat.le_refl _) dL_isAppeal_163 (fun h S => ?_)
  refine ex_iload 4 dL_isAppeal_166 rfl ?_
  refine ex_aload_n 9 dL_isAppeal_168 rfl rfl ?_
  refine ex_iconst (v := nI 2) dL_isAppeal_169 (by decide) ?_
  refine ex_cnt (k := 2) (v := u 2) vl_L_8 S wf2 (by decide) rfl (by decide) (Nat.le_of_ble_eq_true rfl) (Nat.le_refl _) (Nat.le_refl _) dL_isAppeal_170 (fun h S => ?_)
  refine ex_iadd dL_isAppeal_173 ?_
  refine ex_icmp_ne (tgt := 263) dL_isAppeal_174 (by decide) (fun c_174 => absurd (rfl) c_174) (fun c_174 => ?_)
  refine ex_aload_n 9 dL_isAppeal_177 rfl rfl ?_
  refine ex_iload_n 10 dL_isAppeal_178 rfl rfl ?_
  refine ex_iconst (v := nI 2) dL_isAppeal_179 (by decide) ?_
  refine ex_per (j := p) (k := 2) (v := (uq (uq q p 3 (q p 3 - u 2)) p 2 (q p 2 + nI 1)) p 2) vl_L_14 S wf2 hp (by decide) rfl (by decide) (Nat.le_of_ble_eq_true rfl) (Nat.le_refl _) (Nat.le_refl _) dL_isAppeal_180 (fun h S => ?_)
  refine ex_iload 3 dL_isAppeal_183 rfl ?_
  refine ex_iload 6 dL_isAppeal_185 rfl ?_
  refine ex_if_eq (tgt := 194) dL_isAppeal_187 (by decide) (fun c_187 => ?_) (fun c_187 => absurd (by decide) c_187)
  refine ex_iconst (v := nI 1) dL_isAppeal_194 (by decide) ?_
  refine ex_iadd dL_isAppeal_195 ?_
  refine ex_icmp_ne (tgt := 263) dL_isAppeal_196 (by decide) (fun c_196 => absurd (uq_s) c_196) (fun c_196 => ?_)
  refine ex_aload_n 9 dL_isAppeal_199 rfl rfl ?_
  refine ex_bipush (v := nI 9) dL_isAppeal_200 (by decide) ?_
  refine ex_cnt (k := 9) (v := nI i) vl_L_8 S wf2 (by decide) rfl (by decide) (Nat.le_of_ble_eq_true rfl) (Nat.le_refl _) (Nat.le_refl _) dL_isAppeal_202 (fun h S => ?_)
  refine ex_iload 6 dL_isAppeal_205 rfl ?_
  refine ex_if_eq (tgt := 215) dL_isAppeal_207 (by decide) (fun c_207 => ?_) (fun c_207 => absurd (by decide) c_207)
  refine ex_iload_n 8 dL_isAppeal_215 rfl rfl ?_
  refine ex_icmp_ne (tgt := 263) dL_isAppeal_216 (by decide) (fun c_216 => absurd (rfl) c_216) (fun c_216 => ?_)
  refine ex_aload_n 9 dL_isAppeal_219 rfl rfl ?_
  refine ex_bipush (v := nI 15) dL_isAppeal_220 (by decide) ?_
  refine ex_cnt (k := 15) (v := u 14) vl_L_8 S wf2 (by decide) rfl (by decide) (Nat.le_of_ble_eq_true rfl) (Nat.le_refl _) (Nat.le_refl _) dL_isAppeal_222 (fun h S => ?_)
  refine ex_iload 2 dL_isAppeal_225 rfl ?_
  refine ex_iload 0 dL_isAppeal_227 rfl ?_
  refine ex_iadd dL_isAppeal_229 ?_
  refine ex_icmp_ne (tgt := 263) dL_isAppeal_230 (by decide) (fun c_230 => absurd ((Int32.add_zero _).symm) c_230) (fun c_230 => ?_)
  refine ex_aload_n 9 dL_isAppeal_233 rfl rfl ?_
  refine ex_bipush (v := nI 8) dL_isAppeal_234 (by decide) ?_
  refine ex_cnt (k := 8) (v := u 8) vl_L_8 S wf2 (by decide) rfl (by decide) (Nat.le_of_ble_eq_true rfl) (Nat.le_refl _) (Nat.le_refl _) dL_isAppeal_236 (fun h S => ?_)
  refine ex_iload 1 dL_isAppeal_239 rfl ?_
  refine ex_icmp_ne (tgt := 263) dL_isAppeal_241 (by decide) (fun c_241 => absurd (rfl) c_241) (fun c_241 => ?_)
  refine ex_iload 6 dL_isAppeal_244 rfl ?_
  refine ex_if_eq (tgt := 259) dL_isAppeal_246 (by decide) (fun c_246 => ?_) (fun c_246 => absurd (by decide) c_246)
  refine ex_iconst (v := nI 1) dL_isAppeal_259 (by decide) ?_
  refine ex_goto (tgt := 264) dL_isAppeal_260 (by decide) ?_
  exact ex_zret hQ rfl (by decide) ⟨rfl, rfl, S⟩ dL_isAppeal_264

theorem c_isAppeal {G : GG} {l : Launch} {h0 : HP} {z b K : Nat} {x : CX} {p : Nat} (hp : p ≤ x.1.1) (S0 : PP G h0 z b x) (ok : iv K x.1) (hK : K < 2 ^ 23) : Ct G l 4 0 0 yL_isAppeal cL_isAppeal 11 (some .boolean) [.ref b, .int (nI p)] h0 z (pL G b z (X_appeal x (nI p)).2) := by
  obtain ⟨⟨n, g, t, u, q⟩, R⟩ := x
  have n8 : n ≤ 8 := ok.1.1.1
  have hp : p ≤ n := hp
  by_cases c : n ≤ p
  · exact c_isAppealA c (by omega) S0 ok hK
  · by_cases hm : mayI n g u q p = nI 0
    · exact c_isAppealB (by omega) hm S0 ok hK
    · obtain ⟨i, rfl, h1, h2, h3, h4⟩ := may_s hm
      by_cases hw : scI u q i < scI u q p
      · exact c_isAppealW (by omega) hm h4 hw S0 ok hK
      · exact c_isAppealL (by omega) hm h4 hw S0 ok hK

