set_option maxRecDepth 20000 in
set_option maxHeartbeats 2000000 in
theorem c_areDaysSS {G : GG} {l : Launch} {h0 : HP} {z b : Nat} {n : Nat} {t : Nat} {u : Nat → Int32} {q : Nat → Nat → Int32} {R : RX} {K : Nat} {g : Option Nat} {k P a a2 : Nat} {B : AS} {j e : Nat} (hj : j < n) (hjB : j < B.1) (he : e < 500) (hP : 0 < P ↔ e < k) (hpu : 0 < P → ¬ B.2.2.2.2 j 4 ≤ q j 4) {m : Nat} (hm : m ≤ 2000) (hz : m = 0 ↔ a = 0) (hz2 : m ≤ k ↔ a2 = 0) (hk : 1 ≤ k) (hk9 : k ≤ 99) (hPk : P ≤ k) (ha : u 11 = nI a) (ha9 : a < 2 ^ 30) (ha2 : B.2.2.2.1 11 = nI a2) (ha29 : a2 < 2 ^ 30) (wfB : wfA B) (hp : ∀ w, w < 5 → X_ifPassed ((n, g, t, u, q), R) (nI k) (nI w) = ifpN (n, g, t, u, q) B w) (h13 : B.2.2.2.1 13 - u 13 = nI P) (hps : X_pass ((n, g, t, u, q), R) (nI k) = (nI P, (B, (recX ((n, g, t, u, q), R) A0).2))) (hn0 : X_next ((n, g, t, u, q), R) (nI 0) = nI j) (hn1 : X_next ((n, g, t, u, q), R) (nI 1) = nI (e + 1)) (hu : X_untilEmpty ((n, g, t, u, q), R) = nI m) (S0 : PP G h0 z b ((n, g, t, u, q), R)) (ok : iv K (n, g, t, u, q)) (hK : K < 2 ^ 23) : Ct G l 6 0 0 yL_areDays cL_areDays 13 (some .boolean) [.ref b, .int (nI k)] h0 z (pL G b z (X_pass ((n, g, t, u, q), R) (nI k)).2) := by
  refine Ct.intro (lv := [(0, .ref b), (1, .int (nI k))]) (by decide +kernel) (Nat.le_of_ble_eq_true rfl) rfl (fun X Q hQ hnm => ?_)
  have S := S0
  have wf : wfA (n, g, t, u, q) := ok.1.1
  have n8 : n ≤ 8 := wf.1
  have tw : t < n ∨ t = 0 := wf.2.2
  have ok1 := ok.1
  have ow := ok.2
  have hps2 := hps
  rw [hps2] at hQ
  refine ex_aload_n 0 dL_areDays_0 rfl rfl ?_
  refine ex_iload_n 1 dL_areDays_1 rfl rfl ?_
  refine ex_iconst (v := nI 0) dL_areDays_2 (by decide) ?_
  refine ex_ch (As := [.int (nI k), .int (nI 0)]) (v := nI P) (x2 := ((n, g, t, u, q), R)) vl_L_21 rfl S (c_ifPassed S wf ok1.m3) ((by rw [hp 0 (by omega)]; exact congrArg (fun y => (y, ((n, g, t, u, q), R))) h13)) rfl (by decide) (Nat.le_of_ble_eq_true rfl) (Nat.le_refl _) (Nat.le_refl _) rfl dL_areDays_3 (fun h S => ?_)
  refine ex_istore_n (lv' := [(2, .int (nI P)), (0, .ref b), (1, .int (nI k))]) dL_areDays_6 rfl (by decide) rfl ?_
  refine ex_aload_n 1 dL_areDays_7 rfl rfl ?_
  refine ex_iload_n 2 dL_areDays_8 rfl rfl ?_
  refine ex_iconst (v := nI 1) dL_areDays_9 (by decide) ?_
  refine ex_ch (As := [.int (nI k), .int (nI 1)]) (v := B.2.2.2.1 12 - u 12) (x2 := ((n, g, t, u, q), R)) vl_L_21 rfl S (c_ifPassed S wf ok1.m3) ((by rw [hp 1 (by omega)]; rfl)) rfl (by decide) (Nat.le_of_ble_eq_true rfl) (Nat.le_refl _) (Nat.le_refl _) rfl dL_areDays_10 (fun h S => ?_)
  refine ex_istore_n (lv' := [(3, .int (B.2.2.2.1 12 - u 12)), (2, .int (nI P)), (0, .ref b), (1, .int (nI k))]) dL_areDays_13 rfl (by decide) rfl ?_
  refine ex_aload_n 2 dL_areDays_14 rfl rfl ?_
  refine ex_iload_n 3 dL_areDays_15 rfl rfl ?_
  refine ex_iconst (v := nI 2) dL_areDays_16 (by decide) ?_
  refine ex_ch (As := [.int (nI k), .int (nI 2)]) (v := B.2.2.2.1 15 - u 15) (x2 := ((n, g, t, u, q), R)) vl_L_21 rfl S (c_ifPassed S wf ok1.m3) ((by rw [hp 2 (by omega)]; rfl)) rfl (by decide) (Nat.le_of_ble_eq_true rfl) (Nat.le_refl _) (Nat.le_refl _) rfl dL_areDays_17 (fun h S => ?_)
  refine ex_istore (lv' := [(4, .int (B.2.2.2.1 15 - u 15)), (3, .int (B.2.2.2.1 12 - u 12)), (2, .int (nI P)), (0, .ref b), (1, .int (nI k))]) dL_areDays_20 (by decide) rfl ?_
  refine ex_aload_n 3 dL_areDays_22 rfl rfl ?_
  refine ex_iload_n 4 dL_areDays_23 rfl rfl ?_
  refine ex_iconst (v := nI 3) dL_areDays_24 (by decide) ?_
  refine ex_ch (As := [.int (nI k), .int (nI 3)]) (v := B.2.2.2.1 8) (x2 := ((n, g, t, u, q), R)) vl_L_21 rfl S (c_ifPassed S wf ok1.m3) ((by rw [hp 3 (by omega)]; rfl)) rfl (by decide) (Nat.le_of_ble_eq_true rfl) (Nat.le_refl _) (Nat.le_refl _) rfl dL_areDays_25 (fun h S => ?_)
  refine ex_istore (lv' := [(5, .int (B.2.2.2.1 8)), (4, .int (B.2.2.2.1 15 - u 15)), (3, .int (B.2.2.2.1 12 - u 12)), (2, .int (nI P)), (0, .ref b), (1, .int (nI k))]) dL_areDays_28 (by decide) rfl ?_
  refine ex_aload_n 4 dL_areDays_30 rfl rfl ?_
  refine ex_iload_n 5 dL_areDays_31 rfl rfl ?_
  refine ex_iconst (v := nI 4) dL_areDays_32 (by decide) ?_
  refine ex_ch (As := [.int (nI k), .int (nI 4)]) (v := gv B.2.1) (x2 := ((n, g, t, u, q), R)) vl_L_21 rfl S (c_ifPassed S wf ok1.m3) ((by rw [hp 4 (by omega)]; rfl)) rfl (by decide) (Nat.le_of_ble_eq_true rfl) (Nat.le_refl _) (Nat.le_refl _) rfl dL_areDays_33 (fun h S => ?_)
  refine ex_istore (lv' := [(6, .int (gv B.2.1)), (5, .int (B.2.2.2.1 8)), (4, .int (B.2.2.2.1 15 - u 15)), (3, .int (B.2.2.2.1 12 - u 12)), (2, .int (nI P)), (0, .ref b), (1, .int (nI k))]) dL_areDays_36 (by decide) rfl ?_
  refine ex_aload_n 5 dL_areDays_38 rfl rfl ?_
  refine ex_iconst (v := nI 0) dL_areDays_39 (by decide) ?_
  refine ex_ch (As := [.int (nI 0)]) (v := nI j) (x2 := ((n, g, t, u, q), R)) vl_L_24 rfl S (c_next S wf ok1.m3) ((by rw [hn0])) rfl (by decide) (Nat.le_of_ble_eq_true rfl) (Nat.le_refl _) (Nat.le_refl _) rfl dL_areDays_40 (fun h S => ?_)
  refine ex_istore (lv' := [(7, .int (nI j)), (6, .int (gv B.2.1)), (5, .int (B.2.2.2.1 8)), (4, .int (B.2.2.2.1 15 - u 15)), (3, .int (B.2.2.2.1 12 - u 12)), (2, .int (nI P)), (0, .ref b), (1, .int (nI k))]) dL_areDays_43 (by decide) rfl ?_
  refine ex_aload_n 6 dL_areDays_45 rfl rfl ?_
  refine ex_iconst (v := nI 1) dL_areDays_46 (by decide) ?_
  refine ex_ch (As := [.int (nI 1)]) (v := nI (e + 1)) (x2 := ((n, g, t, u, q), R)) vl_L_24 rfl S (c_next S wf ok1.m3) ((by rw [hn1])) rfl (by decide) (Nat.le_of_ble_eq_true rfl) (Nat.le_refl _) (Nat.le_refl _) rfl dL_areDays_47 (fun h S => ?_)
  refine ex_istore (lv' := [(8, .int (nI (e + 1))), (7, .int (nI j)), (6, .int (gv B.2.1)), (5, .int (B.2.2.2.1 8)), (4, .int (B.2.2.2.1 15 - u 15)), (3, .int (B.2.2.2.1 12 - u 12)), (2, .int (nI P)), (0, .ref b), (1, .int (nI k))]) dL_areDays_50 (by decide) rfl ?_
  refine ex_aload_n 7 dL_areDays_52 rfl rfl ?_
  refine ex_ch (As := []) (v := nI m) (x2 := ((n, g, t, u, q), R)) vl_L_27 rfl S (c_untilEmpty S wf ok1.m3) ((by rw [hu])) rfl (by decide) (Nat.le_of_ble_eq_true rfl) (Nat.le_refl _) (Nat.le_refl _) rfl dL_areDays_53 (fun h S => ?_)
  refine ex_istore (lv' := [(9, .int (nI m)), (8, .int (nI (e + 1))), (7, .int (nI j)), (6, .int (gv B.2.1)), (5, .int (B.2.2.2.1 8)), (4, .int (B.2.2.2.1 15 - u 15)), (3, .int (B.2.2.2.1 12 - u 12)), (2, .int (nI P)), (0, .ref b), (1, .int (nI k))]) dL_areDays_56 (by decide) rfl ?_
  refine ex_aload_n 8 dL_areDays_58 rfl rfl ?_
  refine ex_bipush (v := nI 13) dL_areDays_59 (by decide) ?_
  refine ex_cnt (k := 13) (v := u 12) vl_L_8 S wf (by decide) rfl (by decide) (Nat.le_of_ble_eq_true rfl) (Nat.le_refl _) (Nat.le_refl _) dL_areDays_61 (fun h S => ?_)
  refine ex_istore (lv' := [(10, .int (u 12)), (9, .int (nI m)), (8, .int (nI (e + 1))), (7, .int (nI j)), (6, .int (gv B.2.1)), (5, .int (B.2.2.2.1 8)), (4, .int (B.2.2.2.1 15 - u 15)), (3, .int (B.2.2.2.1 12 - u 12)), (2, .int (nI P)), (0, .ref b), (1, .int (nI k))]) dL_areDays_64 (by decide) rfl ?_
  refine ex_aload_n 9 dL_areDays_66 rfl rfl ?_
  refine ex_bipush (v := nI 16) dL_areDays_67 (by decide) ?_
  refine ex_cnt (k := 16) (v := u 15) vl_L_8 S wf (by decide) rfl (by decide) (Nat.le_of_ble_eq_true rfl) (Nat.le_refl _) (Nat.le_refl _) dL_areDays_69 (fun h S => ?_)
  refine ex_istore (lv' := [(11, .int (u 15)), (10, .int (u 12)), (9, .int (nI m)), (8, .int (nI (e + 1))), (7, .int (nI j)), (6, .int (gv B.2.1)), (5, .int (B.2.2.2.1 8)), (4, .int (B.2.2.2.1 15 - u 15)), (3, .int (B.2.2.2.1 12 - u 12)), (2, .int (nI P)), (0, .ref b), (1, .int (nI k))]) dL_areDays_72 (by decide) rfl ?_
  refine ex_iload 4 dL_areDays_74 rfl ?_
  refine ex_if_ge (tgt := 83) dL_areDays_76 (by decide) (fun c_76 => ?_) (fun c_76 => absurd (nI_pos' (by omega)) c_76)
  refine ex_aload_n 10 dL_areDays_83 rfl rfl ?_
  refine ex_iload 4 dL_areDays_84 rfl ?_
  refine ex_bipush (v := nI 6) dL_areDays_86 (by decide) ?_
  refine ex_per (j := j) (k := 6) (v := q j 4) vl_L_14 S wf hj (by decide) rfl (by decide) (Nat.le_of_ble_eq_true rfl) (Nat.le_refl _) (Nat.le_refl _) dL_areDays_88 (fun h S => ?_)
  refine ex_istore (lv' := [(12, .int (q j 4)), (11, .int (u 15)), (10, .int (u 12)), (9, .int (nI m)), (8, .int (nI (e + 1))), (7, .int (nI j)), (6, .int (gv B.2.1)), (5, .int (B.2.2.2.1 8)), (4, .int (B.2.2.2.1 15 - u 15)), (3, .int (B.2.2.2.1 12 - u 12)), (2, .int (nI P)), (0, .ref b), (1, .int (nI k))]) dL_areDays_91 (by decide) rfl ?_
  refine ex_iload 5 dL_areDays_93 rfl ?_
  refine ex_if_ge (tgt := 102) dL_areDays_95 (by decide) (fun c_95 => ?_) (fun c_95 => absurd (nI_pos' (by omega)) c_95)
  refine ex_iconst (v := nI 0) dL_areDays_102 (by decide) ?_
  refine ex_iload 4 dL_areDays_103 rfl ?_
  refine ex_if_ge (tgt := 112) dL_areDays_105 (by decide) (fun c_105 => ?_) (fun c_105 => absurd (nI_pos' (by omega)) c_105)
  refine ex_iconst (v := nI 0) dL_areDays_112 (by decide) ?_
  refine ex_icmp_ne (tgt := 171) dL_areDays_113 (by decide) (fun c_113 => absurd (by decide) c_113) (fun c_113 => ?_)
  refine ex_iload 3 dL_areDays_116 rfl ?_
  refine ex_if_ne (tgt := 125) dL_areDays_118 (by decide) (fun c_118 => ?_) (fun c_118 => ?_)
  · have n_118 : ¬ (m = 0) := fun q9 => c_118 ((nI_eq (b := 0) (by omega) (by omega)).mpr q9)
    refine ex_iconst (v := nI 0) dL_areDays_125 (by decide) ?_
    refine ex_aload_n 11 dL_areDays_126 rfl rfl ?_
    refine ex_bipush (v := nI 11) dL_areDays_127 (by decide) ?_
    refine ex_cnt (k := 11) (v := u 11) vl_L_8 S wf (by decide) rfl (by decide) (Nat.le_of_ble_eq_true rfl) (Nat.le_refl _) (Nat.le_refl _) dL_areDays_129 (fun h S => ?_)
    refine ex_topi (y := nI a) (ha) ?_
    refine ex_if_ne (tgt := 139) dL_areDays_132 (by decide) (fun c_132 => ?_) (fun c_132 => ?_)
    · have n_132 : ¬ (a = 0) := fun q9 => c_132 ((nI_eq (b := 0) (by omega) (by omega)).mpr q9)
      refine ex_iconst (v := nI 0) dL_areDays_139 (by decide) ?_
      refine ex_icmp_ne (tgt := 171) dL_areDays_140 (by decide) (fun c_140 => absurd (by decide) c_140) (fun c_140 => ?_)
      refine ex_iload_n 10 dL_areDays_143 rfl rfl ?_
      refine ex_if_le (tgt := 151) dL_areDays_144 (by decide) (fun c_144 => ?_) (fun c_144 => ?_)
      · have n_144 : P ≤ 0 := (nI_leI (b := 0) (by omega) (by omega)).mp c_144
        refine ex_iconst (v := nI 0) dL_areDays_151 (by decide) ?_
        refine ex_iload 4 dL_areDays_152 rfl ?_
        refine ex_if_le (tgt := 167) dL_areDays_154 (by decide) (fun c_154 => absurd c_154 (fun q9 => absurd ((nI_leI (b := 0) (by omega) (by omega)).mp q9) (by omega))) (fun c_154 => ?_)
        refine ex_iload 4 dL_areDays_157 rfl ?_
        refine ex_iload_n 12 dL_areDays_159 rfl rfl ?_
        refine ex_icmp_gt (tgt := 167) dL_areDays_160 (by decide) (fun c_160 => ?_) (fun c_160 => ?_)
        · have n_160 : k < (e + 1) := (nI_ltI (by omega) (by omega)).mp c_160
          refine ex_iconst (v := nI 0) dL_areDays_167 (by decide) ?_
          refine ex_icmp_eq (tgt := 173) dL_areDays_168 (by decide) (fun c_168 => ?_) (fun c_168 => absurd (by decide) c_168)
          refine ex_aload_n 11 dL_areDays_173 rfl rfl ?_
          refine ex_iload_n 12 dL_areDays_174 rfl rfl ?_
          refine ex_ch (As := [.int (nI k)]) (v := nI P) (x2 := (B, (recX ((n, g, t, u, q), R) A0).2)) vl_L_18 rfl S (c_pass S wf ok1.m3) (hps) rfl (by decide) (Nat.le_of_ble_eq_true rfl) (Nat.le_refl _) (Nat.le_refl _) rfl dL_areDays_175 (fun h S => ?_)
          refine ex_iload_n 10 dL_areDays_178 rfl rfl ?_
          refine ex_icmp_ne (tgt := 231) dL_areDays_179 (by decide) (fun c_179 => absurd (rfl) c_179) (fun c_179 => ?_)
          refine ex_aload_n 11 dL_areDays_182 rfl rfl ?_
          refine ex_bipush (v := nI 13) dL_areDays_183 (by decide) ?_
          refine ex_cnt (k := 13) (v := B.2.2.2.1 12) vl_L_8 S wfB (by decide) rfl (by decide) (Nat.le_of_ble_eq_true rfl) (Nat.le_refl _) (Nat.le_refl _) dL_areDays_185 (fun h S => ?_)
          refine ex_iload 2 dL_areDays_188 rfl ?_
          refine ex_iload_n 9 dL_areDays_190 rfl rfl ?_
          refine ex_iadd dL_areDays_191 ?_
          refine ex_icmp_ne (tgt := 231) dL_areDays_192 (by decide) (fun c_192 => absurd (rg8) c_192) (fun c_192 => ?_)
          refine ex_aload_n 11 dL_areDays_195 rfl rfl ?_
          refine ex_bipush (v := nI 16) dL_areDays_196 (by decide) ?_
          refine ex_cnt (k := 16) (v := B.2.2.2.1 15) vl_L_8 S wfB (by decide) rfl (by decide) (Nat.le_of_ble_eq_true rfl) (Nat.le_refl _) (Nat.le_refl _) dL_areDays_198 (fun h S => ?_)
          refine ex_iload 1 dL_areDays_201 rfl ?_
          refine ex_iload 8 dL_areDays_203 rfl ?_
          refine ex_iadd dL_areDays_205 ?_
          refine ex_icmp_ne (tgt := 231) dL_areDays_206 (by decide) (fun c_206 => absurd (rg8) c_206) (fun c_206 => ?_)
          refine ex_aload_n 11 dL_areDays_209 rfl rfl ?_
          refine ex_bipush (v := nI 8) dL_areDays_210 (by decide) ?_
          refine ex_cnt (k := 8) (v := B.2.2.2.1 8) vl_L_8 S wfB (by decide) rfl (by decide) (Nat.le_of_ble_eq_true rfl) (Nat.le_refl _) (Nat.le_refl _) dL_areDays_212 (fun h S => ?_)
          refine ex_iload 7 dL_areDays_215 rfl ?_
          refine ex_icmp_ne (tgt := 231) dL_areDays_217 (by decide) (fun c_217 => absurd (rfl) c_217) (fun c_217 => ?_)
          refine ex_aload_n 11 dL_areDays_220 rfl rfl ?_
          refine ex_bipush (v := nI 9) dL_areDays_221 (by decide) ?_
          refine ex_cnt (k := 9) (v := gv B.2.1) vl_L_8 S wfB (by decide) rfl (by decide) (Nat.le_of_ble_eq_true rfl) (Nat.le_refl _) (Nat.le_refl _) dL_areDays_223 (fun h S => ?_)
          refine ex_iload 6 dL_areDays_226 rfl ?_
          refine ex_icmp_eq (tgt := 233) dL_areDays_228 (by decide) (fun c_228 => ?_) (fun c_228 => absurd (rfl) c_228)
          refine ex_iload_n 10 dL_areDays_233 rfl rfl ?_
          refine ex_if_eq (tgt := 250) dL_areDays_234 (by decide) (fun c_234 => ?_) (fun c_234 => ?_)
          · have n_234 : P = 0 := (nI_eq (b := 0) (by omega) (by omega)).mp c_234
            refine ex_iload 3 dL_areDays_250 rfl ?_
            refine ex_if_lt (tgt := 265) dL_areDays_252 (by decide) (fun c_252 => absurd c_252 (nI_pos (by omega))) (fun c_252 => ?_)
            refine ex_iload 3 dL_areDays_255 rfl ?_
            refine ex_iload_n 12 dL_areDays_257 rfl rfl ?_
            refine ex_icmp_gt (tgt := 265) dL_areDays_258 (by decide) (fun c_258 => ?_) (fun c_258 => ?_)
            · have n_258 : k < m := (nI_ltI (by omega) (by omega)).mp c_258
              refine ex_iconst (v := nI 0) dL_areDays_265 (by decide) ?_
              refine ex_aload_n 11 dL_areDays_266 rfl rfl ?_
              refine ex_bipush (v := nI 11) dL_areDays_267 (by decide) ?_
              refine ex_cnt (k := 11) (v := B.2.2.2.1 11) vl_L_8 S wfB (by decide) rfl (by decide) (Nat.le_of_ble_eq_true rfl) (Nat.le_refl _) (Nat.le_refl _) dL_areDays_269 (fun h S => ?_)
              refine ex_topi (y := nI a2) (ha2) ?_
              refine ex_if_ne (tgt := 279) dL_areDays_272 (by decide) (fun c_272 => ?_) (fun c_272 => ?_)
              · have n_272 : ¬ (a2 = 0) := fun q9 => c_272 ((nI_eq (b := 0) (by omega) (by omega)).mpr q9)
                refine ex_iconst (v := nI 0) dL_areDays_279 (by decide) ?_
                refine ex_icmp_ne (tgt := 287) dL_areDays_280 (by decide) (fun c_280 => absurd (by decide) c_280) (fun c_280 => ?_)
                refine ex_iconst (v := nI 1) dL_areDays_283 (by decide) ?_
                refine ex_goto (tgt := 288) dL_areDays_284 (by decide) ?_
                exact ex_zret hQ rfl (by decide) ⟨rfl, rfl, S⟩ dL_areDays_288
              · have n_272 : a2 = 0 := (nI_eq (b := 0) (by omega) (by omega)).mp c_272
                refine ex_iconst (v := nI 1) dL_areDays_275 (by decide) ?_
                refine ex_goto (tgt := 280) dL_areDays_276 (by decide) ?_
                refine ex_icmp_ne (tgt := 287) dL_areDays_280 (by decide) (fun c_280 => ?_) (fun c_280 => absurd c_280 (by decide))
                exfalso
                omega
            · have n_258 : ¬ (k < m) := fun q9 => c_258 ((nI_ltI (by omega) (by omega)).mpr q9)
              refine ex_iconst (v := nI 1) dL_areDays_261 (by decide) ?_
              refine ex_goto (tgt := 266) dL_areDays_262 (by decide) ?_
              refine ex_aload_n 11 dL_areDays_266 rfl rfl ?_
              refine ex_bipush (v := nI 11) dL_areDays_267 (by decide) ?_
              refine ex_cnt (k := 11) (v := B.2.2.2.1 11) vl_L_8 S wfB (by decide) rfl (by decide) (Nat.le_of_ble_eq_true rfl) (Nat.le_refl _) (Nat.le_refl _) dL_areDays_269 (fun h S => ?_)
              refine ex_topi (y := nI a2) (ha2) ?_
              refine ex_if_ne (tgt := 279) dL_areDays_272 (by decide) (fun c_272 => ?_) (fun c_272 => ?_)
              · have n_272 : ¬ (a2 = 0) := fun q9 => c_272 ((nI_eq (b := 0) (by omega) (by omega)).mpr q9)
                refine ex_iconst (v := nI 0) dL_areDays_279 (by decide) ?_
                refine ex_icmp_ne (tgt := 287) dL_areDays_280 (by decide) (fun c_280 => ?_) (fun c_280 => absurd c_280 (by decide))
                exfalso
                omega
              · have n_272 : a2 = 0 := (nI_eq (b := 0) (by omega) (by omega)).mp c_272
                refine ex_iconst (v := nI 1) dL_areDays_275 (by decide) ?_
                refine ex_goto (tgt := 280) dL_areDays_276 (by decide) ?_
                refine ex_icmp_ne (tgt := 287) dL_areDays_280 (by decide) (fun c_280 => absurd (by decide) c_280) (fun c_280 => ?_)
                refine ex_iconst (v := nI 1) dL_areDays_283 (by decide) ?_
                refine ex_goto (tgt := 288) dL_areDays_284 (by decide) ?_
                exact ex_zret hQ rfl (by decide) ⟨rfl, rfl, S⟩ dL_areDays_288
          · have n_234 : ¬ (P = 0) := fun q9 => c_234 ((nI_eq (b := 0) (by omega) (by omega)).mpr q9)
            refine ex_aload_n 11 dL_areDays_237 rfl rfl ?_
            refine ex_iload 5 dL_areDays_238 rfl ?_
            refine ex_bipush (v := nI 6) dL_areDays_240 (by decide) ?_
            refine ex_per (j := j) (k := 6) (v := B.2.2.2.2 j 4) vl_L_14 S wfB hjB (by decide) rfl (by decide) (Nat.le_of_ble_eq_true rfl) (Nat.le_refl _) (Nat.le_refl _) dL_areDays_242 (fun h S => ?_)
            refine ex_iload 0 dL_areDays_245 rfl ?_
            refine ex_icmp_le (tgt := 287) dL_areDays_247 (by decide) (fun c_247 => absurd c_247 (hpu (by omega))) (fun c_247 => ?_)
            refine ex_iload 3 dL_areDays_250 rfl ?_
            refine ex_if_lt (tgt := 265) dL_areDays_252 (by decide) (fun c_252 => absurd c_252 (nI_pos (by omega))) (fun c_252 => ?_)
            refine ex_iload 3 dL_areDays_255 rfl ?_
            refine ex_iload_n 12 dL_areDays_257 rfl rfl ?_
            refine ex_icmp_gt (tgt := 265) dL_areDays_258 (by decide) (fun c_258 => ?_) (fun c_258 => ?_)
            · have n_258 : k < m := (nI_ltI (by omega) (by omega)).mp c_258
              refine ex_iconst (v := nI 0) dL_areDays_265 (by decide) ?_
              refine ex_aload_n 11 dL_areDays_266 rfl rfl ?_
              refine ex_bipush (v := nI 11) dL_areDays_267 (by decide) ?_
              refine ex_cnt (k := 11) (v := B.2.2.2.1 11) vl_L_8 S wfB (by decide) rfl (by decide) (Nat.le_of_ble_eq_true rfl) (Nat.le_refl _) (Nat.le_refl _) dL_areDays_269 (fun h S => ?_)
              refine ex_topi (y := nI a2) (ha2) ?_
              refine ex_if_ne (tgt := 279) dL_areDays_272 (by decide) (fun c_272 => ?_) (fun c_272 => ?_)
              · have n_272 : ¬ (a2 = 0) := fun q9 => c_272 ((nI_eq (b := 0) (by omega) (by omega)).mpr q9)
                refine ex_iconst (v := nI 0) dL_areDays_279 (by decide) ?_
                refine ex_icmp_ne (tgt := 287) dL_areDays_280 (by decide) (fun c_280 => absurd (by decide) c_280) (fun c_280 => ?_)
                refine ex_iconst (v := nI 1) dL_areDays_283 (by decide) ?_
                refine ex_goto (tgt := 288) dL_areDays_284 (by decide) ?_
                exact ex_zret hQ rfl (by decide) ⟨rfl, rfl, S⟩ dL_areDays_288
              · have n_272 : a2 = 0 := (nI_eq (b := 0) (by omega) (by omega)).mp c_272
                refine ex_iconst (v := nI 1) dL_areDays_275 (by decide) ?_
                refine ex_goto (tgt := 280) dL_areDays_276 (by decide) ?_
                refine ex_icmp_ne (tgt := 287) dL_areDays_280 (by decide) (fun c_280 => ?_) (fun c_280 => absurd c_280 (by decide))
                exfalso
                omega
            · have n_258 : ¬ (k < m) := fun q9 => c_258 ((nI_ltI (by omega) (by omega)).mpr q9)
              refine ex_iconst (v := nI 1) dL_areDays_261 (by decide) ?_
              refine ex_goto (tgt := 266) dL_areDays_262 (by decide) ?_
              refine ex_aload_n 11 dL_areDays_266 rfl rfl ?_
              refine ex_bipush (v := nI 11) dL_areDays_267 (by decide) ?_
              refine ex_cnt (k := 11) (v := B.2.2.2.1 11) vl_L_8 S wfB (by decide) rfl (by decide) (Nat.le_of_ble_eq_true rfl) (Nat.le_refl _) (Nat.le_refl _) dL_areDays_269 (fun h S => ?_)
              refine ex_topi (y := nI a2) (ha2) ?_
              refine ex_if_ne (tgt := 279) dL_areDays_272 (by decide) (fun c_272 => ?_) (fun c_272 => ?_)
              · have n_272 : ¬ (a2 = 0) := fun q9 => c_272 ((nI_eq (b := 0) (by omega) (by omega)).mpr q9)
                refine ex_iconst (v := nI 0) dL_areDays_279 (by decide) ?_
                refine ex_icmp_ne (tgt := 287) dL_areDays_280 (by decide) (fun c_280 => ?_) (fun c_280 => absurd c_280 (by decide))
                exfalso
                omega
              · have n_272 : a2 = 0 := (nI_eq (b := 0) (by omega) (by omega)).mp c_272
                refine ex_iconst (v := nI 1) dL_areDays_275 (by decide) ?_
                refine ex_goto (tgt := 280) dL_areDays_276 (by decide) ?_
                refine ex_icmp_ne (tgt := 287) dL_areDays_280 (by decide) (fun c_280 => absurd (by decide) c_280) (fun c_280 => ?_)
                refine ex_iconst (v := nI 1) dL_areDays_283 (by decide) ?_
                refine ex_goto (tgt := 288) dL_areDays_284 (by decide) ?_
                exact ex_zret hQ rfl (by decide) ⟨rfl, rfl, S⟩ dL_areDays_288
        · have n_160 : ¬ (k < (e + 1)) := fun q9 => c_160 ((nI_ltI (by omega) (by omega)).mpr q9)
          refine ex_iconst (v := nI 1) dL_areDays_163 (by decide) ?_
          refine ex_goto (tgt := 168) dL_areDays_164 (by decide) ?_
          refine ex_icmp_eq (tgt := 173) dL_areDays_168 (by decide) (fun c_168 => absurd c_168 (by decide)) (fun c_168 => ?_)
          exfalso
          omega
      · have n_144 : ¬ (P ≤ 0) := fun q9 => c_144 ((nI_leI (b := 0) (by omega) (by omega)).mpr q9)
        refine ex_iconst (v := nI 1) dL_areDays_147 (by decide) ?_
        refine ex_goto (tgt := 152) dL_areDays_148 (by decide) ?_
        refine ex_iload 4 dL_areDays_152 rfl ?_
        refine ex_if_le (tgt := 167) dL_areDays_154 (by decide) (fun c_154 => absurd c_154 (fun q9 => absurd ((nI_leI (b := 0) (by omega) (by omega)).mp q9) (by omega))) (fun c_154 => ?_)
        refine ex_iload 4 dL_areDays_157 rfl ?_
        refine ex_iload_n 12 dL_areDays_159 rfl rfl ?_
        refine ex_icmp_gt (tgt := 167) dL_areDays_160 (by decide) (fun c_160 => ?_) (fun c_160 => ?_)
        · have n_160 : k < (e + 1) := (nI_ltI (by omega) (by omega)).mp c_160
          refine ex_iconst (v := nI 0) dL_areDays_167 (by decide) ?_
          refine ex_icmp_eq (tgt := 173) dL_areDays_168 (by decide) (fun c_168 => absurd c_168 (by decide)) (fun c_168 => ?_)
          exfalso
          omega
        · have n_160 : ¬ (k < (e + 1)) := fun q9 => c_160 ((nI_ltI (by omega) (by omega)).mpr q9)
          refine ex_iconst (v := nI 1) dL_areDays_163 (by decide) ?_
          refine ex_goto (tgt := 168) dL_areDays_164 (by decide) ?_
          refine ex_icmp_eq (tgt := 173) dL_areDays_168 (by decide) (fun c_168 => ?_) (fun c_168 => absurd (by decide) c_168)
          refine ex_aload_n 11 dL_areDays_173 rfl rfl ?_
          refine ex_iload_n 12 dL_areDays_174 rfl rfl ?_
          refine ex_ch (As := [.int (nI k)]) (v := nI P) (x2 := (B, (recX ((n, g, t, u, q), R) A0).2)) vl_L_18 rfl S (c_pass S wf ok1.m3) (hps) rfl (by decide) (Nat.le_of_ble_eq_true rfl) (Nat.le_refl _) (Nat.le_refl _) rfl dL_areDays_175 (fun h S => ?_)
          refine ex_iload_n 10 dL_areDays_178 rfl rfl ?_
          refine ex_icmp_ne (tgt := 231) dL_areDays_179 (by decide) (fun c_179 => absurd (rfl) c_179) (fun c_179 => ?_)
          refine ex_aload_n 11 dL_areDays_182 rfl rfl ?_
          refine ex_bipush (v := nI 13) dL_areDays_183 (by decide) ?_
          refine ex_cnt (k := 13) (v := B.2.2.2.1 12) vl_L_8 S wfB (by decide) rfl (by decide) (Nat.le_of_ble_eq_true rfl) (Nat.le_refl _) (Nat.le_refl _) dL_areDays_185 (fun h S => ?_)
          refine ex_iload 2 dL_areDays_188 rfl ?_
          refine ex_iload_n 9 dL_areDays_190 rfl rfl ?_
          refine ex_iadd dL_areDays_191 ?_
          refine ex_icmp_ne (tgt := 231) dL_areDays_192 (by decide) (fun c_192 => absurd (rg8) c_192) (fun c_192 => ?_)
          refine ex_aload_n 11 dL_areDays_195 rfl rfl ?_
          refine ex_bipush (v := nI 16) dL_areDays_196 (by decide) ?_
          refine ex_cnt (k := 16) (v := B.2.2.2.1 15) vl_L_8 S wfB (by decide) rfl (by decide) (Nat.le_of_ble_eq_true rfl) (Nat.le_refl _) (Nat.le_refl _) dL_areDays_198 (fun h S => ?_)
          refine ex_iload 1 dL_areDays_201 rfl ?_
          refine ex_iload 8 dL_areDays_203 rfl ?_
          refine ex_iadd dL_areDays_205 ?_
          refine ex_icmp_ne (tgt := 231) dL_areDays_206 (by decide) (fun c_206 => absurd (rg8) c_206) (fun c_206 => ?_)
          refine ex_aload_n 11 dL_areDays_209 rfl rfl ?_
          refine ex_bipush (v := nI 8) dL_areDays_210 (by decide) ?_
          refine ex_cnt (k := 8) (v := B.2.2.2.1 8) vl_L_8 S wfB (by decide) rfl (by decide) (Nat.le_of_ble_eq_true rfl) (Nat.le_refl _) (Nat.le_refl _) dL_areDays_212 (fun h S => ?_)
          refine ex_iload 7 dL_areDays_215 rfl ?_
          refine ex_icmp_ne (tgt := 231) dL_areDays_217 (by decide) (fun c_217 => absurd (rfl) c_217) (fun c_217 => ?_)
          refine ex_aload_n 11 dL_areDays_220 rfl rfl ?_
          refine ex_bipush (v := nI 9) dL_areDays_221 (by decide) ?_
          refine ex_cnt (k := 9) (v := gv B.2.1) vl_L_8 S wfB (by decide) rfl (by decide) (Nat.le_of_ble_eq_true rfl) (Nat.le_refl _) (Nat.le_refl _) dL_areDays_223 (fun h S => ?_)
          refine ex_iload 6 dL_areDays_226 rfl ?_
          refine ex_icmp_eq (tgt := 233) dL_areDays_228 (by decide) (fun c_228 => ?_) (fun c_228 => absurd (rfl) c_228)
          refine ex_iload_n 10 dL_areDays_233 rfl rfl ?_
          refine ex_if_eq (tgt := 250) dL_areDays_234 (by decide) (fun c_234 => ?_) (fun c_234 => ?_)
          · have n_234 : P = 0 := (nI_eq (b := 0) (by omega) (by omega)).mp c_234
            refine ex_iload 3 dL_areDays_250 rfl ?_
            refine ex_if_lt (tgt := 265) dL_areDays_252 (by decide) (fun c_252 => absurd c_252 (nI_pos (by omega))) (fun c_252 => ?_)
            refine ex_iload 3 dL_areDays_255 rfl ?_
            refine ex_iload_n 12 dL_areDays_257 rfl rfl ?_
            refine ex_icmp_gt (tgt := 265) dL_areDays_258 (by decide) (fun c_258 => ?_) (fun c_258 => ?_)
            · have n_258 : k < m := (nI_ltI (by omega) (by omega)).mp c_258
              refine ex_iconst (v := nI 0) dL_areDays_265 (by decide) ?_
              refine ex_aload_n 11 dL_areDays_266 rfl rfl ?_
              refine ex_bipush (v := nI 11) dL_areDays_267 (by decide) ?_
              refine ex_cnt (k := 11) (v := B.2.2.2.1 11) vl_L_8 S wfB (by decide) rfl (by decide) (Nat.le_of_ble_eq_true rfl) (Nat.le_refl _) (Nat.le_refl _) dL_areDays_269 (fun h S => ?_)
              refine ex_topi (y := nI a2) (ha2) ?_
              refine ex_if_ne (tgt := 279) dL_areDays_272 (by decide) (fun c_272 => ?_) (fun c_272 => ?_)
              · have n_272 : ¬ (a2 = 0) := fun q9 => c_272 ((nI_eq (b := 0) (by omega) (by omega)).mpr q9)
                refine ex_iconst (v := nI 0) dL_areDays_279 (by decide) ?_
                refine ex_icmp_ne (tgt := 287) dL_areDays_280 (by decide) (fun c_280 => absurd (by decide) c_280) (fun c_280 => ?_)
                refine ex_iconst (v := nI 1) dL_areDays_283 (by decide) ?_
                refine ex_goto (tgt := 288) dL_areDays_284 (by decide) ?_
                exact ex_zret hQ rfl (by decide) ⟨rfl, rfl, S⟩ dL_areDays_288
              · have n_272 : a2 = 0 := (nI_eq (b := 0) (by omega) (by omega)).mp c_272
                refine ex_iconst (v := nI 1) dL_areDays_275 (by decide) ?_
                refine ex_goto (tgt := 280) dL_areDays_276 (by decide) ?_
                refine ex_icmp_ne (tgt := 287) dL_areDays_280 (by decide) (fun c_280 => ?_) (fun c_280 => absurd c_280 (by decide))
                exfalso
                omega
            · have n_258 : ¬ (k < m) := fun q9 => c_258 ((nI_ltI (by omega) (by omega)).mpr q9)
              refine ex_iconst (v := nI 1) dL_areDays_261 (by decide) ?_
              refine ex_goto (tgt := 266) dL_areDays_262 (by decide) ?_
              refine ex_aload_n 11 dL_areDays_266 rfl rfl ?_
              refine ex_bipush (v := nI 11) dL_areDays_267 (by decide) ?_
              refine ex_cnt (k := 11) (v := B.2.2.2.1 11) vl_L_8 S wfB (by decide) rfl (by decide) (Nat.le_of_ble_eq_true rfl) (Nat.le_refl _) (Nat.le_refl _) dL_areDays_269 (fun h S => ?_)
              refine ex_topi (y := nI a2) (ha2) ?_
              refine ex_if_ne (tgt := 279) dL_areDays_272 (by decide) (fun c_272 => ?_) (fun c_272 => ?_)
              · have n_272 : ¬ (a2 = 0) := fun q9 => c_272 ((nI_eq (b := 0) (by omega) (by omega)).mpr q9)
                refine ex_iconst (v := nI 0) dL_areDays_279 (by decide) ?_
                refine ex_icmp_ne (tgt := 287) dL_areDays_280 (by decide) (fun c_280 => ?_) (fun c_280 => absurd c_280 (by decide))
                exfalso
                omega
              · have n_272 : a2 = 0 := (nI_eq (b := 0) (by omega) (by omega)).mp c_272
                refine ex_iconst (v := nI 1) dL_areDays_275 (by decide) ?_
                refine ex_goto (tgt := 280) dL_areDays_276 (by decide) ?_
                refine ex_icmp_ne (tgt := 287) dL_areDays_280 (by decide) (fun c_280 => absurd (by decide) c_280) (fun c_280 => ?_)
                refine ex_iconst (v := nI 1) dL_areDays_283 (by decide) ?_
                refine ex_goto (tgt := 288) dL_areDays_284 (by decide) ?_
                exact ex_zret hQ rfl (by decide) ⟨rfl, rfl, S⟩ dL_areDays_288
          · have n_234 : ¬ (P = 0) := fun q9 => c_234 ((nI_eq (b := 0) (by omega) (by omega)).mpr q9)
            refine ex_aload_n 11 dL_areDays_237 rfl rfl ?_
            refine ex_iload 5 dL_areDays_238 rfl ?_
            refine ex_bipush (v := nI 6) dL_areDays_240 (by decide) ?_
            refine ex_per (j := j) (k := 6) (v := B.2.2.2.2 j 4) vl_L_14 S wfB hjB (by decide) rfl (by decide) (Nat.le_of_ble_eq_true rfl) (Nat.le_refl _) (Nat.le_refl _) dL_areDays_242 (fun h S => ?_)
            refine ex_iload 0 dL_areDays_245 rfl ?_
            refine ex_icmp_le (tgt := 287) dL_areDays_247 (by decide) (fun c_247 => absurd c_247 (hpu (by omega))) (fun c_247 => ?_)
            refine ex_iload 3 dL_areDays_250 rfl ?_
            refine ex_if_lt (tgt := 265) dL_areDays_252 (by decide) (fun c_252 => absurd c_252 (nI_pos (by omega))) (fun c_252 => ?_)
            refine ex_iload 3 dL_areDays_255 rfl ?_
            refine ex_iload_n 12 dL_areDays_257 rfl rfl ?_
            refine ex_icmp_gt (tgt := 265) dL_areDays_258 (by decide) (fun c_258 => ?_) (fun c_258 => ?_)
            · have n_258 : k < m := (nI_ltI (by omega) (by omega)).mp c_258
              refine ex_iconst (v := nI 0) dL_areDays_265 (by decide) ?_
              refine ex_aload_n 11 dL_areDays_266 rfl rfl ?_
              refine ex_bipush (v := nI 11) dL_areDays_267 (by decide) ?_
              refine ex_cnt (k := 11) (v := B.2.2.2.1 11) vl_L_8 S wfB (by decide) rfl (by decide) (Nat.le_of_ble_eq_true rfl) (Nat.le_refl _) (Nat.le_refl _) dL_areDays_269 (fun h S => ?_)
              refine ex_topi (y := nI a2) (ha2) ?_
              refine ex_if_ne (tgt := 279) dL_areDays_272 (by decide) (fun c_272 => ?_) (fun c_272 => ?_)
              · have n_272 : ¬ (a2 = 0) := fun q9 => c_272 ((nI_eq (b := 0) (by omega) (by omega)).mpr q9)
                refine ex_iconst (v := nI 0) dL_areDays_279 (by decide) ?_
                refine ex_icmp_ne (tgt := 287) dL_areDays_280 (by decide) (fun c_280 => absurd (by decide) c_280) (fun c_280 => ?_)
                refine ex_iconst (v := nI 1) dL_areDays_283 (by decide) ?_
                refine ex_goto (tgt := 288) dL_areDays_284 (by decide) ?_
                exact ex_zret hQ rfl (by decide) ⟨rfl, rfl, S⟩ dL_areDays_288
              · have n_272 : a2 = 0 := (nI_eq (b := 0) (by omega) (by omega)).mp c_272
                refine ex_iconst (v := nI 1) dL_areDays_275 (by decide) ?_
                refine ex_goto (tgt := 280) dL_areDays_276 (by decide) ?_
                refine ex_icmp_ne (tgt := 287) dL_areDays_280 (by decide) (fun c_280 => ?_) (fun c_280 => absurd c_280 (by decide))
                exfalso
                omega
            · have n_258 : ¬ (k < m) := fun q9 => c_258 ((nI_ltI (by omega) (by omega)).mpr q9)
              refine ex_iconst (v := nI 1) dL_areDays_261 (by decide) ?_
              refine ex_goto (tgt := 266) dL_areDays_262 (by decide) ?_
              refine ex_aload_n 11 dL_areDays_266 rfl rfl ?_
              refine ex_bipush (v := nI 11) dL_areDays_267 (by decide) ?_
              refine ex_cnt (k := 11) (v := B.2.2.2.1 11) vl_L_8 S wfB (by decide) rfl (by decide) (Nat.le_of_ble_eq_true rfl) (Nat.le_refl _) (Nat.le_refl _) dL_areDays_269 (fun h S => ?_)
              refine ex_topi (y := nI a2) (ha2) ?_
              refine ex_if_ne (tgt := 279) dL_areDays_272 (by decide) (fun c_272 => ?_) (fun c_272 => ?_)
              · have n_272 : ¬ (a2 = 0) := fun q9 => c_272 ((nI_eq (b := 0) (by omega) (by omega)).mpr q9)
                refine ex_iconst (v := nI 0) dL_areDays_279 (by decide) ?_
                refine ex_icmp_ne (tgt := 287) dL_areDays_280 (by decide) (fun c_280 => ?_) (fun c_280 => absurd c_280 (by decide))
                exfalso
                omega
              · have n_272 : a2 = 0 := (nI_eq (b := 0) (by omega) (by omega)).mp c_272
                refine ex_iconst (v := nI 1) dL_areDays_275 (by decide) ?_
                refine ex_goto (tgt := 280) dL_areDays_276 (by decide) ?_
                refine ex_icmp_ne (tgt := 287) dL_areDays_280 (by decide) (fun c_280 => absurd (by decide) c_280) (fun c_280 => ?_)
                refine ex_iconst (v := nI 1) dL_areDays_283 (by decide) ?_
                refine ex_goto (tgt := 288) dL_areDays_284 (by decide) ?_
                exact ex_zret hQ rfl (by decide) ⟨rfl, rfl, S⟩ dL_areDays_288
    · have n_132 : a = 0 := (nI_eq (b := 0) (by omega) (by omega)).mp c_132
      refine ex_iconst (v := nI 1) dL_areDays_135 (by decide) ?_
      refine ex_goto (tgt := 140) dL_areDays_136 (by decide) ?_
      refine ex_icmp_ne (tgt := 171) dL_areDays_140 (by decide) (fun c_140 => ?_) (fun c_140 => absurd c_140 (by decide))
      exfalso
      omega
  · have n_118 : m = 0 := (nI_eq (b := 0) (by omega) (by omega)).mp c_118
    refine ex_iconst (v := nI 1) dL_areDays_121 (by decide) ?_
    refine ex_goto (tgt := 126) dL_areDays_122 (by decide) ?_
    refine ex_aload_n 11 dL_areDays_126 rfl rfl ?_
    refine ex_bipush (v := nI 11) dL_areDays_127 (by decide) ?_
    refine ex_cnt (k := 11) (v := u 11) vl_L_8 S wf (by decide) rfl (by decide) (Nat.le_of_ble_eq_true rfl) (Nat.le_refl _) (Nat.le_refl _) dL_areDays_129 (fun h S => ?_)
    refine ex_topi (y := nI a) (ha) ?_
    refine ex_if_ne (tgt := 139) dL_areDays_132 (by decide) (fun c_132 => ?_) (fun c_132 => ?_)
    · have n_132 : ¬ (a = 0) := fun q9 => c_132 ((nI_eq (b := 0) (by omega) (by omega)).mpr q9)
      refine ex_iconst (v := nI 0) dL_areDays_139 (by decide) ?_
      refine ex_icmp_ne (tgt := 171) dL_areDays_140 (by decide) (fun c_140 => ?_) (fun c_140 => absurd c_140 (by decide))
      exfalso
      omega
    · have n_132 : a = 0 := (nI_eq (b := 0) (by omega) (by omega)).mp c_132
      refine ex_iconst (v := nI 1) dL_areDays_135 (by decide) ?_
      refine ex_goto (tgt := 140) dL_areDays_136 (by decide) ?_
      refine ex_icmp_ne (tgt := 171) dL_areDays_140 (by decide) (fun c_140 => absurd (by decide) c_140) (fun c_140 => ?_)
      refine ex_iload_n 10 dL_areDays_143 rfl rfl ?_
      refine ex_if_le (tgt := 151) dL_areDays_144 (by decide) (fun c_144 => ?_) (fun c_144 => ?_)
      · have n_144 : P ≤ 0 := (nI_leI (b := 0) (by omega) (by omega)).mp c_144
        refine ex_iconst (v := nI 0) dL_areDays_151 (by decide) ?_
        refine ex_iload 4 dL_areDays_152 rfl ?_
        refine ex_if_le (tgt := 167) dL_areDays_154 (by decide) (fun c_154 => absurd c_154 (fun q9 => absurd ((nI_leI (b := 0) (by omega) (by omega)).mp q9) (by omega))) (fun c_154 => ?_)
        refine ex_iload 4 dL_areDays_157 rfl ?_
        refine ex_iload_n 12 dL_areDays_159 rfl rfl ?_
        refine ex_icmp_gt (tgt := 167) dL_areDays_160 (by decide) (fun c_160 => ?_) (fun c_160 => ?_)
        · have n_160 : k < (e + 1) := (nI_ltI (by omega) (by omega)).mp c_160
          refine ex_iconst (v := nI 0) dL_areDays_167 (by decide) ?_
          refine ex_icmp_eq (tgt := 173) dL_areDays_168 (by decide) (fun c_168 => ?_) (fun c_168 => absurd (by decide) c_168)
          refine ex_aload_n 11 dL_areDays_173 rfl rfl ?_
          refine ex_iload_n 12 dL_areDays_174 rfl rfl ?_
          refine ex_ch (As := [.int (nI k)]) (v := nI P) (x2 := (B, (recX ((n, g, t, u, q), R) A0).2)) vl_L_18 rfl S (c_pass S wf ok1.m3) (hps) rfl (by decide) (Nat.le_of_ble_eq_true rfl) (Nat.le_refl _) (Nat.le_refl _) rfl dL_areDays_175 (fun h S => ?_)
          refine ex_iload_n 10 dL_areDays_178 rfl rfl ?_
          refine ex_icmp_ne (tgt := 231) dL_areDays_179 (by decide) (fun c_179 => absurd (rfl) c_179) (fun c_179 => ?_)
          refine ex_aload_n 11 dL_areDays_182 rfl rfl ?_
          refine ex_bipush (v := nI 13) dL_areDays_183 (by decide) ?_
          refine ex_cnt (k := 13) (v := B.2.2.2.1 12) vl_L_8 S wfB (by decide) rfl (by decide) (Nat.le_of_ble_eq_true rfl) (Nat.le_refl _) (Nat.le_refl _) dL_areDays_185 (fun h S => ?_)
          refine ex_iload 2 dL_areDays_188 rfl ?_
          refine ex_iload_n 9 dL_areDays_190 rfl rfl ?_
          refine ex_iadd dL_areDays_191 ?_
          refine ex_icmp_ne (tgt := 231) dL_areDays_192 (by decide) (fun c_192 => absurd (rg8) c_192) (fun c_192 => ?_)
          refine ex_aload_n 11 dL_areDays_195 rfl rfl ?_
          refine ex_bipush (v := nI 16) dL_areDays_196 (by decide) ?_
          refine ex_cnt (k := 16) (v := B.2.2.2.1 15) vl_L_8 S wfB (by decide) rfl (by decide) (Nat.le_of_ble_eq_true rfl) (Nat.le_refl _) (Nat.le_refl _) dL_areDays_198 (fun h S => ?_)
          refine ex_iload 1 dL_areDays_201 rfl ?_
          refine ex_iload 8 dL_areDays_203 rfl ?_
          refine ex_iadd dL_areDays_205 ?_
          refine ex_icmp_ne (tgt := 231) dL_areDays_206 (by decide) (fun c_206 => absurd (rg8) c_206) (fun c_206 => ?_)
          refine ex_aload_n 11 dL_areDays_209 rfl rfl ?_
          refine ex_bipush (v := nI 8) dL_areDays_210 (by decide) ?_
          refine ex_cnt (k := 8) (v := B.2.2.2.1 8) vl_L_8 S wfB (by decide) rfl (by decide) (Nat.le_of_ble_eq_true rfl) (Nat.le_refl _) (Nat.le_refl _) dL_areDays_212 (fun h S => ?_)
          refine ex_iload 7 dL_areDays_215 rfl ?_
          refine ex_icmp_ne (tgt := 231) dL_areDays_217 (by decide) (fun c_217 => absurd (rfl) c_217) (fun c_217 => ?_)
          refine ex_aload_n 11 dL_areDays_220 rfl rfl ?_
          refine ex_bipush (v := nI 9) dL_areDays_221 (by decide) ?_
          refine ex_cnt (k := 9) (v := gv B.2.1) vl_L_8 S wfB (by decide) rfl (by decide) (Nat.le_of_ble_eq_true rfl) (Nat.le_refl _) (Nat.le_refl _) dL_areDays_223 (fun h S => ?_)
          refine ex_iload 6 dL_areDays_226 rfl ?_
          refine ex_icmp_eq (tgt := 233) dL_areDays_228 (by decide) (fun c_228 => ?_) (fun c_228 => absurd (rfl) c_228)
          refine ex_iload_n 10 dL_areDays_233 rfl rfl ?_
          refine ex_if_eq (tgt := 250) dL_areDays_234 (by decide) (fun c_234 => ?_) (fun c_234 => ?_)
          · have n_234 : P = 0 := (nI_eq (b := 0) (by omega) (by omega)).mp c_234
            refine ex_iload 3 dL_areDays_250 rfl ?_
            refine ex_if_lt (tgt := 265) dL_areDays_252 (by decide) (fun c_252 => absurd c_252 (nI_pos (by omega))) (fun c_252 => ?_)
            refine ex_iload 3 dL_areDays_255 rfl ?_
            refine ex_iload_n 12 dL_areDays_257 rfl rfl ?_
            refine ex_icmp_gt (tgt := 265) dL_areDays_258 (by decide) (fun c_258 => ?_) (fun c_258 => ?_)
            · have n_258 : k < m := (nI_ltI (by omega) (by omega)).mp c_258
              refine ex_iconst (v := nI 0) dL_areDays_265 (by decide) ?_
              refine ex_aload_n 11 dL_areDays_266 rfl rfl ?_
              refine ex_bipush (v := nI 11) dL_areDays_267 (by decide) ?_
              refine ex_cnt (k := 11) (v := B.2.2.2.1 11) vl_L_8 S wfB (by decide) rfl (by decide) (Nat.le_of_ble_eq_true rfl) (Nat.le_refl _) (Nat.le_refl _) dL_areDays_269 (fun h S => ?_)
              refine ex_topi (y := nI a2) (ha2) ?_
              refine ex_if_ne (tgt := 279) dL_areDays_272 (by decide) (fun c_272 => ?_) (fun c_272 => ?_)
              · have n_272 : ¬ (a2 = 0) := fun q9 => c_272 ((nI_eq (b := 0) (by omega) (by omega)).mpr q9)
                refine ex_iconst (v := nI 0) dL_areDays_279 (by decide) ?_
                refine ex_icmp_ne (tgt := 287) dL_areDays_280 (by decide) (fun c_280 => absurd (by decide) c_280) (fun c_280 => ?_)
                refine ex_iconst (v := nI 1) dL_areDays_283 (by decide) ?_
                refine ex_goto (tgt := 288) dL_areDays_284 (by decide) ?_
                exact ex_zret hQ rfl (by decide) ⟨rfl, rfl, S⟩ dL_areDays_288
              · have n_272 : a2 = 0 := (nI_eq (b := 0) (by omega) (by omega)).mp c_272
                refine ex_iconst (v := nI 1) dL_areDays_275 (by decide) ?_
                refine ex_goto (tgt := 280) dL_areDays_276 (by decide) ?_
                refine ex_icmp_ne (tgt := 287) dL_areDays_280 (by decide) (fun c_280 => ?_) (fun c_280 => absurd c_280 (by decide))
                exfalso
                omega
            · have n_258 : ¬ (k < m) := fun q9 => c_258 ((nI_ltI (by omega) (by omega)).mpr q9)
              refine ex_iconst (v := nI 1) dL_areDays_261 (by decide) ?_
              refine ex_goto (tgt := 266) dL_areDays_262 (by decide) ?_
              refine ex_aload_n 11 dL_areDays_266 rfl rfl ?_
              refine ex_bipush (v := nI 11) dL_areDays_267 (by decide) ?_
              refine ex_cnt (k := 11) (v := B.2.2.2.1 11) vl_L_8 S wfB (by decide) rfl (by decide) (Nat.le_of_ble_eq_true rfl) (Nat.le_refl _) (Nat.le_refl _) dL_areDays_269 (fun h S => ?_)
              refine ex_topi (y := nI a2) (ha2) ?_
              refine ex_if_ne (tgt := 279) dL_areDays_272 (by decide) (fun c_272 => ?_) (fun c_272 => ?_)
              · have n_272 : ¬ (a2 = 0) := fun q9 => c_272 ((nI_eq (b := 0) (by omega) (by omega)).mpr q9)
                refine ex_iconst (v := nI 0) dL_areDays_279 (by decide) ?_
                refine ex_icmp_ne (tgt := 287) dL_areDays_280 (by decide) (fun c_280 => ?_) (fun c_280 => absurd c_280 (by decide))
                exfalso
                omega
              · have n_272 : a2 = 0 := (nI_eq (b := 0) (by omega) (by omega)).mp c_272
                refine ex_iconst (v := nI 1) dL_areDays_275 (by decide) ?_
                refine ex_goto (tgt := 280) dL_areDays_276 (by decide) ?_
                refine ex_icmp_ne (tgt := 287) dL_areDays_280 (by decide) (fun c_280 => absurd (by decide) c_280) (fun c_280 => ?_)
                refine ex_iconst (v := nI 1) dL_areDays_283 (by decide) ?_
                refine ex_goto (tgt := 288) dL_areDays_284 (by decide) ?_
                exact ex_zret hQ rfl (by decide) ⟨rfl, rfl, S⟩ dL_areDays_288
          · have n_234 : ¬ (P = 0) := fun q9 => c_234 ((nI_eq (b := 0) (by omega) (by omega)).mpr q9)
            refine ex_aload_n 11 dL_areDays_237 rfl rfl ?_
            refine ex_iload 5 dL_areDays_238 rfl ?_
            refine ex_bipush (v := nI 6) dL_areDays_240 (by decide) ?_
            refine ex_per (j := j) (k := 6) (v := B.2.2.2.2 j 4) vl_L_14 S wfB hjB (by decide) rfl (by decide) (Nat.le_of_ble_eq_true rfl) (Nat.le_refl _) (Nat.le_refl _) dL_areDays_242 (fun h S => ?_)
            refine ex_iload 0 dL_areDays_245 rfl ?_
            refine ex_icmp_le (tgt := 287) dL_areDays_247 (by decide) (fun c_247 => absurd c_247 (hpu (by omega))) (fun c_247 => ?_)
            refine ex_iload 3 dL_areDays_250 rfl ?_
            refine ex_if_lt (tgt := 265) dL_areDays_252 (by decide) (fun c_252 => absurd c_252 (nI_pos (by omega))) (fun c_252 => ?_)
            refine ex_iload 3 dL_areDays_255 rfl ?_
            refine ex_iload_n 12 dL_areDays_257 rfl rfl ?_
            refine ex_icmp_gt (tgt := 265) dL_areDays_258 (by decide) (fun c_258 => ?_) (fun c_258 => ?_)
            · have n_258 : k < m := (nI_ltI (by omega) (by omega)).mp c_258
              refine ex_iconst (v := nI 0) dL_areDays_265 (by decide) ?_
              refine ex_aload_n 11 dL_areDays_266 rfl rfl ?_
              refine ex_bipush (v := nI 11) dL_areDays_267 (by decide) ?_
              refine ex_cnt (k := 11) (v := B.2.2.2.1 11) vl_L_8 S wfB (by decide) rfl (by decide) (Nat.le_of_ble_eq_true rfl) (Nat.le_refl _) (Nat.le_refl _) dL_areDays_269 (fun h S => ?_)
              refine ex_topi (y := nI a2) (ha2) ?_
              refine ex_if_ne (tgt := 279) dL_areDays_272 (by decide) (fun c_272 => ?_) (fun c_272 => ?_)
              · have n_272 : ¬ (a2 = 0) := fun q9 => c_272 ((nI_eq (b := 0) (by omega) (by omega)).mpr q9)
                refine ex_iconst (v := nI 0) dL_areDays_279 (by decide) ?_
                refine ex_icmp_ne (tgt := 287) dL_areDays_280 (by decide) (fun c_280 => absurd (by decide) c_280) (fun c_280 => ?_)
                refine ex_iconst (v := nI 1) dL_areDays_283 (by decide) ?_
                refine ex_goto (tgt := 288) dL_areDays_284 (by decide) ?_
                exact ex_zret hQ rfl (by decide) ⟨rfl, rfl, S⟩ dL_areDays_288
              · have n_272 : a2 = 0 := (nI_eq (b := 0) (by omega) (by omega)).mp c_272
                refine ex_iconst (v := nI 1) dL_areDays_275 (by decide) ?_
                refine ex_goto (tgt := 280) dL_areDays_276 (by decide) ?_
                refine ex_icmp_ne (tgt := 287) dL_areDays_280 (by decide) (fun c_280 => ?_) (fun c_280 => absurd c_280 (by decide))
                exfalso
                omega
            · have n_258 : ¬ (k < m) := fun q9 => c_258 ((nI_ltI (by omega) (by omega)).mpr q9)
              refine ex_iconst (v := nI 1) dL_areDays_261 (by decide) ?_
              refine ex_goto (tgt := 266) dL_areDays_262 (by decide) ?_
              refine ex_aload_n 11 dL_areDays_266 rfl rfl ?_
              refine ex_bipush (v := nI 11) dL_areDays_267 (by decide) ?_
              refine ex_cnt (k := 11) (v := B.2.2.2.1 11) vl_L_8 S wfB (by decide) rfl (by decide) (Nat.le_of_ble_eq_true rfl) (Nat.le_refl _) (Nat.le_refl _) dL_areDays_269 (fun h S => ?_)
              refine ex_topi (y := nI a2) (ha2) ?_
              refine ex_if_ne (tgt := 279) dL_areDays_272 (by decide) (fun c_272 => ?_) (fun c_272 => ?_)
              · have n_272 : ¬ (a2 = 0) := fun q9 => c_272 ((nI_eq (b := 0) (by omega) (by omega)).mpr q9)
                refine ex_iconst (v := nI 0) dL_areDays_279 (by decide) ?_
                refine ex_icmp_ne (tgt := 287) dL_areDays_280 (by decide) (fun c_280 => ?_) (fun c_280 => absurd c_280 (by decide))
                exfalso
                omega
              · have n_272 : a2 = 0 := (nI_eq (b := 0) (by omega) (by omega)).mp c_272
                refine ex_iconst (v := nI 1) dL_areDays_275 (by decide) ?_
                refine ex_goto (tgt := 280) dL_areDays_276 (by decide) ?_
                refine ex_icmp_ne (tgt := 287) dL_areDays_280 (by decide) (fun c_280 => absurd (by decide) c_280) (fun c_280 => ?_)
                refine ex_iconst (v := nI 1) dL_areDays_283 (by decide) ?_
                refine ex_goto (tgt := 288) dL_areDays_284 (by decide) ?_
                exact ex_zret hQ rfl (by decide) ⟨rfl, rfl, S⟩ dL_areDays_288
        · have n_160 : ¬ (k < (e + 1)) := fun q9 => c_160 ((nI_ltI (by omega) (by omega)).mpr q9)
          refine ex_iconst (v := nI 1) dL_areDays_163 (by decide) ?_
          refine ex_goto (tgt := 168) dL_areDays_164 (by decide) ?_
          refine ex_icmp_eq (tgt := 173) dL_areDays_168 (by decide) (fun c_168 => absurd c_168 (by decide)) (fun c_168 => ?_)
          exfalso
          omega
      · have n_144 : ¬ (P ≤ 0) := fun q9 => c_144 ((nI_leI (b := 0) (by omega) (by omega)).mpr q9)
        refine ex_iconst (v := nI 1) dL_areDays_147 (by decide) ?_
        refine ex_goto (tgt := 152) dL_areDays_148 (by decide) ?_
        refine ex_iload 4 dL_areDays_152 rfl ?_
        refine ex_if_le (tgt := 167) dL_areDays_154 (by decide) (fun c_154 => absurd c_154 (fun q9 => absurd ((nI_leI (b := 0) (by omega) (by omega)).mp q9) (by omega))) (fun c_154 => ?_)
        refine ex_iload 4 dL_areDays_157 rfl ?_
        refine ex_iload_n 12 dL_areDays_159 rfl rfl ?_
        refine ex_icmp_gt (tgt := 167) dL_areDays_160 (by decide) (fun c_160 => ?_) (fun c_160 => ?_)
        · have n_160 : k < (e + 1) := (nI_ltI (by omega) (by omega)).mp c_160
          refine ex_iconst (v := nI 0) dL_areDays_167 (by decide) ?_
          refine ex_icmp_eq (tgt := 173) dL_areDays_168 (by decide) (fun c_168 => absurd c_168 (by decide)) (fun c_168 => ?_)
          exfalso
          omega
        · have n_160 : ¬ (k < (e + 1)) := fun q9 => c_160 ((nI_ltI (by omega) (by omega)).mpr q9)
          refine ex_iconst (v := nI 1) dL_areDays_163 (by decide) ?_
          refine ex_goto (tgt := 168) dL_areDays_164 (by decide) ?_
          refine ex_icmp_eq (tgt := 173) dL_areDays_168 (by decide) (fun c_168 => ?_) (fun c_168 => absurd (by decide) c_168)
          refine ex_aload_n 11 dL_areDays_173 rfl rfl ?_
          refine ex_iload_n 12 dL_areDays_174 rfl rfl ?_
          refine ex_ch (As := [.int (nI k)]) (v := nI P) (x2 := (B, (recX ((n, g, t, u, q), R) A0).2)) vl_L_18 rfl S (c_pass S wf ok1.m3) (hps) rfl (by decide) (Nat.le_of_ble_eq_true rfl) (Nat.le_refl _) (Nat.le_refl _) rfl dL_areDays_175 (fun h S => ?_)
          refine ex_iload_n 10 dL_areDays_178 rfl rfl ?_
          refine ex_icmp_ne (tgt := 231) dL_areDays_179 (by decide) (fun c_179 => absurd (rfl) c_179) (fun c_179 => ?_)
          refine ex_aload_n 11 dL_areDays_182 rfl rfl ?_
          refine ex_bipush (v := nI 13) dL_areDays_183 (by decide) ?_
          refine ex_cnt (k := 13) (v := B.2.2.2.1 12) vl_L_8 S wfB (by decide) rfl (by decide) (Nat.le_of_ble_eq_true rfl) (Nat.le_refl _) (Nat.le_refl _) dL_areDays_185 (fun h S => ?_)
          refine ex_iload 2 dL_areDays_188 rfl ?_
          refine ex_iload_n 9 dL_areDays_190 rfl rfl ?_
          refine ex_iadd dL_areDays_191 ?_
          refine ex_icmp_ne (tgt := 231) dL_areDays_192 (by decide) (fun c_192 => absurd (rg8) c_192) (fun c_192 => ?_)
          refine ex_aload_n 11 dL_areDays_195 rfl rfl ?_
          refine ex_bipush (v := nI 16) dL_areDays_196 (by decide) ?_
          refine ex_cnt (k := 16) (v := B.2.2.2.1 15) vl_L_8 S wfB (by decide) rfl (by decide) (Nat.le_of_ble_eq_true rfl) (Nat.le_refl _) (Nat.le_refl _) dL_areDays_198 (fun h S => ?_)
          refine ex_iload 1 dL_areDays_201 rfl ?_
          refine ex_iload 8 dL_areDays_203 rfl ?_
          refine ex_iadd dL_areDays_205 ?_
          refine ex_icmp_ne (tgt := 231) dL_areDays_206 (by decide) (fun c_206 => absurd (rg8) c_206) (fun c_206 => ?_)
          refine ex_aload_n 11 dL_areDays_209 rfl rfl ?_
          refine ex_bipush (v := nI 8) dL_areDays_210 (by decide) ?_
          refine ex_cnt (k := 8) (v := B.2.2.2.1 8) vl_L_8 S wfB (by decide) rfl (by decide) (Nat.le_of_ble_eq_true rfl) (Nat.le_refl _) (Nat.le_refl _) dL_areDays_212 (fun h S => ?_)
          refine ex_iload 7 dL_areDays_215 rfl ?_
          refine ex_icmp_ne (tgt := 231) dL_areDays_217 (by decide) (fun c_217 => absurd (rfl) c_217) (fun c_217 => ?_)
          refine ex_aload_n 11 dL_areDays_220 rfl rfl ?_
          refine ex_bipush (v := nI 9) dL_areDays_221 (by decide) ?_
          refine ex_cnt (k := 9) (v := gv B.2.1) vl_L_8 S wfB (by decide) rfl (by decide) (Nat.le_of_ble_eq_true rfl) (Nat.le_refl _) (Nat.le_refl _) dL_areDays_223 (fun h S => ?_)
          refine ex_iload 6 dL_areDays_226 rfl ?_
          refine ex_icmp_eq (tgt := 233) dL_areDays_228 (by decide) (fun c_228 => ?_) (fun c_228 => absurd (rfl) c_228)
          refine ex_iload_n 10 dL_areDays_233 rfl rfl ?_
          refine ex_if_eq (tgt := 250) dL_areDays_234 (by decide) (fun c_234 => ?_) (fun c_234 => ?_)
          · have n_234 : P = 0 := (nI_eq (b := 0) (by omega) (by omega)).mp c_234
            refine ex_iload 3 dL_areDays_250 rfl ?_
            refine ex_if_lt (tgt := 265) dL_areDays_252 (by decide) (fun c_252 => absurd c_252 (nI_pos (by omega))) (fun c_252 => ?_)
            refine ex_iload 3 dL_areDays_255 rfl ?_
            refine ex_iload_n 12 dL_areDays_257 rfl rfl ?_
            refine ex_icmp_gt (tgt := 265) dL_areDays_258 (by decide) (fun c_258 => ?_) (fun c_258 => ?_)
            · have n_258 : k < m := (nI_ltI (by omega) (by omega)).mp c_258
              refine ex_iconst (v := nI 0) dL_areDays_265 (by decide) ?_
              refine ex_aload_n 11 dL_areDays_266 rfl rfl ?_
              refine ex_bipush (v := nI 11) dL_areDays_267 (by decide) ?_
              refine ex_cnt (k := 11) (v := B.2.2.2.1 11) vl_L_8 S wfB (by decide) rfl (by decide) (Nat.le_of_ble_eq_true rfl) (Nat.le_refl _) (Nat.le_refl _) dL_areDays_269 (fun h S => ?_)
              refine ex_topi (y := nI a2) (ha2) ?_
              refine ex_if_ne (tgt := 279) dL_areDays_272 (by decide) (fun c_272 => ?_) (fun c_272 => ?_)
              · have n_272 : ¬ (a2 = 0) := fun q9 => c_272 ((nI_eq (b := 0) (by omega) (by omega)).mpr q9)
                refine ex_iconst (v := nI 0) dL_areDays_279 (by decide) ?_
                refine ex_icmp_ne (tgt := 287) dL_areDays_280 (by decide) (fun c_280 => absurd (by decide) c_280) (fun c_280 => ?_)
                refine ex_iconst (v := nI 1) dL_areDays_283 (by decide) ?_
                refine ex_goto (tgt := 288) dL_areDays_284 (by decide) ?_
                exact ex_zret hQ rfl (by decide) ⟨rfl, rfl, S⟩ dL_areDays_288
              · have n_272 : a2 = 0 := (nI_eq (b := 0) (by omega) (by omega)).mp c_272
                refine ex_iconst (v := nI 1) dL_areDays_275 (by decide) ?_
                refine ex_goto (tgt := 280) dL_areDays_276 (by decide) ?_
                refine ex_icmp_ne (tgt := 287) dL_areDays_280 (by decide) (fun c_280 => ?_) (fun c_280 => absurd c_280 (by decide))
                exfalso
                omega
            · have n_258 : ¬ (k < m) := fun q9 => c_258 ((nI_ltI (by omega) (by omega)).mpr q9)
              refine ex_iconst (v := nI 1) dL_areDays_261 (by decide) ?_
              refine ex_goto (tgt := 266) dL_areDays_262 (by decide) ?_
              refine ex_aload_n 11 dL_areDays_266 rfl rfl ?_
              refine ex_bipush (v := nI 11) dL_areDays_267 (by decide) ?_
              refine ex_cnt (k := 11) (v := B.2.2.2.1 11) vl_L_8 S wfB (by decide) rfl (by decide) (Nat.le_of_ble_eq_true rfl) (Nat.le_refl _) (Nat.le_refl _) dL_areDays_269 (fun h S => ?_)
              refine ex_topi (y := nI a2) (ha2) ?_
              refine ex_if_ne (tgt := 279) dL_areDays_272 (by decide) (fun c_272 => ?_) (fun c_272 => ?_)
              · have n_272 : ¬ (a2 = 0) := fun q9 => c_272 ((nI_eq (b := 0) (by omega) (by omega)).mpr q9)
                refine ex_iconst (v := nI 0) dL_areDays_279 (by decide) ?_
                refine ex_icmp_ne (tgt := 287) dL_areDays_280 (by decide) (fun c_280 => ?_) (fun c_280 => absurd c_280 (by decide))
                exfalso
                omega
              · have n_272 : a2 = 0 := (nI_eq (b := 0) (by omega) (by omega)).mp c_272
                refine ex_iconst (v := nI 1) dL_areDays_275 (by decide) ?_
                refine ex_goto (tgt := 280) dL_areDays_276 (by decide) ?_
                refine ex_icmp_ne (tgt := 287) dL_areDays_280 (by decide) (fun c_280 => absurd (by decide) c_280) (fun c_280 => ?_)
                refine ex_iconst (v := nI 1) dL_areDays_283 (by decide) ?_
                refine ex_goto (tgt := 288) dL_areDays_284 (by decide) ?_
                exact ex_zret hQ rfl (by decide) ⟨rfl, rfl, S⟩ dL_areDays_288
          · have n_234 : ¬ (P = 0) := fun q9 => c_234 ((nI_eq (b := 0) (by omega) (by omega)).mpr q9)
            refine ex_aload_n 11 dL_areDays_237 rfl rfl ?_
            refine ex_iload 5 dL_areDays_238 rfl ?_
            refine ex_bipush (v := nI 6) dL_areDays_240 (by decide) ?_
            refine ex_per (j := j) (k := 6) (v := B.2.2.2.2 j 4) vl_L_14 S wfB hjB (by decide) rfl (by decide) (Nat.le_of_ble_eq_true rfl) (Nat.le_refl _) (Nat.le_refl _) dL_areDays_242 (fun h S => ?_)
            refine ex_iload 0 dL_areDays_245 rfl ?_
            refine ex_icmp_le (tgt := 287) dL_areDays_247 (by decide) (fun c_247 => absurd c_247 (hpu (by omega))) (fun c_247 => ?_)
            refine ex_iload 3 dL_areDays_250 rfl ?_
            refine ex_if_lt (tgt := 265) dL_areDays_252 (by decide) (fun c_252 => absurd c_252 (nI_pos (by omega))) (fun c_252 => ?_)
            refine ex_iload 3 dL_areDays_255 rfl ?_
            refine ex_iload_n 12 dL_areDays_257 rfl rfl ?_
            refine ex_icmp_gt (tgt := 265) dL_areDays_258 (by decide) (fun c_258 => ?_) (fun c_258 => ?_)
            · have n_258 : k < m := (nI_ltI (by omega) (by omega)).mp c_258
              refine ex_iconst (v := nI 0) dL_areDays_265 (by decide) ?_
              refine ex_aload_n 11 dL_areDays_266 rfl rfl ?_
              refine ex_bipush (v := nI 11) dL_areDays_267 (by decide) ?_
              refine ex_cnt (k := 11) (v := B.2.2.2.1 11) vl_L_8 S wfB (by decide) rfl (by decide) (Nat.le_of_ble_eq_true rfl) (Nat.le_refl _) (Nat.le_refl _) dL_areDays_269 (fun h S => ?_)
              refine ex_topi (y := nI a2) (ha2) ?_
              refine ex_if_ne (tgt := 279) dL_areDays_272 (by decide) (fun c_272 => ?_) (fun c_272 => ?_)
              · have n_272 : ¬ (a2 = 0) := fun q9 => c_272 ((nI_eq (b := 0) (by omega) (by omega)).mpr q9)
                refine ex_iconst (v := nI 0) dL_areDays_279 (by decide) ?_
                refine ex_icmp_ne (tgt := 287) dL_areDays_280 (by decide) (fun c_280 => absurd (by decide) c_280) (fun c_280 => ?_)
                refine ex_iconst (v := nI 1) dL_areDays_283 (by decide) ?_
                refine ex_goto (tgt := 288) dL_areDays_284 (by decide) ?_
                exact ex_zret hQ rfl (by decide) ⟨rfl, rfl, S⟩ dL_areDays_288
              · have n_272 : a2 = 0 := (nI_eq (b := 0) (by omega) (by omega)).mp c_272
                refine ex_iconst (v := nI 1) dL_areDays_275 (by decide) ?_
                refine ex_goto (tgt := 280) dL_areDays_276 (by decide) ?_
                refine ex_icmp_ne (tgt := 287) dL_areDays_280 (by decide) (fun c_280 => ?_) (fun c_280 => absurd c_280 (by decide))
                exfalso
                omega
            · have n_258 : ¬ (k < m) := fun q9 => c_258 ((nI_ltI (by omega) (by omega)).mpr q9)
              refine ex_iconst (v := nI 1) dL_areDays_261 (by decide) ?_
              refine ex_goto (tgt := 266) dL_areDays_262 (by decide) ?_
              refine ex_aload_n 11 dL_areDays_266 rfl rfl ?_
              refine ex_bipush (v := nI 11) dL_areDays_267 (by decide) ?_
              refine ex_cnt (k := 11) (v := B.2.2.2.1 11) vl_L_8 S wfB (by decide) rfl (by decide) (Nat.le_of_ble_eq_true rfl) (Nat.le_refl _) (Nat.le_refl _) dL_areDays_269 (fun h S => ?_)
              refine ex_topi (y := nI a2) (ha2) ?_
              refine ex_if_ne (tgt := 279) dL_areDays_272 (by decide) (fun c_272 => ?_) (fun c_272 => ?_)
              · have n_272 : ¬ (a2 = 0) := fun q9 => c_272 ((nI_eq (b := 0) (by omega) (by omega)).mpr q9)
                refine ex_iconst (v := nI 0) dL_areDays_279 (by decide) ?_
                refine ex_icmp_ne (tgt := 287) dL_areDays_280 (by decide) (fun c_280 => ?_) (fun c_280 => absurd c_280 (by decide))
                exfalso
                omega
              · have n_272 : a2 = 0 := (nI_eq (b := 0) (by omega) (by omega)).mp c_272
                refine ex_iconst (v := nI 1) dL_areDays_275 (by decide) ?_
                refine ex_goto (tgt := 280) dL_areDays_276 (by decide) ?_
                refine ex_icmp_ne (tgt := 287) dL_areDays_280 (by decide) (fun c_280 => absurd (by decide) c_280) (fun c_280 => ?_)
                refine ex_iconst (v := nI 1) dL_areDays_283 (by decide) ?_
                refine ex_goto (tgt := 288) dL_areDays_284 (by decide) ?_
                exact ex_zret hQ rfl (by decide) ⟨rfl, rfl, S⟩ dL_areDays_288

set_option maxRecDepth 20000 in
set_option maxHeartbeats 2000000 in
theorem c_areDaysSN {G : GG} {l : Launch} {h0 : HP} {z b : Nat} {n : Nat} {t : Nat} {u : Nat → Int32} {q : Nat → Nat → Int32} {R : RX} {K : Nat} {g : Option Nat} {k P a a2 : Nat} {B : AS} {j e : Nat} (hj : j < n) (hjB : j < B.1) (he : e < 500) (hP : 0 < P ↔ e < k) (hpu : 0 < P → ¬ B.2.2.2.2 j 4 ≤ q j 4) (hz : ¬ a = 0) (hz2 : ¬ a2 = 0) (hk : 1 ≤ k) (hk9 : k ≤ 99) (hPk : P ≤ k) (ha : u 11 = nI a) (ha9 : a < 2 ^ 30) (ha2 : B.2.2.2.1 11 = nI a2) (ha29 : a2 < 2 ^ 30) (wfB : wfA B) (hp : ∀ w, w < 5 → X_ifPassed ((n, g, t, u, q), R) (nI k) (nI w) = ifpN (n, g, t, u, q) B w) (h13 : B.2.2.2.1 13 - u 13 = nI P) (hps : X_pass ((n, g, t, u, q), R) (nI k) = (nI P, (B, (recX ((n, g, t, u, q), R) A0).2))) (hn0 : X_next ((n, g, t, u, q), R) (nI 0) = nI j) (hn1 : X_next ((n, g, t, u, q), R) (nI 1) = nI (e + 1)) (hu : X_untilEmpty ((n, g, t, u, q), R) = -6) (S0 : PP G h0 z b ((n, g, t, u, q), R)) (ok : iv K (n, g, t, u, q)) (hK : K < 2 ^ 23) : Ct G l 6 0 0 yL_areDays cL_areDays 13 (some .boolean) [.ref b, .int (nI k)] h0 z (pL G b z (X_pass ((n, g, t, u, q), R) (nI k)).2) := by
  refine Ct.intro (lv := [(0, .ref b), (1, .int (nI k))]) (by decide +kernel) (Nat.le_of_ble_eq_true rfl) rfl (fun X Q hQ hnm => ?_)
  have S := S0
  have wf : wfA (n, g, t, u, q) := ok.1.1
  have n8 : n ≤ 8 := wf.1
  have tw : t < n ∨ t = 0 := wf.2.2
  have ok1 := ok.1
  have ow := ok.2
  have hps2 := hps
  rw [hps2] at hQ
  refine ex_aload_n 0 dL_areDays_0 rfl rfl ?_
  refine ex_iload_n 1 dL_areDays_1 rfl rfl ?_
  refine ex_iconst (v := nI 0) dL_areDays_2 (by decide) ?_
  refine ex_ch (As := [.int (nI k), .int (nI 0)]) (v := nI P) (x2 := ((n, g, t, u, q), R)) vl_L_21 rfl S (c_ifPassed S wf ok1.m3) ((by rw [hp 0 (by omega)]; exact congrArg (fun y => (y, ((n, g, t, u, q), R))) h13)) rfl (by decide) (Nat.le_of_ble_eq_true rfl) (Nat.le_refl _) (Nat.le_refl _) rfl dL_areDays_3 (fun h S => ?_)
  refine ex_istore_n (lv' := [(2, .int (nI P)), (0, .ref b), (1, .int (nI k))]) dL_areDays_6 rfl (by decide) rfl ?_
  refine ex_aload_n 1 dL_areDays_7 rfl rfl ?_
  refine ex_iload_n 2 dL_areDays_8 rfl rfl ?_
  refine ex_iconst (v := nI 1) dL_areDays_9 (by decide) ?_
  refine ex_ch (As := [.int (nI k), .int (nI 1)]) (v := B.2.2.2.1 12 - u 12) (x2 := ((n, g, t, u, q), R)) vl_L_21 rfl S (c_ifPassed S wf ok1.m3) ((by rw [hp 1 (by omega)]; rfl)) rfl (by decide) (Nat.le_of_ble_eq_true rfl) (Nat.le_refl _) (Nat.le_refl _) rfl dL_areDays_10 (fun h S => ?_)
  refine ex_istore_n (lv' := [(3, .int (B.2.2.2.1 12 - u 12)), (2, .int (nI P)), (0, .ref b), (1, .int (nI k))]) dL_areDays_13 rfl (by decide) rfl ?_
  refine ex_aload_n 2 dL_areDays_14 rfl rfl ?_
  refine ex_iload_n 3 dL_areDays_15 rfl rfl ?_
  refine ex_iconst (v := nI 2) dL_areDays_16 (by decide) ?_
  refine ex_ch (As := [.int (nI k), .int (nI 2)]) (v := B.2.2.2.1 15 - u 15) (x2 := ((n, g, t, u, q), R)) vl_L_21 rfl S (c_ifPassed S wf ok1.m3) ((by rw [hp 2 (by omega)]; rfl)) rfl (by decide) (Nat.le_of_ble_eq_true rfl) (Nat.le_refl _) (Nat.le_refl _) rfl dL_areDays_17 (fun h S => ?_)
  refine ex_istore (lv' := [(4, .int (B.2.2.2.1 15 - u 15)), (3, .int (B.2.2.2.1 12 - u 12)), (2, .int (nI P)), (0, .ref b), (1, .int (nI k))]) dL_areDays_20 (by decide) rfl ?_
  refine ex_aload_n 3 dL_areDays_22 rfl rfl ?_
  refine ex_iload_n 4 dL_areDays_23 rfl rfl ?_
  refine ex_iconst (v := nI 3) dL_areDays_24 (by decide) ?_
  refine ex_ch (As := [.int (nI k), .int (nI 3)]) (v := B.2.2.2.1 8) (x2 := ((n, g, t, u, q), R)) vl_L_21 rfl S (c_ifPassed S wf ok1.m3) ((by rw [hp 3 (by omega)]; rfl)) rfl (by decide) (Nat.le_of_ble_eq_true rfl) (Nat.le_refl _) (Nat.le_refl _) rfl dL_areDays_25 (fun h S => ?_)
  refine ex_istore (lv' := [(5, .int (B.2.2.2.1 8)), (4, .int (B.2.2.2.1 15 - u 15)), (3, .int (B.2.2.2.1 12 - u 12)), (2, .int (nI P)), (0, .ref b), (1, .int (nI k))]) dL_areDays_28 (by decide) rfl ?_
  refine ex_aload_n 4 dL_areDays_30 rfl rfl ?_
  refine ex_iload_n 5 dL_areDays_31 rfl rfl ?_
  refine ex_iconst (v := nI 4) dL_areDays_32 (by decide) ?_
  refine ex_ch (As := [.int (nI k), .int (nI 4)]) (v := gv B.2.1) (x2 := ((n, g, t, u, q), R)) vl_L_21 rfl S (c_ifPassed S wf ok1.m3) ((by rw [hp 4 (by omega)]; rfl)) rfl (by decide) (Nat.le_of_ble_eq_true rfl) (Nat.le_refl _) (Nat.le_refl _) rfl dL_areDays_33 (fun h S => ?_)
  refine ex_istore (lv' := [(6, .int (gv B.2.1)), (5, .int (B.2.2.2.1 8)), (4, .int (B.2.2.2.1 15 - u 15)), (3, .int (B.2.2.2.1 12 - u 12)), (2, .int (nI P)), (0, .ref b), (1, .int (nI k))]) dL_areDays_36 (by decide) rfl ?_
  refine ex_aload_n 5 dL_areDays_38 rfl rfl ?_
  refine ex_iconst (v := nI 0) dL_areDays_39 (by decide) ?_
  refine ex_ch (As := [.int (nI 0)]) (v := nI j) (x2 := ((n, g, t, u, q), R)) vl_L_24 rfl S (c_next S wf ok1.m3) ((by rw [hn0])) rfl (by decide) (Nat.le_of_ble_eq_true rfl) (Nat.le_refl _) (Nat.le_refl _) rfl dL_areDays_40 (fun h S => ?_)
  refine ex_istore (lv' := [(7, .int (nI j)), (6, .int (gv B.2.1)), (5, .int (B.2.2.2.1 8)), (4, .int (B.2.2.2.1 15 - u 15)), (3, .int (B.2.2.2.1 12 - u 12)), (2, .int (nI P)), (0, .ref b), (1, .int (nI k))]) dL_areDays_43 (by decide) rfl ?_
  refine ex_aload_n 6 dL_areDays_45 rfl rfl ?_
  refine ex_iconst (v := nI 1) dL_areDays_46 (by decide) ?_
  refine ex_ch (As := [.int (nI 1)]) (v := nI (e + 1)) (x2 := ((n, g, t, u, q), R)) vl_L_24 rfl S (c_next S wf ok1.m3) ((by rw [hn1])) rfl (by decide) (Nat.le_of_ble_eq_true rfl) (Nat.le_refl _) (Nat.le_refl _) rfl dL_areDays_47 (fun h S => ?_)
  refine ex_istore (lv' := [(8, .int (nI (e + 1))), (7, .int (nI j)), (6, .int (gv B.2.1)), (5, .int (B.2.2.2.1 8)), (4, .int (B.2.2.2.1 15 - u 15)), (3, .int (B.2.2.2.1 12 - u 12)), (2, .int (nI P)), (0, .ref b), (1, .int (nI k))]) dL_areDays_50 (by decide) rfl ?_
  refine ex_aload_n 7 dL_areDays_52 rfl rfl ?_
  refine ex_ch (As := []) (v := (-6)) (x2 := ((n, g, t, u, q), R)) vl_L_27 rfl S (c_untilEmpty S wf ok1.m3) ((by rw [hu])) rfl (by decide) (Nat.le_of_ble_eq_true rfl) (Nat.le_refl _) (Nat.le_refl _) rfl dL_areDays_53 (fun h S => ?_)
  refine ex_istore (lv' := [(9, .int (-6)), (8, .int (nI (e + 1))), (7, .int (nI j)), (6, .int (gv B.2.1)), (5, .int (B.2.2.2.1 8)), (4, .int (B.2.2.2.1 15 - u 15)), (3, .int (B.2.2.2.1 12 - u 12)), (2, .int (nI P)), (0, .ref b), (1, .int (nI k))]) dL_areDays_56 (by decide) rfl ?_
  refine ex_aload_n 8 dL_areDays_58 rfl rfl ?_
  refine ex_bipush (v := nI 13) dL_areDays_59 (by decide) ?_
  refine ex_cnt (k := 13) (v := u 12) vl_L_8 S wf (by decide) rfl (by decide) (Nat.le_of_ble_eq_true rfl) (Nat.le_refl _) (Nat.le_refl _) dL_areDays_61 (fun h S => ?_)
  refine ex_istore (lv' := [(10, .int (u 12)), (9, .int (-6)), (8, .int (nI (e + 1))), (7, .int (nI j)), (6, .int (gv B.2.1)), (5, .int (B.2.2.2.1 8)), (4, .int (B.2.2.2.1 15 - u 15)), (3, .int (B.2.2.2.1 12 - u 12)), (2, .int (nI P)), (0, .ref b), (1, .int (nI k))]) dL_areDays_64 (by decide) rfl ?_
  refine ex_aload_n 9 dL_areDays_66 rfl rfl ?_
  refine ex_bipush (v := nI 16) dL_areDays_67 (by decide) ?_
  refine ex_cnt (k := 16) (v := u 15) vl_L_8 S wf (by decide) rfl (by decide) (Nat.le_of_ble_eq_true rfl) (Nat.le_refl _) (Nat.le_refl _) dL_areDays_69 (fun h S => ?_)
  refine ex_istore (lv' := [(11, .int (u 15)), (10, .int (u 12)), (9, .int (-6)), (8, .int (nI (e + 1))), (7, .int (nI j)), (6, .int (gv B.2.1)), (5, .int (B.2.2.2.1 8)), (4, .int (B.2.2.2.1 15 - u 15)), (3, .int (B.2.2.2.1 12 - u 12)), (2, .int (nI P)), (0, .ref b), (1, .int (nI k))]) dL_areDays_72 (by decide) rfl ?_
  refine ex_iload 4 dL_areDays_74 rfl ?_
  refine ex_if_ge (tgt := 83) dL_areDays_76 (by decide) (fun c_76 => ?_) (fun c_76 => absurd (nI_pos' (by omega)) c_76)
  refine ex_aload_n 10 dL_areDays_83 rfl rfl ?_
  refine ex_iload 4 dL_areDays_84 rfl ?_
  refine ex_bipush (v := nI 6) dL_areDays_86 (by decide) ?_
  refine ex_per (j := j) (k := 6) (v := q j 4) vl_L_14 S wf hj (by decide) rfl (by decide) (Nat.le_of_ble_eq_true rfl) (Nat.le_refl _) (Nat.le_refl _) dL_areDays_88 (fun h S => ?_)
  refine ex_istore (lv' := [(12, .int (q j 4)), (11, .int (u 15)), (10, .int (u 12)), (9, .int (-6)), (8, .int (nI (e + 1))), (7, .int (nI j)), (6, .int (gv B.2.1)), (5, .int (B.2.2.2.1 8)), (4, .int (B.2.2.2.1 15 - u 15)), (3, .int (B.2.2.2.1 12 - u 12)), (2, .int (nI P)), (0, .ref b), (1, .int (nI k))]) dL_areDays_91 (by decide) rfl ?_
  refine ex_iload 5 dL_areDays_93 rfl ?_
  refine ex_if_ge (tgt := 102) dL_areDays_95 (by decide) (fun c_95 => ?_) (fun c_95 => absurd (nI_pos' (by omega)) c_95)
  refine ex_iconst (v := nI 0) dL_areDays_102 (by decide) ?_
  refine ex_iload 4 dL_areDays_103 rfl ?_
  refine ex_if_ge (tgt := 112) dL_areDays_105 (by decide) (fun c_105 => ?_) (fun c_105 => absurd (nI_pos' (by omega)) c_105)
  refine ex_iconst (v := nI 0) dL_areDays_112 (by decide) ?_
  refine ex_icmp_ne (tgt := 171) dL_areDays_113 (by decide) (fun c_113 => absurd (by decide) c_113) (fun c_113 => ?_)
  refine ex_iload 3 dL_areDays_116 rfl ?_
  refine ex_if_ne (tgt := 125) dL_areDays_118 (by decide) (fun c_118 => ?_) (fun c_118 => absurd c_118 (by decide))
  refine ex_iconst (v := nI 0) dL_areDays_125 (by decide) ?_
  refine ex_aload_n 11 dL_areDays_126 rfl rfl ?_
  refine ex_bipush (v := nI 11) dL_areDays_127 (by decide) ?_
  refine ex_cnt (k := 11) (v := u 11) vl_L_8 S wf (by decide) rfl (by decide) (Nat.le_of_ble_eq_true rfl) (Nat.le_refl _) (Nat.le_refl _) dL_areDays_129 (fun h S => ?_)
  refine ex_topi (y := nI a) (ha) ?_
  refine ex_if_ne (tgt := 139) dL_areDays_132 (by decide) (fun c_132 => ?_) (fun c_132 => ?_)
  · have n_132 : ¬ (a = 0) := fun q9 => c_132 ((nI_eq (b := 0) (by omega) (by omega)).mpr q9)
    refine ex_iconst (v := nI 0) dL_areDays_139 (by decide) ?_
    refine ex_icmp_ne (tgt := 171) dL_areDays_140 (by decide) (fun c_140 => absurd (by decide) c_140) (fun c_140 => ?_)
    refine ex_iload_n 10 dL_areDays_143 rfl rfl ?_
    refine ex_if_le (tgt := 151) dL_areDays_144 (by decide) (fun c_144 => ?_) (fun c_144 => ?_)
    · have n_144 : P ≤ 0 := (nI_leI (b := 0) (by omega) (by omega)).mp c_144
      refine ex_iconst (v := nI 0) dL_areDays_151 (by decide) ?_
      refine ex_iload 4 dL_areDays_152 rfl ?_
      refine ex_if_le (tgt := 167) dL_areDays_154 (by decide) (fun c_154 => absurd c_154 (fun q9 => absurd ((nI_leI (b := 0) (by omega) (by omega)).mp q9) (by omega))) (fun c_154 => ?_)
      refine ex_iload 4 dL_areDays_157 rfl ?_
      refine ex_iload_n 12 dL_areDays_159 rfl rfl ?_
      refine ex_icmp_gt (tgt := 167) dL_areDays_160 (by decide) (fun c_160 => ?_) (fun c_160 => ?_)
      · have n_160 : k < (e + 1) := (nI_ltI (by omega) (by omega)).mp c_160
        refine ex_iconst (v := nI 0) dL_areDays_167 (by decide) ?_
        refine ex_icmp_eq (tgt := 173) dL_areDays_168 (by decide) (fun c_168 => ?_) (fun c_168 => absurd (by decide) c_168)
        refine ex_aload_n 11 dL_areDays_173 rfl rfl ?_
        refine ex_iload_n 12 dL_areDays_174 rfl rfl ?_
        refine ex_ch (As := [.int (nI k)]) (v := nI P) (x2 := (B, (recX ((n, g, t, u, q), R) A0).2)) vl_L_18 rfl S (c_pass S wf ok1.m3) (hps) rfl (by decide) (Nat.le_of_ble_eq_true rfl) (Nat.le_refl _) (Nat.le_refl _) rfl dL_areDays_175 (fun h S => ?_)
        refine ex_iload_n 10 dL_areDays_178 rfl rfl ?_
        refine ex_icmp_ne (tgt := 231) dL_areDays_179 (by decide) (fun c_179 => absurd (rfl) c_179) (fun c_179 => ?_)
        refine ex_aload_n 11 dL_areDays_182 rfl rfl ?_
        refine ex_bipush (v := nI 13) dL_areDays_183 (by decide) ?_
        refine ex_cnt (k := 13) (v := B.2.2.2.1 12) vl_L_8 S wfB (by decide) rfl (by decide) (Nat.le_of_ble_eq_true rfl) (Nat.le_refl _) (Nat.le_refl _) dL_areDays_185 (fun h S => ?_)
        refine ex_iload 2 dL_areDays_188 rfl ?_
        refine ex_iload_n 9 dL_areDays_190 rfl rfl ?_
        refine ex_iadd dL_areDays_191 ?_
        refine ex_icmp_ne (tgt := 231) dL_areDays_192 (by decide) (fun c_192 => absurd (rg8) c_192) (fun c_192 => ?_)
        refine ex_aload_n 11 dL_areDays_195 rfl rfl ?_
        refine ex_bipush (v := nI 16) dL_areDays_196 (by decide) ?_
        refine ex_cnt (k := 16) (v := B.2.2.2.1 15) vl_L_8 S wfB (by decide) rfl (by decide) (Nat.le_of_ble_eq_true rfl) (Nat.le_refl _) (Nat.le_refl _) dL_areDays_198 (fun h S => ?_)
        refine ex_iload 1 dL_areDays_201 rfl ?_
        refine ex_iload 8 dL_areDays_203 rfl ?_
        refine ex_iadd dL_areDays_205 ?_
        refine ex_icmp_ne (tgt := 231) dL_areDays_206 (by decide) (fun c_206 => absurd (rg8) c_206) (fun c_206 => ?_)
        refine ex_aload_n 11 dL_areDays_209 rfl rfl ?_
        refine ex_bipush (v := nI 8) dL_areDays_210 (by decide) ?_
        refine ex_cnt (k := 8) (v := B.2.2.2.1 8) vl_L_8 S wfB (by decide) rfl (by decide) (Nat.le_of_ble_eq_true rfl) (Nat.le_refl _) (Nat.le_refl _) dL_areDays_212 (fun h S => ?_)
        refine ex_iload 7 dL_areDays_215 rfl ?_
        refine ex_icmp_ne (tgt := 231) dL_areDays_217 (by decide) (fun c_217 => absurd (rfl) c_217) (fun c_217 => ?_)
        refine ex_aload_n 11 dL_areDays_220 rfl rfl ?_
        refine ex_bipush (v := nI 9) dL_areDays_221 (by decide) ?_
        refine ex_cnt (k := 9) (v := gv B.2.1) vl_L_8 S wfB (by decide) rfl (by decide) (Nat.le_of_ble_eq_true rfl) (Nat.le_refl _) (Nat.le_refl _) dL_areDays_223 (fun h S => ?_)
        refine ex_iload 6 dL_areDays_226 rfl ?_
        refine ex_icmp_eq (tgt := 233) dL_areDays_228 (by decide) (fun c_228 => ?_) (fun c_228 => absurd (rfl) c_228)
        refine ex_iload_n 10 dL_areDays_233 rfl rfl ?_
        refine ex_if_eq (tgt := 250) dL_areDays_234 (by decide) (fun c_234 => ?_) (fun c_234 => ?_)
        · have n_234 : P = 0 := (nI_eq (b := 0) (by omega) (by omega)).mp c_234
          refine ex_iload 3 dL_areDays_250 rfl ?_
          refine ex_if_lt (tgt := 265) dL_areDays_252 (by decide) (fun c_252 => ?_) (fun c_252 => absurd (by decide) c_252)
          refine ex_iconst (v := nI 0) dL_areDays_265 (by decide) ?_
          refine ex_aload_n 11 dL_areDays_266 rfl rfl ?_
          refine ex_bipush (v := nI 11) dL_areDays_267 (by decide) ?_
          refine ex_cnt (k := 11) (v := B.2.2.2.1 11) vl_L_8 S wfB (by decide) rfl (by decide) (Nat.le_of_ble_eq_true rfl) (Nat.le_refl _) (Nat.le_refl _) dL_areDays_269 (fun h S => ?_)
          refine ex_topi (y := nI a2) (ha2) ?_
          refine ex_if_ne (tgt := 279) dL_areDays_272 (by decide) (fun c_272 => ?_) (fun c_272 => ?_)
          · have n_272 : ¬ (a2 = 0) := fun q9 => c_272 ((nI_eq (b := 0) (by omega) (by omega)).mpr q9)
            refine ex_iconst (v := nI 0) dL_areDays_279 (by decide) ?_
            refine ex_icmp_ne (tgt := 287) dL_areDays_280 (by decide) (fun c_280 => absurd (by decide) c_280) (fun c_280 => ?_)
            refine ex_iconst (v := nI 1) dL_areDays_283 (by decide) ?_
            refine ex_goto (tgt := 288) dL_areDays_284 (by decide) ?_
            exact ex_zret hQ rfl (by decide) ⟨rfl, rfl, S⟩ dL_areDays_288
          · have n_272 : a2 = 0 := (nI_eq (b := 0) (by omega) (by omega)).mp c_272
            refine ex_iconst (v := nI 1) dL_areDays_275 (by decide) ?_
            refine ex_goto (tgt := 280) dL_areDays_276 (by decide) ?_
            refine ex_icmp_ne (tgt := 287) dL_areDays_280 (by decide) (fun c_280 => ?_) (fun c_280 => absurd c_280 (by decide))
            exfalso
            omega
        · have n_234 : ¬ (P = 0) := fun q9 => c_234 ((nI_eq (b := 0) (by omega) (by omega)).mpr q9)
          refine ex_aload_n 11 dL_areDays_237 rfl rfl ?_
          refine ex_iload 5 dL_areDays_238 rfl ?_
          refine ex_bipush (v := nI 6) dL_areDays_240 (by decide) ?_
          refine ex_per (j := j) (k := 6) (v := B.2.2.2.2 j 4) vl_L_14 S wfB hjB (by decide) rfl (by decide) (Nat.le_of_ble_eq_true rfl) (Nat.le_refl _) (Nat.le_refl _) dL_areDays_242 (fun h S => ?_)
          refine ex_iload 0 dL_areDays_245 rfl ?_
          refine ex_icmp_le (tgt := 287) dL_areDays_247 (by decide) (fun c_247 => absurd c_247 (hpu (by omega))) (fun c_247 => ?_)
          refine ex_iload 3 dL_areDays_250 rfl ?_
          refine ex_if_lt (tgt := 265) dL_areDays_252 (by decide) (fun c_252 => ?_) (fun c_252 => absurd (by decide) c_252)
          refine ex_iconst (v := nI 0) dL_areDays_265 (by decide) ?_
          refine ex_aload_n 11 dL_areDays_266 rfl rfl ?_
          refine ex_bipush (v := nI 11) dL_areDays_267 (by decide) ?_
          refine ex_cnt (k := 11) (v := B.2.2.2.1 11) vl_L_8 S wfB (by decide) rfl (by decide) (Nat.le_of_ble_eq_true rfl) (Nat.le_refl _) (Nat.le_refl _) dL_areDays_269 (fun h S => ?_)
          refine ex_topi (y := nI a2) (ha2) ?_
          refine ex_if_ne (tgt := 279) dL_areDays_272 (by decide) (fun c_272 => ?_) (fun c_272 => ?_)
          · have n_272 : ¬ (a2 = 0) := fun q9 => c_272 ((nI_eq (b := 0) (by omega) (by omega)).mpr q9)
            refine ex_iconst (v := nI 0) dL_areDays_279 (by decide) ?_
            refine ex_icmp_ne (tgt := 287) dL_areDays_280 (by decide) (fun c_280 => absurd (by decide) c_280) (fun c_280 => ?_)
            refine ex_iconst (v := nI 1) dL_areDays_283 (by decide) ?_
            refine ex_goto (tgt := 288) dL_areDays_284 (by decide) ?_
            exact ex_zret hQ rfl (by decide) ⟨rfl, rfl, S⟩ dL_areDays_288
          · have n_272 : a2 = 0 := (nI_eq (b := 0) (by omega) (by omega)).mp c_272
            refine ex_iconst (v := nI 1) dL_areDays_275 (by decide) ?_
            refine ex_goto (tgt := 280) dL_areDays_276 (by decide) ?_
            refine ex_icmp_ne (tgt := 287) dL_areDays_280 (by decide) (fun c_280 => ?_) (fun c_280 => absurd c_280 (by decide))
            exfalso
            omega
      · have n_160 : ¬ (k < (e + 1)) := fun q9 => c_160 ((nI_ltI (by omega) (by omega)).mpr q9)
        refine ex_iconst (v := nI 1) dL_areDays_163 (by decide) ?_
        refine ex_goto (tgt := 168) dL_areDays_164 (by decide) ?_
        refine ex_icmp_eq (tgt := 173) dL_areDays_168 (by decide) (fun c_168 => absurd c_168 (by decide)) (fun c_168 => ?_)
        exfalso
        omega
    · have n_144 : ¬ (P ≤ 0) := fun q9 => c_144 ((nI_leI (b := 0) (by omega) (by omega)).mpr q9)
      refine ex_iconst (v := nI 1) dL_areDays_147 (by decide) ?_
      refine ex_goto (tgt := 152) dL_areDays_148 (by decide) ?_
      refine ex_iload 4 dL_areDays_152 rfl ?_
      refine ex_if_le (tgt := 167) dL_areDays_154 (by decide) (fun c_154 => absurd c_154 (fun q9 => absurd ((nI_leI (b := 0) (by omega) (by omega)).mp q9) (by omega))) (fun c_154 => ?_)
      refine ex_iload 4 dL_areDays_157 rfl ?_
      refine ex_iload_n 12 dL_areDays_159 rfl rfl ?_
      refine ex_icmp_gt (tgt := 167) dL_areDays_160 (by decide) (fun c_160 => ?_) (fun c_160 => ?_)
      · have n_160 : k < (e + 1) := (nI_ltI (by omega) (by omega)).mp c_160
        refine ex_iconst (v := nI 0) dL_areDays_167 (by decide) ?_
        refine ex_icmp_eq (tgt := 173) dL_areDays_168 (by decide) (fun c_168 => absurd c_168 (by decide)) (fun c_168 => ?_)
        exfalso
        omega
      · have n_160 : ¬ (k < (e + 1)) := fun q9 => c_160 ((nI_ltI (by omega) (by omega)).mpr q9)
        refine ex_iconst (v := nI 1) dL_areDays_163 (by decide) ?_
        refine ex_goto (tgt := 168) dL_areDays_164 (by decide) ?_
        refine ex_icmp_eq (tgt := 173) dL_areDays_168 (by decide) (fun c_168 => ?_) (fun c_168 => absurd (by decide) c_168)
        refine ex_aload_n 11 dL_areDays_173 rfl rfl ?_
        refine ex_iload_n 12 dL_areDays_174 rfl rfl ?_
        refine ex_ch (As := [.int (nI k)]) (v := nI P) (x2 := (B, (recX ((n, g, t, u, q), R) A0).2)) vl_L_18 rfl S (c_pass S wf ok1.m3) (hps) rfl (by decide) (Nat.le_of_ble_eq_true rfl) (Nat.le_refl _) (Nat.le_refl _) rfl dL_areDays_175 (fun h S => ?_)
        refine ex_iload_n 10 dL_areDays_178 rfl rfl ?_
        refine ex_icmp_ne (tgt := 231) dL_areDays_179 (by decide) (fun c_179 => absurd (rfl) c_179) (fun c_179 => ?_)
        refine ex_aload_n 11 dL_areDays_182 rfl rfl ?_
        refine ex_bipush (v := nI 13) dL_areDays_183 (by decide) ?_
        refine ex_cnt (k := 13) (v := B.2.2.2.1 12) vl_L_8 S wfB (by decide) rfl (by decide) (Nat.le_of_ble_eq_true rfl) (Nat.le_refl _) (Nat.le_refl _) dL_areDays_185 (fun h S => ?_)
        refine ex_iload 2 dL_areDays_188 rfl ?_
        refine ex_iload_n 9 dL_areDays_190 rfl rfl ?_
        refine ex_iadd dL_areDays_191 ?_
        refine ex_icmp_ne (tgt := 231) dL_areDays_192 (by decide) (fun c_192 => absurd (rg8) c_192) (fun c_192 => ?_)
        refine ex_aload_n 11 dL_areDays_195 rfl rfl ?_
        refine ex_bipush (v := nI 16) dL_areDays_196 (by decide) ?_
        refine ex_cnt (k := 16) (v := B.2.2.2.1 15) vl_L_8 S wfB (by decide) rfl (by decide) (Nat.le_of_ble_eq_true rfl) (Nat.le_refl _) (Nat.le_refl _) dL_areDays_198 (fun h S => ?_)
        refine ex_iload 1 dL_areDays_201 rfl ?_
        refine ex_iload 8 dL_areDays_203 rfl ?_
        refine ex_iadd dL_areDays_205 ?_
        refine ex_icmp_ne (tgt := 231) dL_areDays_206 (by decide) (fun c_206 => absurd (rg8) c_206) (fun c_206 => ?_)
        refine ex_aload_n 11 dL_areDays_209 rfl rfl ?_
        refine ex_bipush (v := nI 8) dL_areDays_210 (by decide) ?_
        refine ex_cnt (k := 8) (v := B.2.2.2.1 8) vl_L_8 S wfB (by decide) rfl (by decide) (Nat.le_of_ble_eq_true rfl) (Nat.le_refl _) (Nat.le_refl _) dL_areDays_212 (fun h S => ?_)
        refine ex_iload 7 dL_areDays_215 rfl ?_
        refine ex_icmp_ne (tgt := 231) dL_areDays_217 (by decide) (fun c_217 => absurd (rfl) c_217) (fun c_217 => ?_)
        refine ex_aload_n 11 dL_areDays_220 rfl rfl ?_
        refine ex_bipush (v := nI 9) dL_areDays_221 (by decide) ?_
        refine ex_cnt (k := 9) (v := gv B.2.1) vl_L_8 S wfB (by decide) rfl (by decide) (Nat.le_of_ble_eq_true rfl) (Nat.le_refl _) (Nat.le_refl _) dL_areDays_223 (fun h S => ?_)
        refine ex_iload 6 dL_areDays_226 rfl ?_
        refine ex_icmp_eq (tgt := 233) dL_areDays_228 (by decide) (fun c_228 => ?_) (fun c_228 => absurd (rfl) c_228)
        refine ex_iload_n 10 dL_areDays_233 rfl rfl ?_
        refine ex_if_eq (tgt := 250) dL_areDays_234 (by decide) (fun c_234 => ?_) (fun c_234 => ?_)
        · have n_234 : P = 0 := (nI_eq (b := 0) (by omega) (by omega)).mp c_234
          refine ex_iload 3 dL_areDays_250 rfl ?_
          refine ex_if_lt (tgt := 265) dL_areDays_252 (by decide) (fun c_252 => ?_) (fun c_252 => absurd (by decide) c_252)
          refine ex_iconst (v := nI 0) dL_areDays_265 (by decide) ?_
          refine ex_aload_n 11 dL_areDays_266 rfl rfl ?_
          refine ex_bipush (v := nI 11) dL_areDays_267 (by decide) ?_
          refine ex_cnt (k := 11) (v := B.2.2.2.1 11) vl_L_8 S wfB (by decide) rfl (by decide) (Nat.le_of_ble_eq_true rfl) (Nat.le_refl _) (Nat.le_refl _) dL_areDays_269 (fun h S => ?_)
          refine ex_topi (y := nI a2) (ha2) ?_
          refine ex_if_ne (tgt := 279) dL_areDays_272 (by decide) (fun c_272 => ?_) (fun c_272 => ?_)
          · have n_272 : ¬ (a2 = 0) := fun q9 => c_272 ((nI_eq (b := 0) (by omega) (by omega)).mpr q9)
            refine ex_iconst (v := nI 0) dL_areDays_279 (by decide) ?_
            refine ex_icmp_ne (tgt := 287) dL_areDays_280 (by decide) (fun c_280 => absurd (by decide) c_280) (fun c_280 => ?_)
            refine ex_iconst (v := nI 1) dL_areDays_283 (by decide) ?_
            refine ex_goto (tgt := 288) dL_areDays_284 (by decide) ?_
            exact ex_zret hQ rfl (by decide) ⟨rfl, rfl, S⟩ dL_areDays_288
          · have n_272 : a2 = 0 := (nI_eq (b := 0) (by omega) (by omega)).mp c_272
            refine ex_iconst (v := nI 1) dL_areDays_275 (by decide) ?_
            refine ex_goto (tgt := 280) dL_areDays_276 (by decide) ?_
            refine ex_icmp_ne (tgt := 287) dL_areDays_280 (by decide) (fun c_280 => ?_) (fun c_280 => absurd c_280 (by decide))
            exfalso
            omega
        · have n_234 : ¬ (P = 0) := fun q9 => c_234 ((nI_eq (b := 0) (by omega) (by omega)).mpr q9)
          refine ex_aload_n 11 dL_areDays_237 rfl rfl ?_
          refine ex_iload 5 dL_areDays_238 rfl ?_
          refine ex_bipush (v := nI 6) dL_areDays_240 (by decide) ?_
          refine ex_per (j := j) (k := 6) (v := B.2.2.2.2 j 4) vl_L_14 S wfB hjB (by decide) rfl (by decide) (Nat.le_of_ble_eq_true rfl) (Nat.le_refl _) (Nat.le_refl _) dL_areDays_242 (fun h S => ?_)
          refine ex_iload 0 dL_areDays_245 rfl ?_
          refine ex_icmp_le (tgt := 287) dL_areDays_247 (by decide) (fun c_247 => absurd c_247 (hpu (by omega))) (fun c_247 => ?_)
          refine ex_iload 3 dL_areDays_250 rfl ?_
          refine ex_if_lt (tgt := 265) dL_areDays_252 (by decide) (fun c_252 => ?_) (fun c_252 => absurd (by decide) c_252)
          refine ex_iconst (v := nI 0) dL_areDays_265 (by decide) ?_
          refine ex_aload_n 11 dL_areDays_266 rfl rfl ?_
          refine ex_bipush (v := nI 11) dL_areDays_267 (by decide) ?_
          refine ex_cnt (k := 11) (v := B.2.2.2.1 11) vl_L_8 S wfB (by decide) rfl (by decide) (Nat.le_of_ble_eq_true rfl) (Nat.le_refl _) (Nat.le_refl _) dL_areDays_269 (fun h S => ?_)
          refine ex_topi (y := nI a2) (ha2) ?_
          refine ex_if_ne (tgt := 279) dL_areDays_272 (by decide) (fun c_272 => ?_) (fun c_272 => ?_)
          · have n_272 : ¬ (a2 = 0) := fun q9 => c_272 ((nI_eq (b := 0) (by omega) (by omega)).mpr q9)
            refine ex_iconst (v := nI 0) dL_areDays_279 (by decide) ?_
            refine ex_icmp_ne (tgt := 287) dL_areDays_280 (by decide) (fun c_280 => absurd (by decide) c_280) (fun c_280 => ?_)
            refine ex_iconst (v := nI 1) dL_areDays_283 (by decide) ?_
            refine ex_goto (tgt := 288) dL_areDays_284 (by decide) ?_
            exact ex_zret hQ rfl (by decide) ⟨rfl, rfl, S⟩ dL_areDays_288
          · have n_272 : a2 = 0 := (nI_eq (b := 0) (by omega) (by omega)).mp c_272
            refine ex_iconst (v := nI 1) dL_areDays_275 (by decide) ?_
            refine ex_goto (tgt := 280) dL_areDays_276 (by decide) ?_
            refine ex_icmp_ne (tgt := 287) dL_areDays_280 (by decide) (fun c_280 => ?_) (fun c_280 => absurd c_280 (by decide))
            exfalso
            omega
  · have n_132 : a = 0 := (nI_eq (b := 0) (by omega) (by omega)).mp c_132
    refine ex_iconst (v := nI 1) dL_areDays_135 (by decide) ?_
    refine ex_goto (tgt := 140) dL_areDays_136 (by decide) ?_
    refine ex_icmp_ne (tgt := 171) dL_areDays_140 (by decide) (fun c_140 => ?_) (fun c_140 => absurd c_140 (by decide))
    exfalso
    omega

set_option maxRecDepth 20000 in
set_option maxHeartbeats 2000000 in
theorem c_areDaysNS {G : GG} {l : Launch} {h0 : HP} {z b : Nat} {n : Nat} {t : Nat} {u : Nat → Int32} {q : Nat → Nat → Int32} {R : RX} {K : Nat} {g : Option Nat} {k P a a2 : Nat} {B : AS} (hP0 : P = 0) {m : Nat} (hm : m ≤ 2000) (hz : m = 0 ↔ a = 0) (hz2 : m ≤ k ↔ a2 = 0) (hk : 1 ≤ k) (hk9 : k ≤ 99) (hPk : P ≤ k) (ha : u 11 = nI a) (ha9 : a < 2 ^ 30) (ha2 : B.2.2.2.1 11 = nI a2) (ha29 : a2 < 2 ^ 30) (wfB : wfA B) (hp : ∀ w, w < 5 → X_ifPassed ((n, g, t, u, q), R) (nI k) (nI w) = ifpN (n, g, t, u, q) B w) (h13 : B.2.2.2.1 13 - u 13 = nI P) (hps : X_pass ((n, g, t, u, q), R) (nI k) = (nI P, (B, (recX ((n, g, t, u, q), R) A0).2))) (hn0 : X_next ((n, g, t, u, q), R) (nI 0) = -6) (hn1 : X_next ((n, g, t, u, q), R) (nI 1) = -6) (hu : X_untilEmpty ((n, g, t, u, q), R) = nI m) (S0 : PP G h0 z b ((n, g, t, u, q), R)) (ok : iv K (n, g, t, u, q)) (hK : K < 2 ^ 23) : Ct G l 6 0 0 yL_areDays cL_areDays 13 (some .boolean) [.ref b, .int (nI k)] h0 z (pL G b z (X_pass ((n, g, t, u, q), R) (nI k)).2) := by
  refine Ct.intro (lv := [(0, .ref b), (1, .int (nI k))]) (by decide +kernel) (Nat.le_of_ble_eq_true rfl) rfl (fun X Q hQ hnm => ?_)
  have S := S0
  have wf : wfA (n, g, t, u, q) := ok.1.1
  have n8 : n ≤ 8 := wf.1
  have tw : t < n ∨ t = 0 := wf.2.2
  have ok1 := ok.1
  have ow := ok.2
  have hps2 := hps
  rw [hps2] at hQ
  refine ex_aload_n 0 dL_areDays_0 rfl rfl ?_
  refine ex_iload_n 1 dL_areDays_1 rfl rfl ?_
  refine ex_iconst (v := nI 0) dL_areDays_2 (by decide) ?_
  refine ex_ch (As := [.int (nI k), .int (nI 0)]) (v := nI P) (x2 := ((n, g, t, u, q), R)) vl_L_21 rfl S (c_ifPassed S wf ok1.m3) ((by rw [hp 0 (by omega)]; exact congrArg (fun y => (y, ((n, g, t, u, q), R))) h13)) rfl (by decide) (Nat.le_of_ble_eq_true rfl) (Nat.le_refl _) (Nat.le_refl _) rfl dL_areDays_3 (fun h S => ?_)
  refine ex_istore_n (lv' := [(2, .int (nI P)), (0, .ref b), (1, .int (nI k))]) dL_areDays_6 rfl (by decide) rfl ?_
  refine ex_aload_n 1 dL_areDays_7 rfl rfl ?_
  refine ex_iload_n 2 dL_areDays_8 rfl rfl ?_
  refine ex_iconst (v := nI 1) dL_areDays_9 (by decide) ?_
  refine ex_ch (As := [.int (nI k), .int (nI 1)]) (v := B.2.2.2.1 12 - u 12) (x2 := ((n, g, t, u, q), R)) vl_L_21 rfl S (c_ifPassed S wf ok1.m3) ((by rw [hp 1 (by omega)]; rfl)) rfl (by decide) (Nat.le_of_ble_eq_true rfl) (Nat.le_refl _) (Nat.le_refl _) rfl dL_areDays_10 (fun h S => ?_)
  refine ex_istore_n (lv' := [(3, .int (B.2.2.2.1 12 - u 12)), (2, .int (nI P)), (0, .ref b), (1, .int (nI k))]) dL_areDays_13 rfl (by decide) rfl ?_
  refine ex_aload_n 2 dL_areDays_14 rfl rfl ?_
  refine ex_iload_n 3 dL_areDays_15 rfl rfl ?_
  refine ex_iconst (v := nI 2) dL_areDays_16 (by decide) ?_
  refine ex_ch (As := [.int (nI k), .int (nI 2)]) (v := B.2.2.2.1 15 - u 15) (x2 := ((n, g, t, u, q), R)) vl_L_21 rfl S (c_ifPassed S wf ok1.m3) ((by rw [hp 2 (by omega)]; rfl)) rfl (by decide) (Nat.le_of_ble_eq_true rfl) (Nat.le_refl _) (Nat.le_refl _) rfl dL_areDays_17 (fun h S => ?_)
  refine ex_istore (lv' := [(4, .int (B.2.2.2.1 15 - u 15)), (3, .int (B.2.2.2.1 12 - u 12)), (2, .int (nI P)), (0, .ref b), (1, .int (nI k))]) dL_areDays_20 (by decide) rfl ?_
  refine ex_aload_n 3 dL_areDays_22 rfl rfl ?_
  refine ex_iload_n 4 dL_areDays_23 rfl rfl ?_
  refine ex_iconst (v := nI 3) dL_areDays_24 (by decide) ?_
  refine ex_ch (As := [.int (nI k), .int (nI 3)]) (v := B.2.2.2.1 8) (x2 := ((n, g, t, u, q), R)) vl_L_21 rfl S (c_ifPassed S wf ok1.m3) ((by rw [hp 3 (by omega)]; rfl)) rfl (by decide) (Nat.le_of_ble_eq_true rfl) (Nat.le_refl _) (Nat.le_refl _) rfl dL_areDays_25 (fun h S => ?_)
  refine ex_istore (lv' := [(5, .int (B.2.2.2.1 8)), (4, .int (B.2.2.2.1 15 - u 15)), (3, .int (B.2.2.2.1 12 - u 12)), (2, .int (nI P)), (0, .ref b), (1, .int (nI k))]) dL_areDays_28 (by decide) rfl ?_
  refine ex_aload_n 4 dL_areDays_30 rfl rfl ?_
  refine ex_iload_n 5 dL_areDays_31 rfl rfl ?_
  refine ex_iconst (v := nI 4) dL_areDays_32 (by decide) ?_
  refine ex_ch (As := [.int (nI k), .int (nI 4)]) (v := gv B.2.1) (x2 := ((n, g, t, u, q), R)) vl_L_21 rfl S (c_ifPassed S wf ok1.m3) ((by rw [hp 4 (by omega)]; rfl)) rfl (by decide) (Nat.le_of_ble_eq_true rfl) (Nat.le_refl _) (Nat.le_refl _) rfl dL_areDays_33 (fun h S => ?_)
  refine ex_istore (lv' := [(6, .int (gv B.2.1)), (5, .int (B.2.2.2.1 8)), (4, .int (B.2.2.2.1 15 - u 15)), (3, .int (B.2.2.2.1 12 - u 12)), (2, .int (nI P)), (0, .ref b), (1, .int (nI k))]) dL_areDays_36 (by decide) rfl ?_
  refine ex_aload_n 5 dL_areDays_38 rfl rfl ?_
  refine ex_iconst (v := nI 0) dL_areDays_39 (by decide) ?_
  refine ex_ch (As := [.int (nI 0)]) (v := (-6)) (x2 := ((n, g, t, u, q), R)) vl_L_24 rfl S (c_next S wf ok1.m3) ((by rw [hn0])) rfl (by decide) (Nat.le_of_ble_eq_true rfl) (Nat.le_refl _) (Nat.le_refl _) rfl dL_areDays_40 (fun h S => ?_)
  refine ex_istore (lv' := [(7, .int (-6)), (6, .int (gv B.2.1)), (5, .int (B.2.2.2.1 8)), (4, .int (B.2.2.2.1 15 - u 15)), (3, .int (B.2.2.2.1 12 - u 12)), (2, .int (nI P)), (0, .ref b), (1, .int (nI k))]) dL_areDays_43 (by decide) rfl ?_
  refine ex_aload_n 6 dL_areDays_45 rfl rfl ?_
  refine ex_iconst (v := nI 1) dL_areDays_46 (by decide) ?_
  refine ex_ch (As := [.int (nI 1)]) (v := (-6)) (x2 := ((n, g, t, u, q), R)) vl_L_24 rfl S (c_next S wf ok1.m3) ((by rw [hn1])) rfl (by decide) (Nat.le_of_ble_eq_true rfl) (Nat.le_refl _) (Nat.le_refl _) rfl dL_areDays_47 (fun h S => ?_)
  refine ex_istore (lv' := [(8, .int (-6)), (7, .int (-6)), (6, .int (gv B.2.1)), (5, .int (B.2.2.2.1 8)), (4, .int (B.2.2.2.1 15 - u 15)), (3, .int (B.2.2.2.1 12 - u 12)), (2, .int (nI P)), (0, .ref b), (1, .int (nI k))]) dL_areDays_50 (by decide) rfl ?_
  refine ex_aload_n 7 dL_areDays_52 rfl rfl ?_
  refine ex_ch (As := []) (v := nI m) (x2 := ((n, g, t, u, q), R)) vl_L_27 rfl S (c_untilEmpty S wf ok1.m3) ((by rw [hu])) rfl (by decide) (Nat.le_of_ble_eq_true rfl) (Nat.le_refl _) (Nat.le_refl _) rfl dL_areDays_53 (fun h S => ?_)
  refine ex_istore (lv' := [(9, .int (nI m)), (8, .int (-6)), (7, .int (-6)), (6, .int (gv B.2.1)), (5, .int (B.2.2.2.1 8)), (4, .int (B.2.2.2.1 15 - u 15)), (3, .int (B.2.2.2.1 12 - u 12)), (2, .int (nI P)), (0, .ref b), (1, .int (nI k))]) dL_areDays_56 (by decide) rfl ?_
  refine ex_aload_n 8 dL_areDays_58 rfl rfl ?_
  refine ex_bipush (v := nI 13) dL_areDays_59 (by decide) ?_
  refine ex_cnt (k := 13) (v := u 12) vl_L_8 S wf (by decide) rfl (by decide) (Nat.le_of_ble_eq_true rfl) (Nat.le_refl _) (Nat.le_refl _) dL_areDays_61 (fun h S => ?_)
  refine ex_istore (lv' := [(10, .int (u 12)), (9, .int (nI m)), (8, .int (-6)), (7, .int (-6)), (6, .int (gv B.2.1)), (5, .int (B.2.2.2.1 8)), (4, .int (B.2.2.2.1 15 - u 15)), (3, .int (B.2.2.2.1 12 - u 12)), (2, .int (nI P)), (0, .ref b), (1, .int (nI k))]) dL_areDays_64 (by decide) rfl ?_
  refine ex_aload_n 9 dL_areDays_66 rfl rfl ?_
  refine ex_bipush (v := nI 16) dL_areDays_67 (by decide) ?_
  refine ex_cnt (k := 16) (v := u 15) vl_L_8 S wf (by decide) rfl (by decide) (Nat.le_of_ble_eq_true rfl) (Nat.le_refl _) (Nat.le_refl _) dL_areDays_69 (fun h S => ?_)
  refine ex_istore (lv' := [(11, .int (u 15)), (10, .int (u 12)), (9, .int (nI m)), (8, .int (-6)), (7, .int (-6)), (6, .int (gv B.2.1)), (5, .int (B.2.2.2.1 8)), (4, .int (B.2.2.2.1 15 - u 15)), (3, .int (B.2.2.2.1 12 - u 12)), (2, .int (nI P)), (0, .ref b), (1, .int (nI k))]) dL_areDays_72 (by decide) rfl ?_
  refine ex_iload 4 dL_areDays_74 rfl ?_
  refine ex_if_ge (tgt := 83) dL_areDays_76 (by decide) (fun c_76 => absurd c_76 (by decide)) (fun c_76 => ?_)
  refine ex_iconst (v := nI 0) dL_areDays_79 (by decide) ?_
  refine ex_goto (tgt := 91) dL_areDays_80 (by decide) ?_
  refine ex_istore (lv' := [(12, .int (nI 0)), (11, .int (u 15)), (10, .int (u 12)), (9, .int (nI m)), (8, .int (-6)), (7, .int (-6)), (6, .int (gv B.2.1)), (5, .int (B.2.2.2.1 8)), (4, .int (B.2.2.2.1 15 - u 15)), (3, .int (B.2.2.2.1 12 - u 12)), (2, .int (nI P)), (0, .ref b), (1, .int (nI k))]) dL_areDays_91 (by decide) rfl ?_
  refine ex_iload 5 dL_areDays_93 rfl ?_
  refine ex_if_ge (tgt := 102) dL_areDays_95 (by decide) (fun c_95 => absurd c_95 (by decide)) (fun c_95 => ?_)
  refine ex_iconst (v := nI 1) dL_areDays_98 (by decide) ?_
  refine ex_goto (tgt := 103) dL_areDays_99 (by decide) ?_
  refine ex_iload 4 dL_areDays_103 rfl ?_
  refine ex_if_ge (tgt := 112) dL_areDays_105 (by decide) (fun c_105 => absurd c_105 (by decide)) (fun c_105 => ?_)
  refine ex_iconst (v := nI 1) dL_areDays_108 (by decide) ?_
  refine ex_goto (tgt := 113) dL_areDays_109 (by decide) ?_
  refine ex_icmp_ne (tgt := 171) dL_areDays_113 (by decide) (fun c_113 => absurd (by decide) c_113) (fun c_113 => ?_)
  refine ex_iload 3 dL_areDays_116 rfl ?_
  refine ex_if_ne (tgt := 125) dL_areDays_118 (by decide) (fun c_118 => ?_) (fun c_118 => ?_)
  · have n_118 : ¬ (m = 0) := fun q9 => c_118 ((nI_eq (b := 0) (by omega) (by omega)).mpr q9)
    refine ex_iconst (v := nI 0) dL_areDays_125 (by decide) ?_
    refine ex_aload_n 11 dL_areDays_126 rfl rfl ?_
    refine ex_bipush (v := nI 11) dL_areDays_127 (by decide) ?_
    refine ex_cnt (k := 11) (v := u 11) vl_L_8 S wf (by decide) rfl (by decide) (Nat.le_of_ble_eq_true rfl) (Nat.le_refl _) (Nat.le_refl _) dL_areDays_129 (fun h S => ?_)
    refine ex_topi (y := nI a) (ha) ?_
    refine ex_if_ne (tgt := 139) dL_areDays_132 (by decide) (fun c_132 => ?_) (fun c_132 => ?_)
    · have n_132 : ¬ (a = 0) := fun q9 => c_132 ((nI_eq (b := 0) (by omega) (by omega)).mpr q9)
      refine ex_iconst (v := nI 0) dL_areDays_139 (by decide) ?_
      refine ex_icmp_ne (tgt := 171) dL_areDays_140 (by decide) (fun c_140 => absurd (by decide) c_140) (fun c_140 => ?_)
      refine ex_iload_n 10 dL_areDays_143 rfl rfl ?_
      refine ex_if_le (tgt := 151) dL_areDays_144 (by decide) (fun c_144 => ?_) (fun c_144 => ?_)
      · have n_144 : P ≤ 0 := (nI_leI (b := 0) (by omega) (by omega)).mp c_144
        refine ex_iconst (v := nI 0) dL_areDays_151 (by decide) ?_
        refine ex_iload 4 dL_areDays_152 rfl ?_
        refine ex_if_le (tgt := 167) dL_areDays_154 (by decide) (fun c_154 => ?_) (fun c_154 => absurd (by decide) c_154)
        refine ex_iconst (v := nI 0) dL_areDays_167 (by decide) ?_
        refine ex_icmp_eq (tgt := 173) dL_areDays_168 (by decide) (fun c_168 => ?_) (fun c_168 => absurd (by decide) c_168)
        refine ex_aload_n 11 dL_areDays_173 rfl rfl ?_
        refine ex_iload_n 12 dL_areDays_174 rfl rfl ?_
        refine ex_ch (As := [.int (nI k)]) (v := nI P) (x2 := (B, (recX ((n, g, t, u, q), R) A0).2)) vl_L_18 rfl S (c_pass S wf ok1.m3) (hps) rfl (by decide) (Nat.le_of_ble_eq_true rfl) (Nat.le_refl _) (Nat.le_refl _) rfl dL_areDays_175 (fun h S => ?_)
        refine ex_iload_n 10 dL_areDays_178 rfl rfl ?_
        refine ex_icmp_ne (tgt := 231) dL_areDays_179 (by decide) (fun c_179 => absurd (rfl) c_179) (fun c_179 => ?_)
        refine ex_aload_n 11 dL_areDays_182 rfl rfl ?_
        refine ex_bipush (v := nI 13) dL_areDays_183 (by decide) ?_
        refine ex_cnt (k := 13) (v := B.2.2.2.1 12) vl_L_8 S wfB (by decide) rfl (by decide) (Nat.le_of_ble_eq_true rfl) (Nat.le_refl _) (Nat.le_refl _) dL_areDays_185 (fun h S => ?_)
        refine ex_iload 2 dL_areDays_188 rfl ?_
        refine ex_iload_n 9 dL_areDays_190 rfl rfl ?_
        refine ex_iadd dL_areDays_191 ?_
        refine ex_icmp_ne (tgt := 231) dL_areDays_192 (by decide) (fun c_192 => absurd (rg8) c_192) (fun c_192 => ?_)
        refine ex_aload_n 11 dL_areDays_195 rfl rfl ?_
        refine ex_bipush (v := nI 16) dL_areDays_196 (by decide) ?_
        refine ex_cnt (k := 16) (v := B.2.2.2.1 15) vl_L_8 S wfB (by decide) rfl (by decide) (Nat.le_of_ble_eq_true rfl) (Nat.le_refl _) (Nat.le_refl _) dL_areDays_198 (fun h S => ?_)
        refine ex_iload 1 dL_areDays_201 rfl ?_
        refine ex_iload 8 dL_areDays_203 rfl ?_
        refine ex_iadd dL_areDays_205 ?_
        refine ex_icmp_ne (tgt := 231) dL_areDays_206 (by decide) (fun c_206 => absurd (rg8) c_206) (fun c_206 => ?_)
        refine ex_aload_n 11 dL_areDays_209 rfl rfl ?_
        refine ex_bipush (v := nI 8) dL_areDays_210 (by decide) ?_
        refine ex_cnt (k := 8) (v := B.2.2.2.1 8) vl_L_8 S wfB (by decide) rfl (by decide) (Nat.le_of_ble_eq_true rfl) (Nat.le_refl _) (Nat.le_refl _) dL_areDays_212 (fun h S => ?_)
        refine ex_iload 7 dL_areDays_215 rfl ?_
        refine ex_icmp_ne (tgt := 231) dL_areDays_217 (by decide) (fun c_217 => absurd (rfl) c_217) (fun c_217 => ?_)
        refine ex_aload_n 11 dL_areDays_220 rfl rfl ?_
        refine ex_bipush (v := nI 9) dL_areDays_221 (by decide) ?_
        refine ex_cnt (k := 9) (v := gv B.2.1) vl_L_8 S wfB (by decide) rfl (by decide) (Nat.le_of_ble_eq_true rfl) (Nat.le_refl _) (Nat.le_refl _) dL_areDays_223 (fun h S => ?_)
        refine ex_iload 6 dL_areDays_226 rfl ?_
        refine ex_icmp_eq (tgt := 233) dL_areDays_228 (by decide) (fun c_228 => ?_) (fun c_228 => absurd (rfl) c_228)
        refine ex_iload_n 10 dL_areDays_233 rfl rfl ?_
        refine ex_if_eq (tgt := 250) dL_areDays_234 (by decide) (fun c_234 => ?_) (fun c_234 => absurd (by rw [hP0]; rfl) c_234)
        refine ex_iload 3 dL_areDays_250 rfl ?_
        refine ex_if_lt (tgt := 265) dL_areDays_252 (by decide) (fun c_252 => absurd c_252 (nI_pos (by omega))) (fun c_252 => ?_)
        refine ex_iload 3 dL_areDays_255 rfl ?_
        refine ex_iload_n 12 dL_areDays_257 rfl rfl ?_
        refine ex_icmp_gt (tgt := 265) dL_areDays_258 (by decide) (fun c_258 => ?_) (fun c_258 => ?_)
        · have n_258 : k < m := (nI_ltI (by omega) (by omega)).mp c_258
          refine ex_iconst (v := nI 0) dL_areDays_265 (by decide) ?_
          refine ex_aload_n 11 dL_areDays_266 rfl rfl ?_
          refine ex_bipush (v := nI 11) dL_areDays_267 (by decide) ?_
          refine ex_cnt (k := 11) (v := B.2.2.2.1 11) vl_L_8 S wfB (by decide) rfl (by decide) (Nat.le_of_ble_eq_true rfl) (Nat.le_refl _) (Nat.le_refl _) dL_areDays_269 (fun h S => ?_)
          refine ex_topi (y := nI a2) (ha2) ?_
          refine ex_if_ne (tgt := 279) dL_areDays_272 (by decide) (fun c_272 => ?_) (fun c_272 => ?_)
          · have n_272 : ¬ (a2 = 0) := fun q9 => c_272 ((nI_eq (b := 0) (by omega) (by omega)).mpr q9)
            refine ex_iconst (v := nI 0) dL_areDays_279 (by decide) ?_
            refine ex_icmp_ne (tgt := 287) dL_areDays_280 (by decide) (fun c_280 => absurd (by decide) c_280) (fun c_280 => ?_)
            refine ex_iconst (v := nI 1) dL_areDays_283 (by decide) ?_
            refine ex_goto (tgt := 288) dL_areDays_284 (by decide) ?_
            exact ex_zret hQ rfl (by decide) ⟨rfl, rfl, S⟩ dL_areDays_288
          · have n_272 : a2 = 0 := (nI_eq (b := 0) (by omega) (by omega)).mp c_272
            refine ex_iconst (v := nI 1) dL_areDays_275 (by decide) ?_
            refine ex_goto (tgt := 280) dL_areDays_276 (by decide) ?_
            refine ex_icmp_ne (tgt := 287) dL_areDays_280 (by decide) (fun c_280 => ?_) (fun c_280 => absurd c_280 (by decide))
            exfalso
            omega
        · have n_258 : ¬ (k < m) := fun q9 => c_258 ((nI_ltI (by omega) (by omega)).mpr q9)
          refine ex_iconst (v := nI 1) dL_areDays_261 (by decide) ?_
          refine ex_goto (tgt := 266) dL_areDays_262 (by decide) ?_
          refine ex_aload_n 11 dL_areDays_266 rfl rfl ?_
          refine ex_bipush (v := nI 11) dL_areDays_267 (by decide) ?_
          refine ex_cnt (k := 11) (v := B.2.2.2.1 11) vl_L_8 S wfB (by decide) rfl (by decide) (Nat.le_of_ble_eq_true rfl) (Nat.le_refl _) (Nat.le_refl _) dL_areDays_269 (fun h S => ?_)
          refine ex_topi (y := nI a2) (ha2) ?_
          refine ex_if_ne (tgt := 279) dL_areDays_272 (by decide) (fun c_272 => ?_) (fun c_272 => ?_)
          · have n_272 : ¬ (a2 = 0) := fun q9 => c_272 ((nI_eq (b := 0) (by omega) (by omega)).mpr q9)
            refine ex_iconst (v := nI 0) dL_areDays_279 (by decide) ?_
            refine ex_icmp_ne (tgt := 287) dL_areDays_280 (by decide) (fun c_280 => ?_) (fun c_280 => absurd c_280 (by decide))
            exfalso
            omega
          · have n_272 : a2 = 0 := (nI_eq (b := 0) (by omega) (by omega)).mp c_272
            refine ex_iconst (v := nI 1) dL_areDays_275 (by decide) ?_
            refine ex_goto (tgt := 280) dL_areDays_276 (by decide) ?_
            refine ex_icmp_ne (tgt := 287) dL_areDays_280 (by decide) (fun c_280 => absurd (by decide) c_280) (fun c_280 => ?_)
            refine ex_iconst (v := nI 1) dL_areDays_283 (by decide) ?_
            refine ex_goto (tgt := 288) dL_areDays_284 (by decide) ?_
            exact ex_zret hQ rfl (by decide) ⟨rfl, rfl, S⟩ dL_areDays_288
      · have n_144 : ¬ (P ≤ 0) := fun q9 => c_144 ((nI_leI (b := 0) (by omega) (by omega)).mpr q9)
        refine ex_iconst (v := nI 1) dL_areDays_147 (by decide) ?_
        refine ex_goto (tgt := 152) dL_areDays_148 (by decide) ?_
        refine ex_iload 4 dL_areDays_152 rfl ?_
        refine ex_if_le (tgt := 167) dL_areDays_154 (by decide) (fun c_154 => ?_) (fun c_154 => absurd (by decide) c_154)
        refine ex_iconst (v := nI 0) dL_areDays_167 (by decide) ?_
        refine ex_icmp_eq (tgt := 173) dL_areDays_168 (by decide) (fun c_168 => absurd c_168 (by decide)) (fun c_168 => ?_)
        exfalso
        omega
    · have n_132 : a = 0 := (nI_eq (b := 0) (by omega) (by omega)).mp c_132
      refine ex_iconst (v := nI 1) dL_areDays_135 (by decide) ?_
      refine ex_goto (tgt := 140) dL_areDays_136 (by decide) ?_
      refine ex_icmp_ne (tgt := 171) dL_areDays_140 (by decide) (fun c_140 => ?_) (fun c_140 => absurd c_140 (by decide))
      exfalso
      omega
  · have n_118 : m = 0 := (nI_eq (b := 0) (by omega) (by omega)).mp c_118
    refine ex_iconst (v := nI 1) dL_areDays_121 (by decide) ?_
    refine ex_goto (tgt := 126) dL_areDays_122 (by decide) ?_
    refine ex_aload_n 11 dL_areDays_126 rfl rfl ?_
    refine ex_bipush (v := nI 11) dL_areDays_127 (by decide) ?_
    refine ex_cnt (k := 11) (v := u 11) vl_L_8 S wf (by decide) rfl (by decide) (Nat.le_of_ble_eq_true rfl) (Nat.le_refl _) (Nat.le_refl _) dL_areDays_129 (fun h S => ?_)
    refine ex_topi (y := nI a) (ha) ?_
    refine ex_if_ne (tgt := 139) dL_areDays_132 (by decide) (fun c_132 => ?_) (fun c_132 => ?_)
    · have n_132 : ¬ (a = 0) := fun q9 => c_132 ((nI_eq (b := 0) (by omega) (by omega)).mpr q9)
      refine ex_iconst (v := nI 0) dL_areDays_139 (by decide) ?_
      refine ex_icmp_ne (tgt := 171) dL_areDays_140 (by decide) (fun c_140 => ?_) (fun c_140 => absurd c_140 (by decide))
      exfalso
      omega
    · have n_132 : a = 0 := (nI_eq (b := 0) (by omega) (by omega)).mp c_132
      refine ex_iconst (v := nI 1) dL_areDays_135 (by decide) ?_
      refine ex_goto (tgt := 140) dL_areDays_136 (by decide) ?_
      refine ex_icmp_ne (tgt := 171) dL_areDays_140 (by decide) (fun c_140 => absurd (by decide) c_140) (fun c_140 => ?_)
      refine ex_iload_n 10 dL_areDays_143 rfl rfl ?_
      refine ex_if_le (tgt := 151) dL_areDays_144 (by decide) (fun c_144 => ?_) (fun c_144 => ?_)
      · have n_144 : P ≤ 0 := (nI_leI (b := 0) (by omega) (by omega)).mp c_144
        refine ex_iconst (v := nI 0) dL_areDays_151 (by decide) ?_
        refine ex_iload 4 dL_areDays_152 rfl ?_
        refine ex_if_le (tgt := 167) dL_areDays_154 (by decide) (fun c_154 => ?_) (fun c_154 => absurd (by decide) c_154)
        refine ex_iconst (v := nI 0) dL_areDays_167 (by decide) ?_
        refine ex_icmp_eq (tgt := 173) dL_areDays_168 (by decide) (fun c_168 => ?_) (fun c_168 => absurd (by decide) c_168)
        refine ex_aload_n 11 dL_areDays_173 rfl rfl ?_
        refine ex_iload_n 12 dL_areDays_174 rfl rfl ?_
        refine ex_ch (As := [.int (nI k)]) (v := nI P) (x2 := (B, (recX ((n, g, t, u, q), R) A0).2)) vl_L_18 rfl S (c_pass S wf ok1.m3) (hps) rfl (by decide) (Nat.le_of_ble_eq_true rfl) (Nat.le_refl _) (Nat.le_refl _) rfl dL_areDays_175 (fun h S => ?_)
        refine ex_iload_n 10 dL_areDays_178 rfl rfl ?_
        refine ex_icmp_ne (tgt := 231) dL_areDays_179 (by decide) (fun c_179 => absurd (rfl) c_179) (fun c_179 => ?_)
        refine ex_aload_n 11 dL_areDays_182 rfl rfl ?_
        refine ex_bipush (v := nI 13) dL_areDays_183 (by decide) ?_
        refine ex_cnt (k := 13) (v := B.2.2.2.1 12) vl_L_8 S wfB (by decide) rfl (by decide) (Nat.le_of_ble_eq_true rfl) (Nat.le_refl _) (Nat.le_refl _) dL_areDays_185 (fun h S => ?_)
        refine ex_iload 2 dL_areDays_188 rfl ?_
        refine ex_iload_n 9 dL_areDays_190 rfl rfl ?_
        refine ex_iadd dL_areDays_191 ?_
        refine ex_icmp_ne (tgt := 231) dL_areDays_192 (by decide) (fun c_192 => absurd (rg8) c_192) (fun c_192 => ?_)
        refine ex_aload_n 11 dL_areDays_195 rfl rfl ?_
        refine ex_bipush (v := nI 16) dL_areDays_196 (by decide) ?_
        refine ex_cnt (k := 16) (v := B.2.2.2.1 15) vl_L_8 S wfB (by decide) rfl (by decide) (Nat.le_of_ble_eq_true rfl) (Nat.le_refl _) (Nat.le_refl _) dL_areDays_198 (fun h S => ?_)
        refine ex_iload 1 dL_areDays_201 rfl ?_
        refine ex_iload 8 dL_areDays_203 rfl ?_
        refine ex_iadd dL_areDays_205 ?_
        refine ex_icmp_ne (tgt := 231) dL_areDays_206 (by decide) (fun c_206 => absurd (rg8) c_206) (fun c_206 => ?_)
        refine ex_aload_n 11 dL_areDays_209 rfl rfl ?_
        refine ex_bipush (v := nI 8) dL_areDays_210 (by decide) ?_
        refine ex_cnt (k := 8) (v := B.2.2.2.1 8) vl_L_8 S wfB (by decide) rfl (by decide) (Nat.le_of_ble_eq_true rfl) (Nat.le_refl _) (Nat.le_refl _) dL_areDays_212 (fun h S => ?_)
        refine ex_iload 7 dL_areDays_215 rfl ?_
        refine ex_icmp_ne (tgt := 231) dL_areDays_217 (by decide) (fun c_217 => absurd (rfl) c_217) (fun c_217 => ?_)
        refine ex_aload_n 11 dL_areDays_220 rfl rfl ?_
        refine ex_bipush (v := nI 9) dL_areDays_221 (by decide) ?_
        refine ex_cnt (k := 9) (v := gv B.2.1) vl_L_8 S wfB (by decide) rfl (by decide) (Nat.le_of_ble_eq_true rfl) (Nat.le_refl _) (Nat.le_refl _) dL_areDays_223 (fun h S => ?_)
        refine ex_iload 6 dL_areDays_226 rfl ?_
        refine ex_icmp_eq (tgt := 233) dL_areDays_228 (by decide) (fun c_228 => ?_) (fun c_228 => absurd (rfl) c_228)
        refine ex_iload_n 10 dL_areDays_233 rfl rfl ?_
        refine ex_if_eq (tgt := 250) dL_areDays_234 (by decide) (fun c_234 => ?_) (fun c_234 => absurd (by rw [hP0]; rfl) c_234)
        refine ex_iload 3 dL_areDays_250 rfl ?_
        refine ex_if_lt (tgt := 265) dL_areDays_252 (by decide) (fun c_252 => absurd c_252 (nI_pos (by omega))) (fun c_252 => ?_)
        refine ex_iload 3 dL_areDays_255 rfl ?_
        refine ex_iload_n 12 dL_areDays_257 rfl rfl ?_
        refine ex_icmp_gt (tgt := 265) dL_areDays_258 (by decide) (fun c_258 => ?_) (fun c_258 => ?_)
        · have n_258 : k < m := (nI_ltI (by omega) (by omega)).mp c_258
          refine ex_iconst (v := nI 0) dL_areDays_265 (by decide) ?_
          refine ex_aload_n 11 dL_areDays_266 rfl rfl ?_
          refine ex_bipush (v := nI 11) dL_areDays_267 (by decide) ?_
          refine ex_cnt (k := 11) (v := B.2.2.2.1 11) vl_L_8 S wfB (by decide) rfl (by decide) (Nat.le_of_ble_eq_true rfl) (Nat.le_refl _) (Nat.le_refl _) dL_areDays_269 (fun h S => ?_)
          refine ex_topi (y := nI a2) (ha2) ?_
          refine ex_if_ne (tgt := 279) dL_areDays_272 (by decide) (fun c_272 => ?_) (fun c_272 => ?_)
          · have n_272 : ¬ (a2 = 0) := fun q9 => c_272 ((nI_eq (b := 0) (by omega) (by omega)).mpr q9)
            refine ex_iconst (v := nI 0) dL_areDays_279 (by decide) ?_
            refine ex_icmp_ne (tgt := 287) dL_areDays_280 (by decide) (fun c_280 => absurd (by decide) c_280) (fun c_280 => ?_)
            refine ex_iconst (v := nI 1) dL_areDays_283 (by decide) ?_
            refine ex_goto (tgt := 288) dL_areDays_284 (by decide) ?_
            exact ex_zret hQ rfl (by decide) ⟨rfl, rfl, S⟩ dL_areDays_288
          · have n_272 : a2 = 0 := (nI_eq (b := 0) (by omega) (by omega)).mp c_272
            refine ex_iconst (v := nI 1) dL_areDays_275 (by decide) ?_
            refine ex_goto (tgt := 280) dL_areDays_276 (by decide) ?_
            refine ex_icmp_ne (tgt := 287) dL_areDays_280 (by decide) (fun c_280 => ?_) (fun c_280 => absurd c_280 (by decide))
            exfalso
            omega
        · have n_258 : ¬ (k < m) := fun q9 => c_258 ((nI_ltI (by omega) (by omega)).mpr q9)
          refine ex_iconst (v := nI 1) dL_areDays_261 (by decide) ?_
          refine ex_goto (tgt := 266) dL_areDays_262 (by decide) ?_
          refine ex_aload_n 11 dL_areDays_266 rfl rfl ?_
          refine ex_bipush (v := nI 11) dL_areDays_267 (by decide) ?_
          refine ex_cnt (k := 11) (v := B.2.2.2.1 11) vl_L_8 S wfB (by decide) rfl (by decide) (Nat.le_of_ble_eq_true rfl) (Nat.le_refl _) (Nat.le_refl _) dL_areDays_269 (fun h S => ?_)
          refine ex_topi (y := nI a2) (ha2) ?_
          refine ex_if_ne (tgt := 279) dL_areDays_272 (by decide) (fun c_272 => ?_) (fun c_272 => ?_)
          · have n_272 : ¬ (a2 = 0) := fun q9 => c_272 ((nI_eq (b := 0) (by omega) (by omega)).mpr q9)
            refine ex_iconst (v := nI 0) dL_areDays_279 (by decide) ?_
            refine ex_icmp_ne (tgt := 287) dL_areDays_280 (by decide) (fun c_280 => ?_) (fun c_280 => absurd c_280 (by decide))
            exfalso
            omega
          · have n_272 : a2 = 0 := (nI_eq (b := 0) (by omega) (by omega)).mp c_272
            refine ex_iconst (v := nI 1) dL_areDays_275 (by decide) ?_
            refine ex_goto (tgt := 280) dL_areDays_276 (by decide) ?_
            refine ex_icmp_ne (tgt := 287) dL_areDays_280 (by decide) (fun c_280 => absurd (by decide) c_280) (fun c_280 => ?_)
            refine ex_iconst (v := nI 1) dL_areDays_283 (by decide) ?_
            refine ex_goto (tgt := 288) dL_areDays_284 (by decide) ?_
            exact ex_zret hQ rfl (by decide) ⟨rfl, rfl, S⟩ dL_areDays_288
      · have n_144 : ¬ (P ≤ 0) := fun q9 => c_144 ((nI_leI (b := 0) (by omega) (by omega)).mpr q9)
        refine ex_iconst (v := nI 1) dL_areDays_147 (by decide) ?_
        refine ex_goto (tgt := 152) dL_areDays_148 (by decide) ?_
        refine ex_iload 4 dL_areDays_152 rfl ?_
        refine ex_if_le (tgt := 167) dL_areDays_154 (by decide) (fun c_154 => ?_) (fun c_154 => absurd (by decide) c_154)
        refine ex_iconst (v := nI 0) dL_areDays_167 (by decide) ?_
        refine ex_icmp_eq (tgt := 173) dL_areDays_168 (by decide) (fun c_168 => absurd c_168 (by decide)) (fun c_168 => ?_)
        exfalso
        omega

set_option maxRecDepth 20000 in
set_option maxHeartbeats 2000000 in
theorem c_areDaysNN {G : GG} {l : Launch} {h0 : HP} {z b : Nat} {n : Nat} {t : Nat} {u : Nat → Int32} {q : Nat → Nat → Int32} {R : RX} {K : Nat} {g : Option Nat} {k P a a2 : Nat} {B : AS} (hP0 : P = 0) (hz : ¬ a = 0) (hz2 : ¬ a2 = 0) (hk : 1 ≤ k) (hk9 : k ≤ 99) (hPk : P ≤ k) (ha : u 11 = nI a) (ha9 : a < 2 ^ 30) (ha2 : B.2.2.2.1 11 = nI a2) (ha29 : a2 < 2 ^ 30) (wfB : wfA B) (hp : ∀ w, w < 5 → X_ifPassed ((n, g, t, u, q), R) (nI k) (nI w) = ifpN (n, g, t, u, q) B w) (h13 : B.2.2.2.1 13 - u 13 = nI P) (hps : X_pass ((n, g, t, u, q), R) (nI k) = (nI P, (B, (recX ((n, g, t, u, q), R) A0).2))) (hn0 : X_next ((n, g, t, u, q), R) (nI 0) = -6) (hn1 : X_next ((n, g, t, u, q), R) (nI 1) = -6) (hu : X_untilEmpty ((n, g, t, u, q), R) = -6) (S0 : PP G h0 z b ((n, g, t, u, q), R)) (ok : iv K (n, g, t, u, q)) (hK : K < 2 ^ 23) : Ct G l 6 0 0 yL_areDays cL_areDays 13 (some .boolean) [.ref b, .int (nI k)] h0 z (pL G b z (X_pass ((n, g, t, u, q), R) (nI k)).2) := by
  refine Ct.intro (lv := [(0, .ref b), (1, .int (nI k))]) (by decide +kernel) (Nat.le_of_ble_eq_true rfl) rfl (fun X Q hQ hnm => ?_)
  have S := S0
  have wf : wfA (n, g, t, u, q) := ok.1.1
  have n8 : n ≤ 8 := wf.1
  have tw : t < n ∨ t = 0 := wf.2.2
  have ok1 := ok.1
  have ow := ok.2
  have hps2 := hps
  rw [hps2] at hQ
  refine ex_aload_n 0 dL_areDays_0 rfl rfl ?_
  refine ex_iload_n 1 dL_areDays_1 rfl rfl ?_
  refine ex_iconst (v := nI 0) dL_areDays_2 (by decide) ?_
  refine ex_ch (As := [.int (nI k), .int (nI 0)]) (v := nI P) (x2 := ((n, g, t, u, q), R)) vl_L_21 rfl S (c_ifPassed S wf ok1.m3) ((by rw [hp 0 (by omega)]; exact congrArg (fun y => (y, ((n, g, t, u, q), R))) h13)) rfl (by decide) (Nat.le_of_ble_eq_true rfl) (Nat.le_refl _) (Nat.le_refl _) rfl dL_areDays_3 (fun h S => ?_)
  refine ex_istore_n (lv' := [(2, .int (nI P)), (0, .ref b), (1, .int (nI k))]) dL_areDays_6 rfl (by decide) rfl ?_
  refine ex_aload_n 1 dL_areDays_7 rfl rfl ?_
  refine ex_iload_n 2 dL_areDays_8 rfl rfl ?_
  refine ex_iconst (v := nI 1) dL_areDays_9 (by decide) ?_
  refine ex_ch (As := [.int (nI k), .int (nI 1)]) (v := B.2.2.2.1 12 - u 12) (x2 := ((n, g, t, u, q), R)) vl_L_21 rfl S (c_ifPassed S wf ok1.m3) ((by rw [hp 1 (by omega)]; rfl)) rfl (by decide) (Nat.le_of_ble_eq_true rfl) (Nat.le_refl _) (Nat.le_refl _) rfl dL_areDays_10 (fun h S => ?_)
  refine ex_istore_n (lv' := [(3, .int (B.2.2.2.1 12 - u 12)), (2, .int (nI P)), (0, .ref b), (1, .int (nI k))]) dL_areDays_13 rfl (by decide) rfl ?_
  refine ex_aload_n 2 dL_areDays_14 rfl rfl ?_
  refine ex_iload_n 3 dL_areDays_15 rfl rfl ?_
  refine ex_iconst (v := nI 2) dL_areDays_16 (by decide) ?_
  refine ex_ch (As := [.int (nI k), .int (nI 2)]) (v := B.2.2.2.1 15 - u 15) (x2 := ((n, g, t, u, q), R)) vl_L_21 rfl S (c_ifPassed S wf ok1.m3) ((by rw [hp 2 (by omega)]; rfl)) rfl (by decide) (Nat.le_of_ble_eq_true rfl) (Nat.le_refl _) (Nat.le_refl _) rfl dL_areDays_17 (fun h S => ?_)
  refine ex_istore (lv' := [(4, .int (B.2.2.2.1 15 - u 15)), (3, .int (B.2.2.2.1 12 - u 12)), (2, .int (nI P)), (0, .ref b), (1, .int (nI k))]) dL_areDays_20 (by decide) rfl ?_
  refine ex_aload_n 3 dL_areDays_22 rfl rfl ?_
  refine ex_iload_n 4 dL_areDays_23 rfl rfl ?_
  refine ex_iconst (v := nI 3) dL_areDays_24 (by decide) ?_
  refine ex_ch (As := [.int (nI k), .int (nI 3)]) (v := B.2.2.2.1 8) (x2 := ((n, g, t, u, q), R)) vl_L_21 rfl S (c_ifPassed S wf ok1.m3) ((by rw [hp 3 (by omega)]; rfl)) rfl (by decide) (Nat.le_of_ble_eq_true rfl) (Nat.le_refl _) (Nat.le_refl _) rfl dL_areDays_25 (fun h S => ?_)
  refine ex_istore (lv' := [(5, .int (B.2.2.2.1 8)), (4, .int (B.2.2.2.1 15 - u 15)), (3, .int (B.2.2.2.1 12 - u 12)), (2, .int (nI P)), (0, .ref b), (1, .int (nI k))]) dL_areDays_28 (by decide) rfl ?_
  refine ex_aload_n 4 dL_areDays_30 rfl rfl ?_
  refine ex_iload_n 5 dL_areDays_31 rfl rfl ?_
  refine ex_iconst (v := nI 4) dL_areDays_32 (by decide) ?_
  refine ex_ch (As := [.int (nI k), .int (nI 4)]) (v := gv B.2.1) (x2 := ((n, g, t, u, q), R)) vl_L_21 rfl S (c_ifPassed S wf ok1.m3) ((by rw [hp 4 (by omega)]; rfl)) rfl (by decide) (Nat.le_of_ble_eq_true rfl) (Nat.le_refl _) (Nat.le_refl _) rfl dL_areDays_33 (fun h S => ?_)
  refine ex_istore (lv' := [(6, .int (gv B.2.1)), (5, .int (B.2.2.2.1 8)), (4, .int (B.2.2.2.1 15 - u 15)), (3, .int (B.2.2.2.1 12 - u 12)), (2, .int (nI P)), (0, .ref b), (1, .int (nI k))]) dL_areDays_36 (by decide) rfl ?_
  refine ex_aload_n 5 dL_areDays_38 rfl rfl ?_
  refine ex_iconst (v := nI 0) dL_areDays_39 (by decide) ?_
  refine ex_ch (As := [.int (nI 0)]) (v := (-6)) (x2 := ((n, g, t, u, q), R)) vl_L_24 rfl S (c_next S wf ok1.m3) ((by rw [hn0])) rfl (by decide) (Nat.le_of_ble_eq_true rfl) (Nat.le_refl _) (Nat.le_refl _) rfl dL_areDays_40 (fun h S => ?_)
  refine ex_istore (lv' := [(7, .int (-6)), (6, .int (gv B.2.1)), (5, .int (B.2.2.2.1 8)), (4, .int (B.2.2.2.1 15 - u 15)), (3, .int (B.2.2.2.1 12 - u 12)), (2, .int (nI P)), (0, .ref b), (1, .int (nI k))]) dL_areDays_43 (by decide) rfl ?_
  refine ex_aload_n 6 dL_areDays_45 rfl rfl ?_
  refine ex_iconst (v := nI 1) dL_areDays_46 (by decide) ?_
  refine ex_ch (As := [.int (nI 1)]) (v := (-6)) (x2 := ((n, g, t, u, q), R)) vl_L_24 rfl S (c_next S wf ok1.m3) ((by rw [hn1])) rfl (by decide) (Nat.le_of_ble_eq_true rfl) (Nat.le_refl _) (Nat.le_refl _) rfl dL_areDays_47 (fun h S => ?_)
  refine ex_istore (lv' := [(8, .int (-6)), (7, .int (-6)), (6, .int (gv B.2.1)), (5, .int (B.2.2.2.1 8)), (4, .int (B.2.2.2.1 15 - u 15)), (3, .int (B.2.2.2.1 12 - u 12)), (2, .int (nI P)), (0, .ref b), (1, .int (nI k))]) dL_areDays_50 (by decide) rfl ?_
  refine ex_aload_n 7 dL_areDays_52 rfl rfl ?_
  refine ex_ch (As := []) (v := (-6)) (x2 := ((n, g, t, u, q), R)) vl_L_27 rfl S (c_untilEmpty S wf ok1.m3) ((by rw [hu])) rfl (by decide) (Nat.le_of_ble_eq_true rfl) (Nat.le_refl _) (Nat.le_refl _) rfl dL_areDays_53 (fun h S => ?_)
  refine ex_istore (lv' := [(9, .int (-6)), (8, .int (-6)), (7, .int (-6)), (6, .int (gv B.2.1)), (5, .int (B.2.2.2.1 8)), (4, .int (B.2.2.2.1 15 - u 15)), (3, .int (B.2.2.2.1 12 - u 12)), (2, .int (nI P)), (0, .ref b), (1, .int (nI k))]) dL_areDays_56 (by decide) rfl ?_
  refine ex_aload_n 8 dL_areDays_58 rfl rfl ?_
  refine ex_bipush (v := nI 13) dL_areDays_59 (by decide) ?_
  refine ex_cnt (k := 13) (v := u 12) vl_L_8 S wf (by decide) rfl (by decide) (Nat.le_of_ble_eq_true rfl) (Nat.le_refl _) (Nat.le_refl _) dL_areDays_61 (fun h S => ?_)
  refine ex_istore (lv' := [(10, .int (u 12)), (9, .int (-6)), (8, .int (-6)), (7, .int (-6)), (6, .int (gv B.2.1)), (5, .int (B.2.2.2.1 8)), (4, .int (B.2.2.2.1 15 - u 15)), (3, .int (B.2.2.2.1 12 - u 12)), (2, .int (nI P)), (0, .ref b), (1, .int (nI k))]) dL_areDays_64 (by decide) rfl ?_
  refine ex_aload_n 9 dL_areDays_66 rfl rfl ?_
  refine ex_bipush (v := nI 16) dL_areDays_67 (by decide) ?_
  refine ex_cnt (k := 16) (v := u 15) vl_L_8 S wf (by decide) rfl (by decide) (Nat.le_of_ble_eq_true rfl) (Nat.le_refl _) (Nat.le_refl _) dL_areDays_69 (fun h S => ?_)
  refine ex_istore (lv' := [(11, .int (u 15)), (10, .int (u 12)), (9, .int (-6)), (8, .int (-6)), (7, .int (-6)), (6, .int (gv B.2.1)), (5, .int (B.2.2.2.1 8)), (4, .int (B.2.2.2.1 15 - u 15)), (3, .int (B.2.2.2.1 12 - u 12)), (2, .int (nI P)), (0, .ref b), (1, .int (nI k))]) dL_areDays_72 (by decide) rfl ?_
  refine ex_iload 4 dL_areDays_74 rfl ?_
  refine ex_if_ge (tgt := 83) dL_areDays_76 (by decide) (fun c_76 => absurd c_76 (by decide)) (fun c_76 => ?_)
  refine ex_iconst (v := nI 0) dL_areDays_79 (by decide) ?_
  refine ex_goto (tgt := 91) dL_areDays_80 (by decide) ?_
  refine ex_istore (lv' := [(12, .int (nI 0)), (11, .int (u 15)), (10, .int (u 12)), (9, .int (-6)), (8, .int (-6)), (7, .int (-6)), (6, .int (gv B.2.1)), (5, .int (B.2.2.2.1 8)), (4, .int (B.2.2.2.1 15 - u 15)), (3, .int (B.2.2.2.1 12 - u 12)), (2, .int (nI P)), (0, .ref b), (1, .int (nI k))]) dL_areDays_91 (by decide) rfl ?_
  refine ex_iload 5 dL_areDays_93 rfl ?_
  refine ex_if_ge (tgt := 102) dL_areDays_95 (by decide) (fun c_95 => absurd c_95 (by decide)) (fun c_95 => ?_)
  refine ex_iconst (v := nI 1) dL_areDays_98 (by decide) ?_
  refine ex_goto (tgt := 103) dL_areDays_99 (by decide) ?_
  refine ex_iload 4 dL_areDays_103 rfl ?_
  refine ex_if_ge (tgt := 112) dL_areDays_105 (by decide) (fun c_105 => absurd c_105 (by decide)) (fun c_105 => ?_)
  refine ex_iconst (v := nI 1) dL_areDays_108 (by decide) ?_
  refine ex_goto (tgt := 113) dL_areDays_109 (by decide) ?_
  refine ex_icmp_ne (tgt := 171) dL_areDays_113 (by decide) (fun c_113 => absurd (by decide) c_113) (fun c_113 => ?_)
  refine ex_iload 3 dL_areDays_116 rfl ?_
  refine ex_if_ne (tgt := 125) dL_areDays_118 (by decide) (fun c_118 => ?_) (fun c_118 => absurd c_118 (by decide))
  refine ex_iconst (v := nI 0) dL_areDays_125 (by decide) ?_
  refine ex_aload_n 11 dL_areDays_126 rfl rfl ?_
  refine ex_bipush (v := nI 11) dL_areDays_127 (by decide) ?_
  refine ex_cnt (k := 11) (v := u 11) vl_L_8 S wf (by decide) rfl (by decide) (Nat.le_of_ble_eq_true rfl) (Nat.le_refl _) (Nat.le_refl _) dL_areDays_129 (fun h S => ?_)
  refine ex_topi (y := nI a) (ha) ?_
  refine ex_if_ne (tgt := 139) dL_areDays_132 (by decide) (fun c_132 => ?_) (fun c_132 => ?_)
  · have n_132 : ¬ (a = 0) := fun q9 => c_132 ((nI_eq (b := 0) (by omega) (by omega)).mpr q9)
    refine ex_iconst (v := nI 0) dL_areDays_139 (by decide) ?_
    refine ex_icmp_ne (tgt := 171) dL_areDays_140 (by decide) (fun c_140 => absurd (by decide) c_140) (fun c_140 => ?_)
    refine ex_iload_n 10 dL_areDays_143 rfl rfl ?_
    refine ex_if_le (tgt := 151) dL_areDays_144 (by decide) (fun c_144 => ?_) (fun c_144 => ?_)
    · have n_144 : P ≤ 0 := (nI_leI (b := 0) (by omega) (by omega)).mp c_144
      refine ex_iconst (v := nI 0) dL_areDays_151 (by decide) ?_
      refine ex_iload 4 dL_areDays_152 rfl ?_
      refine ex_if_le (tgt := 167) dL_areDays_154 (by decide) (fun c_154 => ?_) (fun c_154 => absurd (by decide) c_154)
      refine ex_iconst (v := nI 0) dL_areDays_167 (by decide) ?_
      refine ex_icmp_eq (tgt := 173) dL_areDays_168 (by decide) (fun c_168 => ?_) (fun c_168 => absurd (by decide) c_168)
      refine ex_aload_n 11 dL_areDays_173 rfl rfl ?_
      refine ex_iload_n 12 dL_areDays_174 rfl rfl ?_
      refine ex_ch (As := [.int (nI k)]) (v := nI P) (x2 := (B, (recX ((n, g, t, u, q), R) A0).2)) vl_L_18 rfl S (c_pass S wf ok1.m3) (hps) rfl (by decide) (Nat.le_of_ble_eq_true rfl) (Nat.le_refl _) (Nat.le_refl _) rfl dL_areDays_175 (fun h S => ?_)
      refine ex_iload_n 10 dL_areDays_178 rfl rfl ?_
      refine ex_icmp_ne (tgt := 231) dL_areDays_179 (by decide) (fun c_179 => absurd (rfl) c_179) (fun c_179 => ?_)
      refine ex_aload_n 11 dL_areDays_182 rfl rfl ?_
      refine ex_bipush (v := nI 13) dL_areDays_183 (by decide) ?_
      refine ex_cnt (k := 13) (v := B.2.2.2.1 12) vl_L_8 S wfB (by decide) rfl (by decide) (Nat.le_of_ble_eq_true rfl) (Nat.le_refl _) (Nat.le_refl _) dL_areDays_185 (fun h S => ?_)
      refine ex_iload 2 dL_areDays_188 rfl ?_
      refine ex_iload_n 9 dL_areDays_190 rfl rfl ?_
      refine ex_iadd dL_areDays_191 ?_
      refine ex_icmp_ne (tgt := 231) dL_areDays_192 (by decide) (fun c_192 => absurd (rg8) c_192) (fun c_192 => ?_)
      refine ex_aload_n 11 dL_areDays_195 rfl rfl ?_
      refine ex_bipush (v := nI 16) dL_areDays_196 (by decide) ?_
      refine ex_cnt (k := 16) (v := B.2.2.2.1 15) vl_L_8 S wfB (by decide) rfl (by decide) (Nat.le_of_ble_eq_true rfl) (Nat.le_refl _) (Nat.le_refl _) dL_areDays_198 (fun h S => ?_)
      refine ex_iload 1 dL_areDays_201 rfl ?_
      refine ex_iload 8 dL_areDays_203 rfl ?_
      refine ex_iadd dL_areDays_205 ?_
      refine ex_icmp_ne (tgt := 231) dL_areDays_206 (by decide) (fun c_206 => absurd (rg8) c_206) (fun c_206 => ?_)
      refine ex_aload_n 11 dL_areDays_209 rfl rfl ?_
      refine ex_bipush (v := nI 8) dL_areDays_210 (by decide) ?_
      refine ex_cnt (k := 8) (v := B.2.2.2.1 8) vl_L_8 S wfB (by decide) rfl (by decide) (Nat.le_of_ble_eq_true rfl) (Nat.le_refl _) (Nat.le_refl _) dL_areDays_212 (fun h S => ?_)
      refine ex_iload 7 dL_areDays_215 rfl ?_
      refine ex_icmp_ne (tgt := 231) dL_areDays_217 (by decide) (fun c_217 => absurd (rfl) c_217) (fun c_217 => ?_)
      refine ex_aload_n 11 dL_areDays_220 rfl rfl ?_
      refine ex_bipush (v := nI 9) dL_areDays_221 (by decide) ?_
      refine ex_cnt (k := 9) (v := gv B.2.1) vl_L_8 S wfB (by decide) rfl (by decide) (Nat.le_of_ble_eq_true rfl) (Nat.le_refl _) (Nat.le_refl _) dL_areDays_223 (fun h S => ?_)
      refine ex_iload 6 dL_areDays_226 rfl ?_
      refine ex_icmp_eq (tgt := 233) dL_areDays_228 (by decide) (fun c_228 => ?_) (fun c_228 => absurd (rfl) c_228)
      refine ex_iload_n 10 dL_areDays_233 rfl rfl ?_
      refine ex_if_eq (tgt := 250) dL_areDays_234 (by decide) (fun c_234 => ?_) (fun c_234 => absurd (by rw [hP0]; rfl) c_234)
      refine ex_iload 3 dL_areDays_250 rfl ?_
      refine ex_if_lt (tgt := 265) dL_areDays_252 (by decide) (fun c_252 => ?_) (fun c_252 => absurd (by decide) c_252)
      refine ex_iconst (v := nI 0) dL_areDays_265 (by decide) ?_
      refine ex_aload_n 11 dL_areDays_266 rfl rfl ?_
      refine ex_bipush (v := nI 11) dL_areDays_267 (by decide) ?_
      refine ex_cnt (k := 11) (v := B.2.2.2.1 11) vl_L_8 S wfB (by decide) rfl (by decide) (Nat.le_of_ble_eq_true rfl) (Nat.le_refl _) (Nat.le_refl _) dL_areDays_269 (fun h S => ?_)
      refine ex_topi (y := nI a2) (ha2) ?_
      refine ex_if_ne (tgt := 279) dL_areDays_272 (by decide) (fun c_272 => ?_) (fun c_272 => ?_)
      · have n_272 : ¬ (a2 = 0) := fun q9 => c_272 ((nI_eq (b := 0) (by omega) (by omega)).mpr q9)
        refine ex_iconst (v := nI 0) dL_areDays_279 (by decide) ?_
        refine ex_icmp_ne (tgt := 287) dL_areDays_280 (by decide) (fun c_280 => absurd (by decide) c_280) (fun c_280 => ?_)
        refine ex_iconst (v := nI 1) dL_areDays_283 (by decide) ?_
        refine ex_goto (tgt := 288) dL_areDays_284 (by decide) ?_
        exact ex_zret hQ rfl (by decide) ⟨rfl, rfl, S⟩ dL_areDays_288
      · have n_272 : a2 = 0 := (nI_eq (b := 0) (by omega) (by omega)).mp c_272
        refine ex_iconst (v := nI 1) dL_areDays_275 (by decide) ?_
        refine ex_goto (tgt := 280) dL_areDays_276 (by decide) ?_
        refine ex_icmp_ne (tgt := 287) dL_areDays_280 (by decide) (fun c_280 => ?_) (fun c_280 => absurd c_280 (by decide))
        exfalso
        omega
    · have n_144 : ¬ (P ≤ 0) := fun q9 => c_144 ((nI_leI (b := 0) (by omega) (by omega)).mpr q9)
      refine ex_iconst (v := nI 1) dL_areDays_147 (by decide) ?_
      refine ex_goto (tgt := 152) dL_areDays_148 (by decide) ?_
      refine ex_iload 4 dL_areDays_152 rfl ?_
      refine ex_if_le (tgt := 167) dL_areDays_154 (by decide) (fun c_154 => ?_) (fun c_154 => absurd (by decide) c_154)
      refine ex_iconst (v := nI 0) dL_areDays_167 (by decide) ?_
      refine ex_icmp_eq (tgt := 173) dL_areDays_168 (by decide) (fun c_168 => absurd c_168 (by decide)) (fun c_168 => ?_)
      exfalso
      omega
  · have n_132 : a = 0 := (nI_eq (b := 0) (by omega) (by omega)).mp c_132
    refine ex_iconst (v := nI 1) dL_areDays_135 (by decide) ?_
    refine ex_goto (tgt := 140) dL_areDays_136 (by decide) ?_
    refine ex_icmp_ne (tgt := 171) dL_areDays_140 (by decide) (fun c_140 => ?_) (fun c_140 => absurd c_140 (by decide))
    exfalso
    omega

theorem c_areDays {G : GG} {l : Launch} {h0 : HP} {z b K k : Nat} {x : CX} (hk : 1 ≤ k) (hk9 : k ≤ 99) (S0 : PP G h0 z b x) (ok : iv K x.1) (hK : K < 2 ^ 23) (hd : ¬ nI 9800 < x.1.2.2.2.1 6) : Ct G l 6 0 0 yL_areDays cL_areDays 13 (some .boolean) [.ref b, .int (nI k)] h0 z (pL G b z (X_pass x (nI k)).2) := by
  obtain ⟨⟨n, g, t, u, q⟩, R⟩ := x
  have hd1 := d_ok ok hK hd (k := k) (by omega)
  have hps := X_pass_k (x := ((n, g, t, u, q), R)) hk hk9 hd1
  have okB := itA_iv ok k (by omega)
  have hp : ∀ w, w < 5 → X_ifPassed ((n, g, t, u, q), R) (nI k) (nI w) = ifpN (n, g, t, u, q) (itA k (n, g, t, u, q)) w := fun w hw => X_ifPassed_k hk (by omega) hw
  have h13 : (itA k (n, g, t, u, q)).2.2.2.1 13 - u 13 = nI (pcN (n, g, t, u, q) k) := pcN_sub
  have hPk := pcN_le (A := (n, g, t, u, q)) k
  have hB1 : (itA k (n, g, t, u, q)).1 = n := itA_1 k
  have hps2 : X_pass ((n, g, t, u, q), R) (nI k) = (nI (pcN (n, g, t, u, q) k), (itA k (n, g, t, u, q), (recX ((n, g, t, u, q), R) A0).2)) := hps.trans (Prod.ext h13 rfl)
  obtain ⟨a, ha, ha9⟩ := ok.1.2.2.2.1
  obtain ⟨a2, ha2, ha29⟩ := okB.1.2.2.2.1
  have e0 : ∀ c : Nat, c < 2 ^ 30 → ((nI c = 0) ↔ c = 0) := fun c hc => nI_eq (b := 0) (by omega) (by omega)
  have hz1 : ∀ m, (itA m (n, g, t, u, q)).2.2.2.1 11 = 0 → (∀ f, f < m → ¬ (itA f (n, g, t, u, q)).2.2.2.1 11 = 0) → (m = 0 ↔ a = 0) := fun m g1 g2 => by
    constructor
    · intro h
      subst h
      exact (e0 a (by omega)).mp (ha.symm.trans g1)
    · intro h
      rcases Nat.eq_zero_or_pos m with c | c
      · exact c
      · exact absurd (ha.trans ((e0 a (by omega)).mpr h)) (g2 0 c)
  have hz2 : ∀ m, m ≤ 2000 → (itA m (n, g, t, u, q)).2.2.2.1 11 = 0 → (∀ f, f < m → ¬ (itA f (n, g, t, u, q)).2.2.2.1 11 = 0) → (m ≤ k ↔ a2 = 0) := fun m hm g1 g2 => by
    constructor
    · intro h
      have := it11 ok.1 g1 (k - m) (by omega)
      rw [show m + (k - m) = k by omega] at this
      exact (e0 a2 (by omega)).mp (ha2.symm.trans this)
    · intro h
      by_cases c : m ≤ k
      · exact c
      · exact absurd (ha2.trans ((e0 a2 (by omega)).mpr h)) (g2 k (by omega))
  have w0 : ∀ w, w = nI 0 ∨ w = nI 1 → X_next ((n, g, t, u, q), R) w = nxG (n, g, t, u, q) w 500 0 := fun w hw => if_pos hw
  have hn0 := w0 (nI 0) (Or.inl rfl)
  have hn1 := w0 (nI 1) (Or.inr rfl)
  have hu : X_untilEmpty ((n, g, t, u, q), R) = ueG (n, g, t, u, q) 2001 0 := rfl
  rcases nx_gen (A := (n, g, t, u, q)) 500 0 (fun f hf => absurd hf (Nat.not_lt_zero _)) with ⟨j, e, he, g1, g2, g3, g4⟩ | ⟨g1, g3, g4⟩
  · rw [g3] at hn0
    rw [g4] at hn1
    have hj : j < n := by
      have w2 : wfA (itA e (n, g, t, u, q)) := itA_wf ok.1.1 e
      have h1 : (itA e (n, g, t, u, q)).1 = n := itA_1 e
      obtain ⟨-, g6⟩ := dayR_s g1
      have := hand_lt w2.2.2 g6
      omega
    have hP : 0 < pcN (n, g, t, u, q) k ↔ e < k := by
      constructor
      · intro h
        by_cases c : e < k
        · exact c
        · have := pcN_0 (A := (n, g, t, u, q)) k (fun f hf => g2 f (by omega))
          omega
      · exact fun h => pcN_pos g1 k h
    have hpu : 0 < pcN (n, g, t, u, q) k → ¬ (itA k (n, g, t, u, q)).2.2.2.2 j 4 ≤ q j 4 := fun h => by
      have h1 := cN_pos g1 k (hP.mp h)
      have h2 := cN_le (A := (n, g, t, u, q)) (j := j) k
      obtain ⟨p, ep, hp9⟩ := (ok.2.2.2.2.2.1 j hj).2.1
      have ep : q j 4 = nI p := ep
      rw [cN_q k]
      show ¬ q j 4 + _ ≤ q j 4
      rw [ep, nI_add]
      intro q9
      have := (nI_leI (by omega) (by omega)).mp q9
      omega
    rcases ue_gen (A := (n, g, t, u, q)) 2001 0 (fun f hf => absurd hf (Nat.not_lt_zero _)) with ⟨m, hm, f1, f2, f3⟩ | ⟨f1, f3⟩
    · rw [f3] at hu
      exact c_areDaysSS hj (by omega) (by omega) hP hpu (by omega) (hz1 m f1 f2) (hz2 m (by omega) f1 f2) hk hk9 hPk ha (by omega) ha2 (by omega) okB.1.1 hp h13 hps2 hn0 hn1 hu S0 ok hK
    · rw [f3] at hu
      exact c_areDaysSN hj (by omega) (by omega) hP hpu (fun c => f1 0 (by omega) (ha.trans ((e0 a (by omega)).mpr c))) (fun c => f1 k (by omega) (ha2.trans ((e0 a2 (by omega)).mpr c))) hk hk9 hPk ha (by omega) ha2 (by omega) okB.1.1 hp h13 hps2 hn0 hn1 hu S0 ok hK
  · rw [g3] at hn0
    rw [g4] at hn1
    have hP0 := pcN_0 (A := (n, g, t, u, q)) k (fun f hf => g1 f (by omega))
    rcases ue_gen (A := (n, g, t, u, q)) 2001 0 (fun f hf => absurd hf (Nat.not_lt_zero _)) with ⟨m, hm, f1, f2, f3⟩ | ⟨f1, f3⟩
    · rw [f3] at hu
      exact c_areDaysNS hP0 (by omega) (hz1 m f1 f2) (hz2 m (by omega) f1 f2) hk hk9 hPk ha (by omega) ha2 (by omega) okB.1.1 hp h13 hps2 hn0 hn1 hu S0 ok hK
    · rw [f3] at hu
      exact c_areDaysNN hP0 (fun c => f1 0 (by omega) (ha.trans ((e0 a (by omega)).mpr c))) (fun c => f1 k (by omega) (ha2.trans ((e0 a2 (by omega)).mpr c))) hk hk9 hPk ha (by omega) ha2 (by omega) okB.1.1 hp h13 hps2 hn0 hn1 hu S0 ok hK

