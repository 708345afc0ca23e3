set_option maxRecDepth 20000 in
set_option maxHeartbeats 2000000 in
theorem d96 {G : GG} {l : Launch} {X : CT} {Q : State → Prop} {h : HP} {z b n t : Nat} {u : Nat → Int32} {q : Nat → Nat → Int32} {R : RX} {K : Nat} {v w : Int32} {g : Option Nat} {pe : Nat} (hQ : RQ G X Q 88 600 (pDo G b z K)) (S : PP G h z b ((n, g, t, u, q), R)) (ok : iv K (n, g, t, u, q)) (h1K : 100000 ≤ K) (hK : K < 2 ^ 22) (hV : nV R)  : ex G l X Q 8 88 600 0 0 cL_does yL_does.cls 12 (some .boolean) h z 96 [(4, .int (nI pe)), (3, .int (nI n)), (2, .int w), (1, .int v), (0, .ref b)] [] := by
  have wf : wfA (n, g, t, u, q) := ok.1.1
  have n8 : n ≤ 8 := wf.1
  have tw : t < n ∨ t = 0 := wf.2.2
  have ok1 := ok.1
  have ow := ok.2
  refine ex_aload_n 4 dL_does_96 rfl rfl ?_
  refine ex_iconst (v := nI 1) dL_does_97 (by decide) ?_
  refine ex_iload_n 2 dL_does_98 rfl rfl ?_
  refine ex_bipush (v := nI 9) dL_does_99 (by decide) ?_
  refine ex_callS0 (As := [.int w, .int (nI 9)]) (v := .int (nI (loN w 9))) vl_L_46 (c_low (by omega) (by omega)) rfl (by decide) (Nat.le_of_ble_eq_true rfl) (Nat.zero_le _) (Nat.zero_le _) rfl dL_does_101 ?_
  refine ex_iaddN dL_does_104 ?_
  refine ex_iload_n 2 dL_does_105 rfl rfl ?_
  refine ex_iconst (v := nI 4) dL_does_106 (by decide) ?_
  refine ex_ishr dL_does_107 (fun v107 e107 => ?_)
  refine ex_bipush (v := nI 101) dL_does_108 (by decide) ?_
  refine ex_callS0 (As := [.int v107, .int (nI 101)]) (v := .int (nI (loN v107 101))) vl_L_46 (c_low (by omega) (by omega)) rfl (by decide) (Nat.le_of_ble_eq_true rfl) (Nat.zero_le _) (Nat.zero_le _) rfl dL_does_110 ?_
  have ha9 := loN_lt (v := w) (n := 9) (by omega)
  have hs9 := loN_lt (v := v107) (n := 101) (by omega)
  by_cases h8 : n = 8
  · refine ex_ch (As := [.int (nI (1 + (loN w 9))), .int (nI (loN v107 101))]) (v := (-4)) (x2 := ((n, g, t, u, q), R)) vl_L_51 rfl S (c_add S n8) (X_add_8 (by omega) (by omega) (by omega) h8) rfl (by decide) (Nat.le_of_ble_eq_true rfl) (by omega) (by omega) rfl dL_does_113 (fun h S => ?_)
    refine ex_istore (lv' := [(5, .int (-4)), (4, .int (nI pe)), (3, .int (nI n)), (2, .int w), (1, .int v), (0, .ref b)]) dL_does_116 (by decide) rfl ?_
    refine ex_iload_n 2 dL_does_118 rfl rfl ?_
    refine ex_bipush (v := nI 8) dL_does_119 (by decide) ?_
    refine ex_icmp_ne (tgt := 139) dL_does_121 (by decide) (fun c_121 => absurd (by rw [h8]) c_121) (fun c_121 => ?_)
    refine ex_iload 0 dL_does_124 rfl ?_
    refine ex_bipush (v := (-4)) dL_does_126 (by decide) ?_
    refine ex_icmp_ne (tgt := 135) dL_does_128 (by decide) (fun c_128 => absurd (rfl) c_128) (fun c_128 => ?_)
    refine ex_iconst (v := nI 1) dL_does_131 (by decide) ?_
    refine ex_goto (tgt := 193) dL_does_132 (by decide) ?_
    refine ex_widen (c2 := 88) (s2 := 600) (by omega) (by omega) ?_
    exact ex_zret hQ rfl (by decide) ⟨rfl, (Nat.le_refl _), _, S, ok.up (by omega), hV⟩ dL_does_193
  · have h2 : iv K (admA (n, g, t, u, q) (nI (1 + loN w 9)) (nI (loN v107 101))) := admA_iv ok (show n < 8 by omega) ⟨_, rfl, by omega⟩ ⟨_, rfl, by omega⟩
    have wf2 := h2.1.1
    refine ex_ch (As := [.int (nI (1 + (loN w 9))), .int (nI (loN v107 101))]) (v := nI n) (x2 := (admA (n, g, t, u, q) (nI (1 + loN w 9)) (nI (loN v107 101)), (recX ((n, g, t, u, q), R) A0).2)) vl_L_51 rfl S (c_add S n8) (X_add_k (x := ((n, g, t, u, q), R)) (by omega) (by omega) (by omega) (show n < 8 by omega)) rfl (by decide) (Nat.le_of_ble_eq_true rfl) (by omega) (by omega) rfl dL_does_113 (fun h S => ?_)
    refine ex_istore (lv' := [(5, .int (nI n)), (4, .int (nI pe)), (3, .int (nI n)), (2, .int w), (1, .int v), (0, .ref b)]) dL_does_116 (by decide) rfl ?_
    refine ex_iload_n 2 dL_does_118 rfl rfl ?_
    refine ex_bipush (v := nI 8) dL_does_119 (by decide) ?_
    refine ex_icmp_ne (tgt := 139) dL_does_121 (by decide) (fun c_121 => ?_) (fun c_121 => absurd c_121 (fun q9 => h8 ((nI_eq (by omega) (by omega)).mp q9)))
    refine ex_iload 0 dL_does_139 rfl ?_
    refine ex_iload_n 2 dL_does_141 rfl rfl ?_
    refine ex_icmp_ne (tgt := 192) dL_does_142 (by decide) (fun c_142 => absurd (rfl) c_142) (fun c_142 => ?_)
    refine ex_aload_n 5 dL_does_145 rfl rfl ?_
    refine ex_iload_n 2 dL_does_146 rfl rfl ?_
    refine ex_iconst (v := nI 0) dL_does_147 (by decide) ?_
    refine ex_per (j := n) (k := 0) (v := (admA (n, g, t, u, q) (nI (1 + loN w 9)) (nI (loN v107 101))).2.2.2.2 n 0) vl_L_14 S wf2 (show n < n + 1 by omega) (by decide) rfl (by decide) (Nat.le_of_ble_eq_true rfl) (by omega) (by omega) dL_does_148 (fun h S => ?_)
    refine ex_iconst (v := nI 1) dL_does_151 (by decide) ?_
    refine ex_iload_n 3 dL_does_152 rfl rfl ?_
    refine ex_bipush (v := nI 9) dL_does_153 (by decide) ?_
    refine ex_callS0 (As := [.int w, .int (nI 9)]) (v := .int (nI (loN w 9))) vl_L_46 (c_low (by omega) (by omega)) rfl (by decide) (Nat.le_of_ble_eq_true rfl) (Nat.zero_le _) (Nat.zero_le _) rfl dL_does_155 ?_
    refine ex_iaddN dL_does_158 ?_
    refine ex_icmp_ne (tgt := 192) dL_does_159 (by decide) (fun c_159 => absurd (adm_k 0) c_159) (fun c_159 => ?_)
    refine ex_aload_n 5 dL_does_162 rfl rfl ?_
    refine ex_iload_n 2 dL_does_163 rfl rfl ?_
    refine ex_iconst (v := nI 1) dL_does_164 (by decide) ?_
    refine ex_per (j := n) (k := 1) (v := (admA (n, g, t, u, q) (nI (1 + loN w 9)) (nI (loN v107 101))).2.2.2.2 n 1) vl_L_14 S wf2 (show n < n + 1 by omega) (by decide) rfl (by decide) (Nat.le_of_ble_eq_true rfl) (by omega) (by omega) dL_does_165 (fun h S => ?_)
    refine ex_iload_n 3 dL_does_168 rfl rfl ?_
    refine ex_iconst (v := nI 4) dL_does_169 (by decide) ?_
    refine ex_ishr dL_does_170 (fun v170 e170 => ?_)
    refine ex_topi (y := v107) (e170.trans e107.symm) ?_
    refine ex_bipush (v := nI 101) dL_does_171 (by decide) ?_
    refine ex_callS0 (As := [.int v107, .int (nI 101)]) (v := .int (nI (loN v107 101))) vl_L_46 (c_low (by omega) (by omega)) rfl (by decide) (Nat.le_of_ble_eq_true rfl) (Nat.zero_le _) (Nat.zero_le _) rfl dL_does_173 ?_
    refine ex_icmp_ne (tgt := 192) dL_does_176 (by decide) (fun c_176 => absurd (adm_k 1) c_176) (fun c_176 => ?_)
    refine ex_aload_n 5 dL_does_179 rfl rfl ?_
    refine ex_iload_n 2 dL_does_180 rfl rfl ?_
    refine ex_iconst (v := nI 3) dL_does_181 (by decide) ?_
    refine ex_per (j := n) (k := 3) (v := (admA (n, g, t, u, q) (nI (1 + loN w 9)) (nI (loN v107 101))).2.2.2.2 n 3) vl_L_14 S wf2 (show n < n + 1 by omega) (by decide) rfl (by decide) (Nat.le_of_ble_eq_true rfl) (by omega) (by omega) dL_does_182 (fun h S => ?_)
    refine ex_if_ne (tgt := 192) dL_does_185 (by decide) (fun c_185 => absurd (adm_k 3) c_185) (fun c_185 => ?_)
    refine ex_iconst (v := nI 1) dL_does_188 (by decide) ?_
    refine ex_goto (tgt := 193) dL_does_189 (by decide) ?_
    refine ex_widen (c2 := 88) (s2 := 600) (by omega) (by omega) ?_
    exact ex_zret hQ rfl (by decide) ⟨rfl, (Nat.le_refl _), _, S, h2.up (by omega), hV⟩ dL_does_193

set_option maxRecDepth 20000 in
set_option maxHeartbeats 2000000 in
theorem d194 {G : GG} {l : Launch} {X : CT} {Q : State → Prop} {h : HP} {z b n t : Nat} {u : Nat → Int32} {q : Nat → Nat → Int32} {R : RX} {K : Nat} {v w : Int32} {g : Option Nat} {pe : Nat} (hQ : RQ G X Q 88 600 (pDo G b z K)) (S : PP G h z b ((n, g, t, u, q), R)) (ok : iv K (n, g, t, u, q)) (h1K : 100000 ≤ K) (hK : K < 2 ^ 22) (hV : nV R) (hpe : ¬ n = 0 → pe < n) : ex G l X Q 8 88 600 0 0 cL_does yL_does.cls 12 (some .boolean) h z 194 [(4, .int (nI pe)), (3, .int (nI n)), (2, .int w), (1, .int v), (0, .ref b)] [] := by
  have wf : wfA (n, g, t, u, q) := ok.1.1
  have n8 : n ≤ 8 := wf.1
  have tw : t < n ∨ t = 0 := wf.2.2
  have ok1 := ok.1
  have ow := ok.2
  refine ex_iload_n 1 dL_does_194 rfl rfl ?_
  refine ex_if_ne (tgt := 216) dL_does_195 (by decide) (fun c_195 => ?_) (fun c_195 => ?_)
  · have n_195 : ¬ (n = 0) := fun q9 => c_195 ((nI_eq (b := 0) (by omega) (by omega)).mpr q9)
    refine ex_aload_n 4 dL_does_216 rfl rfl ?_
    refine ex_iload 0 dL_does_217 rfl ?_
    refine ex_iload_n 2 dL_does_219 rfl rfl ?_
    refine ex_iload_n 1 dL_does_220 rfl rfl ?_
    refine ex_callS0 (As := [.int w, .int (nI n)]) (v := .int (nI (loN w n))) vl_L_46 (c_low (by omega) (by omega)) rfl (by decide) (Nat.le_of_ble_eq_true rfl) (Nat.zero_le _) (Nat.zero_le _) rfl dL_does_221 ?_
    have hp := hpe n_195
    have hy := loN_lt (v := w) (n := n) (by omega)
    refine ex_callS (As := [.ref b, .int (nI pe), .int (nI (loN w n))]) vl_L_54 (c_isMoved hp hy S ok (by omega)) rfl (by decide) (Nat.le_of_ble_eq_true rfl) (by omega) (by omega) rfl dL_does_224 (fun r1 h1 z1 hp1 => ?_)
    obtain ⟨rfl, rfl, S⟩ := hp1
    rw [X_move_k (x := ((n, g, t, u, q), R)) hp hy n8] at S
    refine ex_widen (c2 := 88) (s2 := 600) (by omega) (by omega) ?_
    exact ex_zret hQ rfl (by decide) ⟨rfl, (Nat.le_refl _), _, S, (moveA_iv ok hp hy).up (by omega), hV⟩ dL_does_227
  · have n_195 : n = 0 := (nI_eq (b := 0) (by omega) (by omega)).mp c_195
    refine ex_aload_n 4 dL_does_198 rfl rfl ?_
    refine ex_iconst (v := nI 0) dL_does_199 (by decide) ?_
    refine ex_iconst (v := nI 0) dL_does_200 (by decide) ?_
    refine ex_ch (As := [.int (nI 0), .int (nI 0)]) (v := (-1)) (x2 := ((n, g, t, u, q), R)) vl_L_40 rfl S (c_move S n8 wf.2.1 wf.2.2) (X_move_0 (x := ((n, g, t, u, q), R)) n_195) rfl (by decide) (Nat.le_of_ble_eq_true rfl) (by omega) (by omega) rfl dL_does_201 (fun h S => ?_)
    refine ex_iconst (v := (-1)) dL_does_204 (by decide) ?_
    refine ex_icmp_ne (tgt := 212) dL_does_205 (by decide) (fun c_205 => absurd (rfl) c_205) (fun c_205 => ?_)
    refine ex_iconst (v := nI 1) dL_does_208 (by decide) ?_
    refine ex_goto (tgt := 227) dL_does_209 (by decide) ?_
    refine ex_widen (c2 := 88) (s2 := 600) (by omega) (by omega) ?_
    exact ex_zret hQ rfl (by decide) ⟨rfl, (Nat.le_refl _), _, S, ok.up (by omega), hV⟩ dL_does_227

set_option maxRecDepth 20000 in
set_option maxHeartbeats 2000000 in
theorem d228N {G : GG} {l : Launch} {X : CT} {Q : State → Prop} {h : HP} {z b n t : Nat} {u : Nat → Int32} {q : Nat → Nat → Int32} {R : RX} {K : Nat} {v w : Int32} {pe : Nat} (hQ : RQ G X Q 88 600 (pDo G b z K)) (S : PP G h z b ((n, none, t, u, q), R)) (ok : iv K (n, none, t, u, q)) (h1K : 100000 ≤ K) (hK : K < 2 ^ 22) (hV : nV R)  : ex G l X Q 8 88 600 0 0 cL_does yL_does.cls 12 (some .boolean) h z 228 [(4, .int (nI pe)), (3, .int (nI n)), (2, .int w), (1, .int v), (0, .ref b)] [] := by
  have wf : wfA (n, none, t, u, q) := ok.1.1
  have n8 : n ≤ 8 := wf.1
  have tw : t < n ∨ t = 0 := wf.2.2
  have ok1 := ok.1
  have ow := ok.2
  refine ex_aload_n 4 dL_does_228 rfl rfl ?_
  refine ex_bipush (v := nI 9) dL_does_229 (by decide) ?_
  refine ex_cnt (k := 9) (v := (-6)) vl_L_8 S wf (by decide) rfl (by decide) (Nat.le_of_ble_eq_true rfl) (by omega) (by omega) dL_does_231 (fun h S => ?_)
  refine ex_istore (lv' := [(6, .int (-6)), (4, .int (nI pe)), (3, .int (nI n)), (2, .int w), (1, .int v), (0, .ref b)]) dL_does_234 (by decide) rfl ?_
  refine ex_aload_n 5 dL_does_236 rfl rfl ?_
  refine ex_ch (As := []) (v := (-5)) (x2 := ((n, none, t, u, q), R)) vl_L_58 rfl S (c_stepDown S n8 wf.2.1) (X_step_n) rfl (by decide) (Nat.le_of_ble_eq_true rfl) (by omega) (by omega) rfl dL_does_237 (fun h S => ?_)
  refine ex_iload 0 dL_does_240 rfl ?_
  refine ex_if_ge (tgt := 250) dL_does_242 (by decide) (fun c_242 => absurd c_242 (by decide)) (fun c_242 => ?_)
  refine ex_bipush (v := (-5)) dL_does_245 (by decide) ?_
  refine ex_goto (tgt := 252) dL_does_247 (by decide) ?_
  refine ex_icmp_ne (tgt := 290) dL_does_252 (by decide) (fun c_252 => absurd (rfl) c_252) (fun c_252 => ?_)
  refine ex_aload_n 5 dL_does_255 rfl rfl ?_
  refine ex_bipush (v := nI 9) dL_does_256 (by decide) ?_
  refine ex_cnt (k := 9) (v := (-6)) vl_L_8 S wf (by decide) rfl (by decide) (Nat.le_of_ble_eq_true rfl) (by omega) (by omega) dL_does_258 (fun h S => ?_)
  refine ex_bipush (v := (-6)) dL_does_261 (by decide) ?_
  refine ex_icmp_ne (tgt := 290) dL_does_263 (by decide) (fun c_263 => absurd (rfl) c_263) (fun c_263 => ?_)
  refine ex_iload 0 dL_does_266 rfl ?_
  refine ex_if_lt (tgt := 286) dL_does_268 (by decide) (fun c_268 => ?_) (fun c_268 => absurd (by decide) c_268)
  refine ex_iconst (v := nI 1) dL_does_286 (by decide) ?_
  refine ex_goto (tgt := 291) dL_does_287 (by decide) ?_
  refine ex_widen (c2 := 88) (s2 := 600) (by omega) (by omega) ?_
  exact ex_zret hQ rfl (by decide) ⟨rfl, (Nat.le_refl _), _, S, ok.up (by omega), hV⟩ dL_does_291

set_option maxRecDepth 20000 in
set_option maxHeartbeats 2000000 in
theorem d228S {G : GG} {l : Launch} {X : CT} {Q : State → Prop} {h : HP} {z b n t : Nat} {u : Nat → Int32} {q : Nat → Nat → Int32} {R : RX} {K : Nat} {v w : Int32} {i : Nat} {pe : Nat} (hQ : RQ G X Q 88 600 (pDo G b z K)) (S : PP G h z b ((n, (some i), t, u, q), R)) (ok : iv K (n, (some i), t, u, q)) (h1K : 100000 ≤ K) (hK : K < 2 ^ 22) (hV : nV R)  : ex G l X Q 8 88 600 0 0 cL_does yL_does.cls 12 (some .boolean) h z 228 [(4, .int (nI pe)), (3, .int (nI n)), (2, .int w), (1, .int v), (0, .ref b)] [] := by
  have wf : wfA (n, (some i), t, u, q) := ok.1.1
  have n8 : n ≤ 8 := wf.1
  have tw : t < n ∨ t = 0 := wf.2.2
  have ok1 := ok.1
  have ow := ok.2
  have hi : i < n := wf.2.1 i rfl
  have wf2 : wfA (n, none, (bh n i), u, q) := (lvA_iv ok rfl).1.1
  refine ex_aload_n 4 dL_does_228 rfl rfl ?_
  refine ex_bipush (v := nI 9) dL_does_229 (by decide) ?_
  refine ex_cnt (k := 9) (v := nI i) vl_L_8 S wf (by decide) rfl (by decide) (Nat.le_of_ble_eq_true rfl) (by omega) (by omega) dL_does_231 (fun h S => ?_)
  refine ex_istore (lv' := [(6, .int (nI i)), (4, .int (nI pe)), (3, .int (nI n)), (2, .int w), (1, .int v), (0, .ref b)]) dL_does_234 (by decide) rfl ?_
  refine ex_aload_n 5 dL_does_236 rfl rfl ?_
  refine ex_ch (As := []) (v := nI i) (x2 := ((n, none, (bh n i), u, q), (recX ((n, some i, t, u, q), R) A0).2)) vl_L_58 rfl S (c_stepDown S n8 wf.2.1) (X_step_s) rfl (by decide) (Nat.le_of_ble_eq_true rfl) (by omega) (by omega) rfl dL_does_237 (fun h S => ?_)
  refine ex_iload 0 dL_does_240 rfl ?_
  refine ex_if_ge (tgt := 250) dL_does_242 (by decide) (fun c_242 => ?_) (fun c_242 => absurd (nI_pos' (by omega)) c_242)
  refine ex_iload 0 dL_does_250 rfl ?_
  refine ex_icmp_ne (tgt := 290) dL_does_252 (by decide) (fun c_252 => absurd (rfl) c_252) (fun c_252 => ?_)
  refine ex_aload_n 5 dL_does_255 rfl rfl ?_
  refine ex_bipush (v := nI 9) dL_does_256 (by decide) ?_
  refine ex_cnt (k := 9) (v := (-6)) vl_L_8 S wf2 (by decide) rfl (by decide) (Nat.le_of_ble_eq_true rfl) (by omega) (by omega) dL_does_258 (fun h S => ?_)
  refine ex_bipush (v := (-6)) dL_does_261 (by decide) ?_
  refine ex_icmp_ne (tgt := 290) dL_does_263 (by decide) (fun c_263 => absurd (rfl) c_263) (fun c_263 => ?_)
  refine ex_iload 0 dL_does_266 rfl ?_
  refine ex_if_lt (tgt := 286) dL_does_268 (by decide) (fun c_268 => absurd c_268 (nI_pos (by omega))) (fun c_268 => ?_)
  refine ex_aload_n 5 dL_does_271 rfl rfl ?_
  refine ex_bipush (v := nI 10) dL_does_272 (by decide) ?_
  refine ex_cnt (k := 10) (v := nI (bh n i)) vl_L_8 S wf2 (by decide) rfl (by decide) (Nat.le_of_ble_eq_true rfl) (by omega) (by omega) dL_does_274 (fun h S => ?_)
  refine ex_iload 0 dL_does_277 rfl ?_
  refine ex_iconst (v := nI 1) dL_does_279 (by decide) ?_
  refine ex_iaddN dL_does_280 ?_
  refine ex_iload_n 2 dL_does_281 rfl rfl ?_
  refine ex_irem dL_does_282 (fun q9 => absurd ((nI_eq (b := 0) (by omega) (by omega)).mp q9) (by omega)) ?_
  refine ex_icmp_ne (tgt := 290) dL_does_283 (by decide) (fun c_283 => absurd (((nI_modB (by omega) (by omega) (by omega)).trans (congrArg nI (bh_1 hi))).symm) c_283) (fun c_283 => ?_)
  refine ex_iconst (v := nI 1) dL_does_286 (by decide) ?_
  refine ex_goto (tgt := 291) dL_does_287 (by decide) ?_
  refine ex_widen (c2 := 88) (s2 := 600) (by omega) (by omega) ?_
  exact ex_zret hQ rfl (by decide) ⟨rfl, (Nat.le_refl _), _, S, (lvA_iv ok rfl).up (by omega), hV⟩ dL_does_291

set_option maxRecDepth 20000 in
set_option maxHeartbeats 2000000 in
theorem d292 {G : GG} {l : Launch} {X : CT} {Q : State → Prop} {h : HP} {z b n t : Nat} {u : Nat → Int32} {q : Nat → Nat → Int32} {R : RX} {K : Nat} {v w : Int32} {g : Option Nat} {pe : Nat} (hQ : RQ G X Q 88 600 (pDo G b z K)) (S : PP G h z b ((n, g, t, u, q), R)) (ok : iv K (n, g, t, u, q)) (h1K : 100000 ≤ K) (hK : K < 2 ^ 22) (hV : nV R)  : ex G l X Q 8 88 600 0 0 cL_does yL_does.cls 12 (some .boolean) h z 292 [(4, .int (nI pe)), (3, .int (nI n)), (2, .int w), (1, .int v), (0, .ref b)] [] := by
  have wf : wfA (n, g, t, u, q) := ok.1.1
  have n8 : n ≤ 8 := wf.1
  have tw : t < n ∨ t = 0 := wf.2.2
  have ok1 := ok.1
  have ow := ok.2
  refine ex_aload_n 4 dL_does_292 rfl rfl ?_
  refine ex_iload_n 2 dL_does_293 rfl rfl ?_
  refine ex_iload_n 1 dL_does_294 rfl rfl ?_
  refine ex_iconst (v := nI 1) dL_does_295 (by decide) ?_
  refine ex_iaddN dL_does_296 ?_
  refine ex_callS0 (As := [.int w, .int (nI (n + 1))]) (v := .int (nI (loN w (n + 1)))) vl_L_46 (c_low (by omega) (by omega)) rfl (by decide) (Nat.le_of_ble_eq_true rfl) (Nat.zero_le _) (Nat.zero_le _) rfl dL_does_297 ?_
  have hp := Nat.lt_succ_iff.mp (loN_lt (v := w) (n := n + 1) (by omega))
  refine ex_callS (As := [.ref b, .int (nI (loN w (n + 1)))]) vl_L_61 (c_isAppeal hp S ok (by omega)) rfl (by decide) (Nat.le_of_ble_eq_true rfl) (by omega) (by omega) rfl dL_does_300 (fun r1 h1 z1 hp1 => ?_)
  obtain ⟨rfl, rfl, S⟩ := hp1
  have ha := X_appeal_iv (x := ((n, g, t, u, q), R)) ok hV (by omega) hp
  refine ex_widen (c2 := 88) (s2 := 600) (by omega) (by omega) ?_
  exact ex_zret hQ rfl (by decide) ⟨rfl, (Nat.le_refl _), _, S, ha.1.up (by omega), ha.2⟩ dL_does_303

set_option maxRecDepth 20000 in
set_option maxHeartbeats 2000000 in
theorem d304 {G : GG} {l : Launch} {X : CT} {Q : State → Prop} {h : HP} {z b n t : Nat} {u : Nat → Int32} {q : Nat → Nat → Int32} {R : RX} {K : Nat} {v w : Int32} {g : Option Nat} {pe : Nat} (hQ : RQ G X Q 88 600 (pDo G b z K)) (S : PP G h z b ((n, g, t, u, q), R)) (ok : iv K (n, g, t, u, q)) (h1K : 100000 ≤ K) (hK : K < 2 ^ 22) (hV : nV R)  : ex G l X Q 8 88 600 0 0 cL_does yL_does.cls 12 (some .boolean) h z 304 [(4, .int (nI pe)), (3, .int (nI n)), (2, .int w), (1, .int v), (0, .ref b)] [] := by
  have wf : wfA (n, g, t, u, q) := ok.1.1
  have n8 : n ≤ 8 := wf.1
  have tw : t < n ∨ t = 0 := wf.2.2
  have ok1 := ok.1
  have ow := ok.2
  refine ex_aload_n 4 dL_does_304 rfl rfl ?_
  refine ex_bipush (v := nI 11) dL_does_305 (by decide) ?_
  refine ex_cnt (k := 11) (v := u 11) vl_L_8 S wf (by decide) rfl (by decide) (Nat.le_of_ble_eq_true rfl) (by omega) (by omega) dL_does_307 (fun h S => ?_)
  refine ex_istore (lv' := [(7, .int (u 11)), (4, .int (nI pe)), (3, .int (nI n)), (2, .int w), (1, .int v), (0, .ref b)]) dL_does_310 (by decide) rfl ?_
  refine ex_iconst (v := nI 1) dL_does_312 (by decide) ?_
  refine ex_iload_n 3 dL_does_313 rfl rfl ?_
  refine ex_sipush (v := nI 900) dL_does_314 (by decide) ?_
  refine ex_callS0 (As := [.int w, .int (nI 900)]) (v := .int (nI (loN w 900))) vl_L_46 (c_low (by omega) (by omega)) rfl (by decide) (Nat.le_of_ble_eq_true rfl) (Nat.zero_le _) (Nat.zero_le _) rfl dL_does_317 ?_
  refine ex_iaddN dL_does_320 ?_
  refine ex_istore (lv' := [(8, .int (nI (1 + (loN w 900)))), (7, .int (u 11)), (4, .int (nI pe)), (3, .int (nI n)), (2, .int w), (1, .int v), (0, .ref b)]) dL_does_321 (by decide) rfl ?_
  have hc9 := loN_lt (v := w) (n := 900) (by omega)
  by_cases hc : nI 99999 < u 11 + nI (1 + loN w 900)
  · refine ex_aload_n 6 dL_does_323 rfl rfl ?_
    refine ex_iload 0 dL_does_324 rfl ?_
    refine ex_ch (As := [.int (nI (1 + (loN w 900)))]) (v := (-4)) (x2 := ((n, g, t, u, q), R)) vl_L_65 rfl S (c_give S n8) (X_give_t (x := ((n, g, t, u, q), R)) (by omega) (by omega) hc) rfl (by decide) (Nat.le_of_ble_eq_true rfl) (by omega) (by omega) rfl dL_does_326 (fun h S => ?_)
    refine ex_iload 1 dL_does_329 rfl ?_
    refine ex_iload 0 dL_does_331 rfl ?_
    refine ex_iadd dL_does_333 ?_
    refine ex_ldc (v := nI 99999) dL_does_334 kc_L_68 ?_
    refine ex_icmp_le (tgt := 344) dL_does_336 (by decide) (fun c_336 => absurd c_336 (Int32.not_le.mpr hc)) (fun c_336 => ?_)
    refine ex_bipush (v := (-4)) dL_does_339 (by decide) ?_
    refine ex_goto (tgt := 349) dL_does_341 (by decide) ?_
    refine ex_icmp_ne (tgt := 356) dL_does_349 (by decide) (fun c_349 => absurd (rfl) c_349) (fun c_349 => ?_)
    refine ex_iconst (v := nI 1) dL_does_352 (by decide) ?_
    refine ex_goto (tgt := 357) dL_does_353 (by decide) ?_
    refine ex_widen (c2 := 88) (s2 := 600) (by omega) (by omega) ?_
    exact ex_zret hQ rfl (by decide) ⟨rfl, (Nat.le_refl _), _, S, ok.up (by omega), hV⟩ dL_does_357
  · have h2 : iv K (givA (n, g, t, u, q) (nI (1 + loN w 900))) := givA_iv ok h1K (by omega) (by omega) hc
    have wf2 := h2.1.1
    refine ex_aload_n 6 dL_does_323 rfl rfl ?_
    refine ex_iload 0 dL_does_324 rfl ?_
    refine ex_ch (As := [.int (nI (1 + (loN w 900)))]) (v := u 11 + nI (1 + loN w 900)) (x2 := (givA (n, g, t, u, q) (nI (1 + loN w 900)), (recX ((n, g, t, u, q), R) A0).2)) vl_L_65 rfl S (c_give S n8) (X_give_f (x := ((n, g, t, u, q), R)) (by omega) (by omega) hc) rfl (by decide) (Nat.le_of_ble_eq_true rfl) (by omega) (by omega) rfl dL_does_326 (fun h S => ?_)
    refine ex_iload 1 dL_does_329 rfl ?_
    refine ex_iload 0 dL_does_331 rfl ?_
    refine ex_iadd dL_does_333 ?_
    refine ex_ldc (v := nI 99999) dL_does_334 kc_L_68 ?_
    refine ex_icmp_le (tgt := 344) dL_does_336 (by decide) (fun c_336 => ?_) (fun c_336 => absurd (Int32.not_lt.mp hc) c_336)
    refine ex_iload 1 dL_does_344 rfl ?_
    refine ex_iload 0 dL_does_346 rfl ?_
    refine ex_iadd dL_does_348 ?_
    refine ex_icmp_ne (tgt := 356) dL_does_349 (by decide) (fun c_349 => absurd (rfl) c_349) (fun c_349 => ?_)
    refine ex_iconst (v := nI 1) dL_does_352 (by decide) ?_
    refine ex_goto (tgt := 357) dL_does_353 (by decide) ?_
    refine ex_widen (c2 := 88) (s2 := 600) (by omega) (by omega) ?_
    exact ex_zret hQ rfl (by decide) ⟨rfl, (Nat.le_refl _), _, S, h2.up (by omega), hV⟩ dL_does_357

set_option maxRecDepth 20000 in
set_option maxHeartbeats 2000000 in
theorem d358 {G : GG} {l : Launch} {X : CT} {Q : State → Prop} {h : HP} {z b n t : Nat} {u : Nat → Int32} {q : Nat → Nat → Int32} {R : RX} {K : Nat} {v w : Int32} {g : Option Nat} {pe : Nat} (hQ : RQ G X Q 88 600 (pDo G b z K)) (S : PP G h z b ((n, g, t, u, q), R)) (ok : iv K (n, g, t, u, q)) (h1K : 100000 ≤ K) (hK : K < 2 ^ 22) (hV : nV R)  : ex G l X Q 8 88 600 0 0 cL_does yL_does.cls 12 (some .boolean) h z 358 [(4, .int (nI pe)), (3, .int (nI n)), (2, .int w), (1, .int v), (0, .ref b)] [] := by
  have wf : wfA (n, g, t, u, q) := ok.1.1
  have n8 : n ≤ 8 := wf.1
  have tw : t < n ∨ t = 0 := wf.2.2
  have ok1 := ok.1
  have ow := ok.2
  refine ex_iload_n 3 dL_does_358 rfl rfl ?_
  refine ex_iconst (v := nI 4) dL_does_359 (by decide) ?_
  refine ex_ishr dL_does_360 (fun v360 e360 => ?_)
  refine ex_bipush (v := nI 6) dL_does_361 (by decide) ?_
  refine ex_callS0 (As := [.int v360, .int (nI 6)]) (v := .int (nI (loN v360 6))) vl_L_46 (c_low (by omega) (by omega)) rfl (by decide) (Nat.le_of_ble_eq_true rfl) (Nat.zero_le _) (Nat.zero_le _) rfl dL_does_363 ?_
  obtain ⟨s, hs⟩ : ∃ s, s = loN v360 6 := ⟨_, rfl⟩
  have hs6 := loN_lt (v := v360) (n := 6) (by omega)
  rw [← hs]
  rw [← hs] at hs6
  rcases (show s = 0 ∨ s = 1 ∨ s = 2 ∨ s = 3 ∨ s = 4 ∨ s = 5 by omega) with rfl | rfl | rfl | rfl | rfl | rfl
  · have hv9 := loN_lt (v := w) (n := 60) (by omega)
    have hr := rng_k (s := 0) (lo := 1) (hi := 200) (v := 40 + loN w 60) rfl rfl (by omega) (by omega) (by omega)
    have h2 : iv K (setA (n, g, t, u, q) 0 (nI (40 + loN w 60))) := setA_iv ok (by omega) hr
    have wf2 := h2.1.1
    refine ex_istore (lv' := [(9, .int (nI 0)), (4, .int (nI pe)), (3, .int (nI n)), (2, .int w), (1, .int v), (0, .ref b)]) dL_does_366 (by decide) rfl ?_
    refine ex_iload 0 dL_does_368 rfl ?_
    refine ex_if_ne (tgt := 385) dL_does_370 (by decide) (fun c_370 => absurd (by decide) c_370) (fun c_370 => ?_)
    refine ex_bipush (v := nI 40) dL_does_373 (by decide) ?_
    refine ex_iload_n 3 dL_does_375 rfl rfl ?_
    refine ex_bipush (v := nI 60) dL_does_376 (by decide) ?_
    refine ex_callS0 (As := [.int w, .int (nI 60)]) (v := .int (nI (loN w 60))) vl_L_46 (c_low (by omega) (by omega)) rfl (by decide) (Nat.le_of_ble_eq_true rfl) (Nat.zero_le _) (Nat.zero_le _) rfl dL_does_378 ?_
    refine ex_iaddN dL_does_381 ?_
    refine ex_goto (tgt := 456) dL_does_382 (by decide) ?_
    refine ex_istore (lv' := [(10, .int (nI (40 + (loN w 60)))), (9, .int (nI 0)), (4, .int (nI pe)), (3, .int (nI n)), (2, .int w), (1, .int v), (0, .ref b)]) dL_does_456 (by decide) rfl ?_
    refine ex_aload_n 6 dL_does_458 rfl rfl ?_
    refine ex_iload 1 dL_does_459 rfl ?_
    refine ex_cnt (k := 0) (v := u 0) vl_L_8 S wf (by decide) rfl (by decide) (Nat.le_of_ble_eq_true rfl) (by omega) (by omega) dL_does_461 (fun h S => ?_)
    refine ex_istore (lv' := [(11, .int (u 0)), (10, .int (nI (40 + (loN w 60)))), (9, .int (nI 0)), (4, .int (nI pe)), (3, .int (nI n)), (2, .int w), (1, .int v), (0, .ref b)]) dL_does_464 (by decide) rfl ?_
    refine ex_aload_n 7 dL_does_466 rfl rfl ?_
    refine ex_iload 2 dL_does_467 rfl ?_
    refine ex_iload 1 dL_does_469 rfl ?_
    refine ex_ch (As := [.int (nI 0), .int (nI (40 + (loN w 60)))]) (v := u 0) (x2 := ((n, g, t, (upd u 0 (nI (40 + loN w 60))), q), (recX ((n, g, t, u, q), R) A0).2)) vl_L_69 rfl S (c_set S n8) (X_set_k (x := ((n, g, t, u, q), R)) (by omega) hr) rfl (by decide) (Nat.le_of_ble_eq_true rfl) (by omega) (by omega) rfl dL_does_471 (fun h S => ?_)
    refine ex_iload 0 dL_does_474 rfl ?_
    refine ex_icmp_ne (tgt := 494) dL_does_476 (by decide) (fun c_476 => absurd (rfl) c_476) (fun c_476 => ?_)
    refine ex_aload_n 7 dL_does_479 rfl rfl ?_
    refine ex_iload 2 dL_does_480 rfl ?_
    refine ex_cnt (k := 0) (v := nI (40 + loN w 60)) vl_L_8 S wf2 (by decide) rfl (by decide) (Nat.le_of_ble_eq_true rfl) (by omega) (by omega) dL_does_482 (fun h S => ?_)
    refine ex_iload 1 dL_does_485 rfl ?_
    refine ex_icmp_ne (tgt := 494) dL_does_487 (by decide) (fun c_487 => absurd (rfl) c_487) (fun c_487 => ?_)
    refine ex_iconst (v := nI 1) dL_does_490 (by decide) ?_
    refine ex_goto (tgt := 495) dL_does_491 (by decide) ?_
    refine ex_widen (c2 := 88) (s2 := 600) (by omega) (by omega) ?_
    exact ex_zret hQ rfl (by decide) ⟨rfl, (Nat.le_refl _), _, S, h2.up (by omega), hV⟩ dL_does_495
  · have hv9 := loN_lt (v := w) (n := 201) (by omega)
    have hr := rng_k (s := 1) (lo := 0) (hi := 200) (v := loN w 201) rfl rfl (by omega) (by omega) (by omega)
    have h2 : iv K (setA (n, g, t, u, q) 1 (nI (loN w 201))) := setA_iv ok (by omega) hr
    have wf2 := h2.1.1
    refine ex_istore (lv' := [(9, .int (nI 1)), (4, .int (nI pe)), (3, .int (nI n)), (2, .int w), (1, .int v), (0, .ref b)]) dL_does_366 (by decide) rfl ?_
    refine ex_iload 0 dL_does_368 rfl ?_
    refine ex_if_ne (tgt := 385) dL_does_370 (by decide) (fun c_370 => ?_) (fun c_370 => absurd c_370 (by decide))
    refine ex_iload 0 dL_does_385 rfl ?_
    refine ex_iconst (v := nI 1) dL_does_387 (by decide) ?_
    refine ex_icmp_ne (tgt := 401) dL_does_388 (by decide) (fun c_388 => absurd (by decide) c_388) (fun c_388 => ?_)
    refine ex_iload_n 3 dL_does_391 rfl rfl ?_
    refine ex_sipush (v := nI 201) dL_does_392 (by decide) ?_
    refine ex_callS0 (As := [.int w, .int (nI 201)]) (v := .int (nI (loN w 201))) vl_L_46 (c_low (by omega) (by omega)) rfl (by decide) (Nat.le_of_ble_eq_true rfl) (Nat.zero_le _) (Nat.zero_le _) rfl dL_does_395 ?_
    refine ex_goto (tgt := 456) dL_does_398 (by decide) ?_
    refine ex_istore (lv' := [(10, .int (nI (loN w 201))), (9, .int (nI 1)), (4, .int (nI pe)), (3, .int (nI n)), (2, .int w), (1, .int v), (0, .ref b)]) dL_does_456 (by decide) rfl ?_
    refine ex_aload_n 6 dL_does_458 rfl rfl ?_
    refine ex_iload 1 dL_does_459 rfl ?_
    refine ex_cnt (k := 1) (v := u 1) vl_L_8 S wf (by decide) rfl (by decide) (Nat.le_of_ble_eq_true rfl) (by omega) (by omega) dL_does_461 (fun h S => ?_)
    refine ex_istore (lv' := [(11, .int (u 1)), (10, .int (nI (loN w 201))), (9, .int (nI 1)), (4, .int (nI pe)), (3, .int (nI n)), (2, .int w), (1, .int v), (0, .ref b)]) dL_does_464 (by decide) rfl ?_
    refine ex_aload_n 7 dL_does_466 rfl rfl ?_
    refine ex_iload 2 dL_does_467 rfl ?_
    refine ex_iload 1 dL_does_469 rfl ?_
    refine ex_ch (As := [.int (nI 1), .int (nI (loN w 201))]) (v := u 1) (x2 := ((n, g, t, (upd u 1 (nI (loN w 201))), q), (recX ((n, g, t, u, q), R) A0).2)) vl_L_69 rfl S (c_set S n8) (X_set_k (x := ((n, g, t, u, q), R)) (by omega) hr) rfl (by decide) (Nat.le_of_ble_eq_true rfl) (by omega) (by omega) rfl dL_does_471 (fun h S => ?_)
    refine ex_iload 0 dL_does_474 rfl ?_
    refine ex_icmp_ne (tgt := 494) dL_does_476 (by decide) (fun c_476 => absurd (rfl) c_476) (fun c_476 => ?_)
    refine ex_aload_n 7 dL_does_479 rfl rfl ?_
    refine ex_iload 2 dL_does_480 rfl ?_
    refine ex_cnt (k := 1) (v := nI (loN w 201)) vl_L_8 S wf2 (by decide) rfl (by decide) (Nat.le_of_ble_eq_true rfl) (by omega) (by omega) dL_does_482 (fun h S => ?_)
    refine ex_iload 1 dL_does_485 rfl ?_
    refine ex_icmp_ne (tgt := 494) dL_does_487 (by decide) (fun c_487 => absurd (rfl) c_487) (fun c_487 => ?_)
    refine ex_iconst (v := nI 1) dL_does_490 (by decide) ?_
    refine ex_goto (tgt := 495) dL_does_491 (by decide) ?_
    refine ex_widen (c2 := 88) (s2 := 600) (by omega) (by omega) ?_
    exact ex_zret hQ rfl (by decide) ⟨rfl, (Nat.le_refl _), _, S, h2.up (by omega), hV⟩ dL_does_495
  · have hv9 := loN_lt (v := w) (n := 30) (by omega)
    have hr := rng_k (s := 2) (lo := 0) (hi := 99) (v := loN w 30) rfl rfl (by omega) (by omega) (by omega)
    have h2 : iv K (setA (n, g, t, u, q) 2 (nI (loN w 30))) := setA_iv ok (by omega) hr
    have wf2 := h2.1.1
    refine ex_istore (lv' := [(9, .int (nI 2)), (4, .int (nI pe)), (3, .int (nI n)), (2, .int w), (1, .int v), (0, .ref b)]) dL_does_366 (by decide) rfl ?_
    refine ex_iload 0 dL_does_368 rfl ?_
    refine ex_if_ne (tgt := 385) dL_does_370 (by decide) (fun c_370 => ?_) (fun c_370 => absurd c_370 (by decide))
    refine ex_iload 0 dL_does_385 rfl ?_
    refine ex_iconst (v := nI 1) dL_does_387 (by decide) ?_
    refine ex_icmp_ne (tgt := 401) dL_does_388 (by decide) (fun c_388 => ?_) (fun c_388 => absurd c_388 (by decide))
    refine ex_iload 0 dL_does_401 rfl ?_
    refine ex_iconst (v := nI 2) dL_does_403 (by decide) ?_
    refine ex_icmp_ne (tgt := 416) dL_does_404 (by decide) (fun c_404 => absurd (by decide) c_404) (fun c_404 => ?_)
    refine ex_iload_n 3 dL_does_407 rfl rfl ?_
    refine ex_bipush (v := nI 30) dL_does_408 (by decide) ?_
    refine ex_callS0 (As := [.int w, .int (nI 30)]) (v := .int (nI (loN w 30))) vl_L_46 (c_low (by omega) (by omega)) rfl (by decide) (Nat.le_of_ble_eq_true rfl) (Nat.zero_le _) (Nat.zero_le _) rfl dL_does_410 ?_
    refine ex_goto (tgt := 456) dL_does_413 (by decide) ?_
    refine ex_istore (lv' := [(10, .int (nI (loN w 30))), (9, .int (nI 2)), (4, .int (nI pe)), (3, .int (nI n)), (2, .int w), (1, .int v), (0, .ref b)]) dL_does_456 (by decide) rfl ?_
    refine ex_aload_n 6 dL_does_458 rfl rfl ?_
    refine ex_iload 1 dL_does_459 rfl ?_
    refine ex_cnt (k := 2) (v := u 2) vl_L_8 S wf (by decide) rfl (by decide) (Nat.le_of_ble_eq_true rfl) (by omega) (by omega) dL_does_461 (fun h S => ?_)
    refine ex_istore (lv' := [(11, .int (u 2)), (10, .int (nI (loN w 30))), (9, .int (nI 2)), (4, .int (nI pe)), (3, .int (nI n)), (2, .int w), (1, .int v), (0, .ref b)]) dL_does_464 (by decide) rfl ?_
    refine ex_aload_n 7 dL_does_466 rfl rfl ?_
    refine ex_iload 2 dL_does_467 rfl ?_
    refine ex_iload 1 dL_does_469 rfl ?_
    refine ex_ch (As := [.int (nI 2), .int (nI (loN w 30))]) (v := u 2) (x2 := ((n, g, t, (upd u 2 (nI (loN w 30))), q), (recX ((n, g, t, u, q), R) A0).2)) vl_L_69 rfl S (c_set S n8) (X_set_k (x := ((n, g, t, u, q), R)) (by omega) hr) rfl (by decide) (Nat.le_of_ble_eq_true rfl) (by omega) (by omega) rfl dL_does_471 (fun h S => ?_)
    refine ex_iload 0 dL_does_474 rfl ?_
    refine ex_icmp_ne (tgt := 494) dL_does_476 (by decide) (fun c_476 => absurd (rfl) c_476) (fun c_476 => ?_)
    refine ex_aload_n 7 dL_does_479 rfl rfl ?_
    refine ex_iload 2 dL_does_480 rfl ?_
    refine ex_cnt (k := 2) (v := nI (loN w 30)) vl_L_8 S wf2 (by decide) rfl (by decide) (Nat.le_of_ble_eq_true rfl) (by omega) (by omega) dL_does_482 (fun h S => ?_)
    refine ex_iload 1 dL_does_485 rfl ?_
    refine ex_icmp_ne (tgt := 494) dL_does_487 (by decide) (fun c_487 => absurd (rfl) c_487) (fun c_487 => ?_)
    refine ex_iconst (v := nI 1) dL_does_490 (by decide) ?_
    refine ex_goto (tgt := 495) dL_does_491 (by decide) ?_
    refine ex_widen (c2 := 88) (s2 := 600) (by omega) (by omega) ?_
    exact ex_zret hQ rfl (by decide) ⟨rfl, (Nat.le_refl _), _, S, h2.up (by omega), hV⟩ dL_does_495
  · have hv9 := loN_lt (v := w) (n := 36) (by omega)
    have hr := rng_k (s := 3) (lo := 5) (hi := 40) (v := 5 + loN w 36) rfl rfl (by omega) (by omega) (by omega)
    have h2 : iv K (setA (n, g, t, u, q) 3 (nI (5 + loN w 36))) := setA_iv ok (by omega) hr
    have wf2 := h2.1.1
    refine ex_istore (lv' := [(9, .int (nI 3)), (4, .int (nI pe)), (3, .int (nI n)), (2, .int w), (1, .int v), (0, .ref b)]) dL_does_366 (by decide) rfl ?_
    refine ex_iload 0 dL_does_368 rfl ?_
    refine ex_if_ne (tgt := 385) dL_does_370 (by decide) (fun c_370 => ?_) (fun c_370 => absurd c_370 (by decide))
    refine ex_iload 0 dL_does_385 rfl ?_
    refine ex_iconst (v := nI 1) dL_does_387 (by decide) ?_
    refine ex_icmp_ne (tgt := 401) dL_does_388 (by decide) (fun c_388 => ?_) (fun c_388 => absurd c_388 (by decide))
    refine ex_iload 0 dL_does_401 rfl ?_
    refine ex_iconst (v := nI 2) dL_does_403 (by decide) ?_
    refine ex_icmp_ne (tgt := 416) dL_does_404 (by decide) (fun c_404 => ?_) (fun c_404 => absurd c_404 (by decide))
    refine ex_iload 0 dL_does_416 rfl ?_
    refine ex_iconst (v := nI 3) dL_does_418 (by decide) ?_
    refine ex_icmp_ne (tgt := 433) dL_does_419 (by decide) (fun c_419 => absurd (by decide) c_419) (fun c_419 => ?_)
    refine ex_iconst (v := nI 5) dL_does_422 (by decide) ?_
    refine ex_iload_n 3 dL_does_423 rfl rfl ?_
    refine ex_bipush (v := nI 36) dL_does_424 (by decide) ?_
    refine ex_callS0 (As := [.int w, .int (nI 36)]) (v := .int (nI (loN w 36))) vl_L_46 (c_low (by omega) (by omega)) rfl (by decide) (Nat.le_of_ble_eq_true rfl) (Nat.zero_le _) (Nat.zero_le _) rfl dL_does_426 ?_
    refine ex_iaddN dL_does_429 ?_
    refine ex_goto (tgt := 456) dL_does_430 (by decide) ?_
    refine ex_istore (lv' := [(10, .int (nI (5 + (loN w 36)))), (9, .int (nI 3)), (4, .int (nI pe)), (3, .int (nI n)), (2, .int w), (1, .int v), (0, .ref b)]) dL_does_456 (by decide) rfl ?_
    refine ex_aload_n 6 dL_does_458 rfl rfl ?_
    refine ex_iload 1 dL_does_459 rfl ?_
    refine ex_cnt (k := 3) (v := u 3) vl_L_8 S wf (by decide) rfl (by decide) (Nat.le_of_ble_eq_true rfl) (by omega) (by omega) dL_does_461 (fun h S => ?_)
    refine ex_istore (lv' := [(11, .int (u 3)), (10, .int (nI (5 + (loN w 36)))), (9, .int (nI 3)), (4, .int (nI pe)), (3, .int (nI n)), (2, .int w), (1, .int v), (0, .ref b)]) dL_does_464 (by decide) rfl ?_
    refine ex_aload_n 7 dL_does_466 rfl rfl ?_
    refine ex_iload 2 dL_does_467 rfl ?_
    refine ex_iload 1 dL_does_469 rfl ?_
    refine ex_ch (As := [.int (nI 3), .int (nI (5 + (loN w 36)))]) (v := u 3) (x2 := ((n, g, t, (upd u 3 (nI (5 + loN w 36))), q), (recX ((n, g, t, u, q), R) A0).2)) vl_L_69 rfl S (c_set S n8) (X_set_k (x := ((n, g, t, u, q), R)) (by omega) hr) rfl (by decide) (Nat.le_of_ble_eq_true rfl) (by omega) (by omega) rfl dL_does_471 (fun h S => ?_)
    refine ex_iload 0 dL_does_474 rfl ?_
    refine ex_icmp_ne (tgt := 494) dL_does_476 (by decide) (fun c_476 => absurd (rfl) c_476) (fun c_476 => ?_)
    refine ex_aload_n 7 dL_does_479 rfl rfl ?_
    refine ex_iload 2 dL_does_480 rfl ?_
    refine ex_cnt (k := 3) (v := nI (5 + loN w 36)) vl_L_8 S wf2 (by decide) rfl (by decide) (Nat.le_of_ble_eq_true rfl) (by omega) (by omega) dL_does_482 (fun h S => ?_)
    refine ex_iload 1 dL_does_485 rfl ?_
    refine ex_icmp_ne (tgt := 494) dL_does_487 (by decide) (fun c_487 => absurd (rfl) c_487) (fun c_487 => ?_)
    refine ex_iconst (v := nI 1) dL_does_490 (by decide) ?_
    refine ex_goto (tgt := 495) dL_does_491 (by decide) ?_
    refine ex_widen (c2 := 88) (s2 := 600) (by omega) (by omega) ?_
    exact ex_zret hQ rfl (by decide) ⟨rfl, (Nat.le_refl _), _, S, h2.up (by omega), hV⟩ dL_does_495
  · have hv9 := loN_lt (v := w) (n := 9) (by omega)
    have hr := rng_k (s := 4) (lo := 1) (hi := 9) (v := 1 + loN w 9) rfl rfl (by omega) (by omega) (by omega)
    have h2 : iv K (setA (n, g, t, u, q) 4 (nI (1 + loN w 9))) := setA_iv ok (by omega) hr
    have wf2 := h2.1.1
    refine ex_istore (lv' := [(9, .int (nI 4)), (4, .int (nI pe)), (3, .int (nI n)), (2, .int w), (1, .int v), (0, .ref b)]) dL_does_366 (by decide) rfl ?_
    refine ex_iload 0 dL_does_368 rfl ?_
    refine ex_if_ne (tgt := 385) dL_does_370 (by decide) (fun c_370 => ?_) (fun c_370 => absurd c_370 (by decide))
    refine ex_iload 0 dL_does_385 rfl ?_
    refine ex_iconst (v := nI 1) dL_does_387 (by decide) ?_
    refine ex_icmp_ne (tgt := 401) dL_does_388 (by decide) (fun c_388 => ?_) (fun c_388 => absurd c_388 (by decide))
    refine ex_iload 0 dL_does_401 rfl ?_
    refine ex_iconst (v := nI 2) dL_does_403 (by decide) ?_
    refine ex_icmp_ne (tgt := 416) dL_does_404 (by decide) (fun c_404 => ?_) (fun c_404 => absurd c_404 (by decide))
    refine ex_iload 0 dL_does_416 rfl ?_
    refine ex_iconst (v := nI 3) dL_does_418 (by decide) ?_
    refine ex_icmp_ne (tgt := 433) dL_does_419 (by decide) (fun c_419 => ?_) (fun c_419 => absurd c_419 (by decide))
    refine ex_iload 0 dL_does_433 rfl ?_
    refine ex_iconst (v := nI 4) dL_does_435 (by decide) ?_
    refine ex_icmp_ne (tgt := 450) dL_does_436 (by decide) (fun c_436 => absurd (by decide) c_436) (fun c_436 => ?_)
    refine ex_iconst (v := nI 1) dL_does_439 (by decide) ?_
    refine ex_iload_n 3 dL_does_440 rfl rfl ?_
    refine ex_bipush (v := nI 9) dL_does_441 (by decide) ?_
    refine ex_callS0 (As := [.int w, .int (nI 9)]) (v := .int (nI (loN w 9))) vl_L_46 (c_low (by omega) (by omega)) rfl (by decide) (Nat.le_of_ble_eq_true rfl) (Nat.zero_le _) (Nat.zero_le _) rfl dL_does_443 ?_
    refine ex_iaddN dL_does_446 ?_
    refine ex_goto (tgt := 456) dL_does_447 (by decide) ?_
    refine ex_istore (lv' := [(10, .int (nI (1 + (loN w 9)))), (9, .int (nI 4)), (4, .int (nI pe)), (3, .int (nI n)), (2, .int w), (1, .int v), (0, .ref b)]) dL_does_456 (by decide) rfl ?_
    refine ex_aload_n 6 dL_does_458 rfl rfl ?_
    refine ex_iload 1 dL_does_459 rfl ?_
    refine ex_cnt (k := 4) (v := u 4) vl_L_8 S wf (by decide) rfl (by decide) (Nat.le_of_ble_eq_true rfl) (by omega) (by omega) dL_does_461 (fun h S => ?_)
    refine ex_istore (lv' := [(11, .int (u 4)), (10, .int (nI (1 + (loN w 9)))), (9, .int (nI 4)), (4, .int (nI pe)), (3, .int (nI n)), (2, .int w), (1, .int v), (0, .ref b)]) dL_does_464 (by decide) rfl ?_
    refine ex_aload_n 7 dL_does_466 rfl rfl ?_
    refine ex_iload 2 dL_does_467 rfl ?_
    refine ex_iload 1 dL_does_469 rfl ?_
    refine ex_ch (As := [.int (nI 4), .int (nI (1 + (loN w 9)))]) (v := u 4) (x2 := ((n, g, t, (upd u 4 (nI (1 + loN w 9))), q), (recX ((n, g, t, u, q), R) A0).2)) vl_L_69 rfl S (c_set S n8) (X_set_k (x := ((n, g, t, u, q), R)) (by omega) hr) rfl (by decide) (Nat.le_of_ble_eq_true rfl) (by omega) (by omega) rfl dL_does_471 (fun h S => ?_)
    refine ex_iload 0 dL_does_474 rfl ?_
    refine ex_icmp_ne (tgt := 494) dL_does_476 (by decide) (fun c_476 => absurd (rfl) c_476) (fun c_476 => ?_)
    refine ex_aload_n 7 dL_does_479 rfl rfl ?_
    refine ex_iload 2 dL_does_480 rfl ?_
    refine ex_cnt (k := 4) (v := nI (1 + loN w 9)) vl_L_8 S wf2 (by decide) rfl (by decide) (Nat.le_of_ble_eq_true rfl) (by omega) (by omega) dL_does_482 (fun h S => ?_)
    refine ex_iload 1 dL_does_485 rfl ?_
    refine ex_icmp_ne (tgt := 494) dL_does_487 (by decide) (fun c_487 => absurd (rfl) c_487) (fun c_487 => ?_)
    refine ex_iconst (v := nI 1) dL_does_490 (by decide) ?_
    refine ex_goto (tgt := 495) dL_does_491 (by decide) ?_
    refine ex_widen (c2 := 88) (s2 := 600) (by omega) (by omega) ?_
    exact ex_zret hQ rfl (by decide) ⟨rfl, (Nat.le_refl _), _, S, h2.up (by omega), hV⟩ dL_does_495
  · have hv9 := loN_lt (v := w) (n := 61) (by omega)
    have hr := rng_k (s := 5) (lo := 0) (hi := 60) (v := loN w 61) rfl rfl (by omega) (by omega) (by omega)
    have h2 : iv K (setA (n, g, t, u, q) 5 (nI (loN w 61))) := setA_iv ok (by omega) hr
    have wf2 := h2.1.1
    refine ex_istore (lv' := [(9, .int (nI 5)), (4, .int (nI pe)), (3, .int (nI n)), (2, .int w), (1, .int v), (0, .ref b)]) dL_does_366 (by decide) rfl ?_
    refine ex_iload 0 dL_does_368 rfl ?_
    refine ex_if_ne (tgt := 385) dL_does_370 (by decide) (fun c_370 => ?_) (fun c_370 => absurd c_370 (by decide))
    refine ex_iload 0 dL_does_385 rfl ?_
    refine ex_iconst (v := nI 1) dL_does_387 (by decide) ?_
    refine ex_icmp_ne (tgt := 401) dL_does_388 (by decide) (fun c_388 => ?_) (fun c_388 => absurd c_388 (by decide))
    refine ex_iload 0 dL_does_401 rfl ?_
    refine ex_iconst (v := nI 2) dL_does_403 (by decide) ?_
    refine ex_icmp_ne (tgt := 416) dL_does_404 (by decide) (fun c_404 => ?_) (fun c_404 => absurd c_404 (by decide))
    refine ex_iload 0 dL_does_416 rfl ?_
    refine ex_iconst (v := nI 3) dL_does_418 (by decide) ?_
    refine ex_icmp_ne (tgt := 433) dL_does_419 (by decide) (fun c_419 => ?_) (fun c_419 => absurd c_419 (by decide))
    refine ex_iload 0 dL_does_433 rfl ?_
    refine ex_iconst (v := nI 4) dL_does_435 (by decide) ?_
    refine ex_icmp_ne (tgt := 450) dL_does_436 (by decide) (fun c_436 => ?_) (fun c_436 => absurd c_436 (by decide))
    refine ex_iload_n 3 dL_does_450 rfl rfl ?_
    refine ex_bipush (v := nI 61) dL_does_451 (by decide) ?_
    refine ex_callS0 (As := [.int w, .int (nI 61)]) (v := .int (nI (loN w 61))) vl_L_46 (c_low (by omega) (by omega)) rfl (by decide) (Nat.le_of_ble_eq_true rfl) (Nat.zero_le _) (Nat.zero_le _) rfl dL_does_453 ?_
    refine ex_istore (lv' := [(10, .int (nI (loN w 61))), (9, .int (nI 5)), (4, .int (nI pe)), (3, .int (nI n)), (2, .int w), (1, .int v), (0, .ref b)]) dL_does_456 (by decide) rfl ?_
    refine ex_aload_n 6 dL_does_458 rfl rfl ?_
    refine ex_iload 1 dL_does_459 rfl ?_
    refine ex_cnt (k := 5) (v := u 5) vl_L_8 S wf (by decide) rfl (by decide) (Nat.le_of_ble_eq_true rfl) (by omega) (by omega) dL_does_461 (fun h S => ?_)
    refine ex_istore (lv' := [(11, .int (u 5)), (10, .int (nI (loN w 61))), (9, .int (nI 5)), (4, .int (nI pe)), (3, .int (nI n)), (2, .int w), (1, .int v), (0, .ref b)]) dL_does_464 (by decide) rfl ?_
    refine ex_aload_n 7 dL_does_466 rfl rfl ?_
    refine ex_iload 2 dL_does_467 rfl ?_
    refine ex_iload 1 dL_does_469 rfl ?_
    refine ex_ch (As := [.int (nI 5), .int (nI (loN w 61))]) (v := u 5) (x2 := ((n, g, t, (upd u 5 (nI (loN w 61))), q), (recX ((n, g, t, u, q), R) A0).2)) vl_L_69 rfl S (c_set S n8) (X_set_k (x := ((n, g, t, u, q), R)) (by omega) hr) rfl (by decide) (Nat.le_of_ble_eq_true rfl) (by omega) (by omega) rfl dL_does_471 (fun h S => ?_)
    refine ex_iload 0 dL_does_474 rfl ?_
    refine ex_icmp_ne (tgt := 494) dL_does_476 (by decide) (fun c_476 => absurd (rfl) c_476) (fun c_476 => ?_)
    refine ex_aload_n 7 dL_does_479 rfl rfl ?_
    refine ex_iload 2 dL_does_480 rfl ?_
    refine ex_cnt (k := 5) (v := nI (loN w 61)) vl_L_8 S wf2 (by decide) rfl (by decide) (Nat.le_of_ble_eq_true rfl) (by omega) (by omega) dL_does_482 (fun h S => ?_)
    refine ex_iload 1 dL_does_485 rfl ?_
    refine ex_icmp_ne (tgt := 494) dL_does_487 (by decide) (fun c_487 => absurd (rfl) c_487) (fun c_487 => ?_)
    refine ex_iconst (v := nI 1) dL_does_490 (by decide) ?_
    refine ex_goto (tgt := 495) dL_does_491 (by decide) ?_
    refine ex_widen (c2 := 88) (s2 := 600) (by omega) (by omega) ?_
    exact ex_zret hQ rfl (by decide) ⟨rfl, (Nat.le_refl _), _, S, h2.up (by omega), hV⟩ dL_does_495

set_option maxRecDepth 20000 in
set_option maxHeartbeats 2000000 in
theorem d496 {G : GG} {l : Launch} {X : CT} {Q : State → Prop} {h : HP} {z b n t : Nat} {u : Nat → Int32} {q : Nat → Nat → Int32} {R : RX} {K : Nat} {v w : Int32} {g : Option Nat} {pe : Nat} (hQ : RQ G X Q 88 600 (pDo G b z K)) (S : PP G h z b ((n, g, t, u, q), R)) (ok : iv K (n, g, t, u, q)) (h1K : 100000 ≤ K) (hK : K < 2 ^ 22) (hV : nV R) (hpe : ¬ n = 0 → pe < n) : ex G l X Q 8 88 600 0 0 cL_does yL_does.cls 12 (some .boolean) h z 496 [(4, .int (nI pe)), (3, .int (nI n)), (2, .int w), (1, .int v), (0, .ref b)] [] := by
  have wf : wfA (n, g, t, u, q) := ok.1.1
  have n8 : n ≤ 8 := wf.1
  have tw : t < n ∨ t = 0 := wf.2.2
  have ok1 := ok.1
  have ow := ok.2
  refine ex_iload_n 1 dL_does_496 rfl rfl ?_
  refine ex_if_eq (tgt := 521) dL_does_497 (by decide) (fun c_497 => ?_) (fun c_497 => ?_)
  · have n_497 : n = 0 := (nI_eq (b := 0) (by omega) (by omega)).mp c_497
    refine ex_iconst (v := nI 1) dL_does_521 (by decide) ?_
    refine ex_goto (tgt := 526) dL_does_522 (by decide) ?_
    refine ex_widen (c2 := 88) (s2 := 600) (by omega) (by omega) ?_
    exact ex_zret hQ rfl (by decide) ⟨rfl, (Nat.le_refl _), _, S, ok.up (by omega), hV⟩ dL_does_526
  · have n_497 : ¬ (n = 0) := fun q9 => c_497 ((nI_eq (b := 0) (by omega) (by omega)).mpr q9)
    refine ex_aload_n 4 dL_does_500 rfl rfl ?_
    refine ex_bipush (v := nI 6) dL_does_501 (by decide) ?_
    refine ex_cnt (k := 6) (v := u 6) vl_L_8 S wf (by decide) rfl (by decide) (Nat.le_of_ble_eq_true rfl) (by omega) (by omega) dL_does_503 (fun h S => ?_)
    refine ex_sipush (v := nI 9800) dL_does_506 (by decide) ?_
    refine ex_icmp_gt (tgt := 521) dL_does_509 (by decide) (fun c_509 => ?_) (fun c_509 => ?_)
    · refine ex_iconst (v := nI 1) dL_does_521 (by decide) ?_
      refine ex_goto (tgt := 526) dL_does_522 (by decide) ?_
      refine ex_widen (c2 := 88) (s2 := 600) (by omega) (by omega) ?_
      exact ex_zret hQ rfl (by decide) ⟨rfl, (Nat.le_refl _), _, S, ok.up (by omega), hV⟩ dL_does_526
    · refine ex_aload_n 4 dL_does_512 rfl rfl ?_
      refine ex_iload 0 dL_does_513 rfl ?_
      refine ex_callS (As := [.ref b, .int (nI pe)]) vl_L_72 (c_isBest (x := ((n, g, t, u, q), R)) (hpe n_497) hV S ok (by omega) c_509) rfl (by decide) (Nat.le_of_ble_eq_true rfl) (by omega) (by omega) rfl dL_does_515 (fun r1 h1 z1 hp1 => ?_)
      obtain ⟨rfl, hz, R9, S, hV9⟩ := hp1
      refine ex_if_eq (tgt := 525) dL_does_518 (by decide) (fun c_518 => absurd c_518 (by decide)) (fun c_518 => ?_)
      refine ex_iconst (v := nI 1) dL_does_521 (by decide) ?_
      refine ex_goto (tgt := 526) dL_does_522 (by decide) ?_
      refine ex_widen (c2 := 88) (s2 := 600) (by omega) (by omega) ?_
      exact ex_zret hQ rfl (by decide) ⟨rfl, hz, _, S, ok.up (by omega), hV9⟩ dL_does_526

set_option maxRecDepth 20000 in
set_option maxHeartbeats 2000000 in
theorem d527 {G : GG} {l : Launch} {X : CT} {Q : State → Prop} {h : HP} {z b n t : Nat} {u : Nat → Int32} {q : Nat → Nat → Int32} {R : RX} {K : Nat} {v w : Int32} {g : Option Nat} {pe : Nat} (hQ : RQ G X Q 88 600 (pDo G b z K)) (S : PP G h z b ((n, g, t, u, q), R)) (ok : iv K (n, g, t, u, q)) (h1K : 100000 ≤ K) (hK : K < 2 ^ 22) (hV : nV R)  : ex G l X Q 8 88 600 0 0 cL_does yL_does.cls 12 (some .boolean) h z 527 [(4, .int (nI pe)), (3, .int (nI n)), (2, .int w), (1, .int v), (0, .ref b)] [] := by
  have wf : wfA (n, g, t, u, q) := ok.1.1
  have n8 : n ≤ 8 := wf.1
  have tw : t < n ∨ t = 0 := wf.2.2
  have ok1 := ok.1
  have ow := ok.2
  refine ex_aload_n 4 dL_does_527 rfl rfl ?_
  refine ex_bipush (v := nI 6) dL_does_528 (by decide) ?_
  refine ex_cnt (k := 6) (v := u 6) vl_L_8 S wf (by decide) rfl (by decide) (Nat.le_of_ble_eq_true rfl) (by omega) (by omega) dL_does_530 (fun h S => ?_)
  refine ex_sipush (v := nI 9800) dL_does_533 (by decide) ?_
  refine ex_icmp_gt (tgt := 554) dL_does_536 (by decide) (fun c_536 => ?_) (fun c_536 => ?_)
  · refine ex_iconst (v := nI 1) dL_does_554 (by decide) ?_
    refine ex_goto (tgt := 559) dL_does_555 (by decide) ?_
    refine ex_widen (c2 := 88) (s2 := 600) (by omega) (by omega) ?_
    exact ex_zret hQ rfl (by decide) ⟨rfl, (Nat.le_refl _), _, S, ok.up (by omega), hV⟩ dL_does_559
  · refine ex_aload_n 4 dL_does_539 rfl rfl ?_
    refine ex_iconst (v := nI 1) dL_does_540 (by decide) ?_
    refine ex_iload_n 2 dL_does_541 rfl rfl ?_
    refine ex_bipush (v := nI 99) dL_does_542 (by decide) ?_
    refine ex_callS0 (As := [.int w, .int (nI 99)]) (v := .int (nI (loN w 99))) vl_L_46 (c_low (by omega) (by omega)) rfl (by decide) (Nat.le_of_ble_eq_true rfl) (Nat.zero_le _) (Nat.zero_le _) rfl dL_does_544 ?_
    refine ex_iaddN dL_does_547 ?_
    have hk9 := loN_lt (v := w) (n := 99) (by omega)
    refine ex_callS (As := [.ref b, .int (nI (1 + loN w 99))]) vl_L_75 (c_areDays (x := ((n, g, t, u, q), R)) (by omega) (by omega) S ok (by omega) c_536) rfl (by decide) (Nat.le_of_ble_eq_true rfl) (by omega) (by omega) rfl dL_does_548 (fun r1 h1 z1 hp1 => ?_)
    obtain ⟨rfl, rfl, S⟩ := hp1
    rw [pass_of (x := ((n, g, t, u, q), R)) (by omega) (by omega) (d_ok ok (by omega) c_536 (by omega))] at S
    refine ex_if_eq (tgt := 558) dL_does_551 (by decide) (fun c_551 => absurd c_551 (by decide)) (fun c_551 => ?_)
    refine ex_iconst (v := nI 1) dL_does_554 (by decide) ?_
    refine ex_goto (tgt := 559) dL_does_555 (by decide) ?_
    refine ex_widen (c2 := 88) (s2 := 600) (by omega) (by omega) ?_
    exact ex_zret hQ rfl (by decide) ⟨rfl, (Nat.le_refl _), _, S, (itA_iv ok _ (by omega)).up (by omega), hV⟩ dL_does_559

set_option maxRecDepth 20000 in
set_option maxHeartbeats 2000000 in
theorem d560 {G : GG} {l : Launch} {X : CT} {Q : State → Prop} {h : HP} {z b n t : Nat} {u : Nat → Int32} {q : Nat → Nat → Int32} {R : RX} {K : Nat} {v w : Int32} {g : Option Nat} {pe : Nat} (hQ : RQ G X Q 88 600 (pDo G b z K)) (S : PP G h z b ((n, g, t, u, q), R)) (ok : iv K (n, g, t, u, q)) (h1K : 100000 ≤ K) (hK : K < 2 ^ 22) (hV : nV R)  : ex G l X Q 8 88 600 0 0 cL_does yL_does.cls 12 (some .boolean) h z 560 [(4, .int (nI pe)), (3, .int (nI n)), (2, .int w), (1, .int v), (0, .ref b)] [] := by
  have wf : wfA (n, g, t, u, q) := ok.1.1
  have n8 : n ≤ 8 := wf.1
  have tw : t < n ∨ t = 0 := wf.2.2
  have ok1 := ok.1
  have ow := ok.2
  refine ex_aload_n 4 dL_does_560 rfl rfl ?_
  refine ex_bipush (v := nI 6) dL_does_561 (by decide) ?_
  refine ex_cnt (k := 6) (v := u 6) vl_L_8 S wf (by decide) rfl (by decide) (Nat.le_of_ble_eq_true rfl) (by omega) (by omega) dL_does_563 (fun h S => ?_)
  refine ex_sipush (v := nI 9800) dL_does_566 (by decide) ?_
  refine ex_icmp_gt (tgt := 579) dL_does_569 (by decide) (fun c_569 => ?_) (fun c_569 => ?_)
  · refine ex_iconst (v := nI 1) dL_does_579 (by decide) ?_
    refine ex_goto (tgt := 584) dL_does_580 (by decide) ?_
    refine ex_widen (c2 := 88) (s2 := 600) (by omega) (by omega) ?_
    exact ex_zret hQ rfl (by decide) ⟨rfl, (Nat.le_refl _), _, S, ok.up (by omega), hV⟩ dL_does_584
  · refine ex_aload_n 4 dL_does_572 rfl rfl ?_
    refine ex_callS2 (As := [.ref b]) vw_L_78 (c_isDay (x := ((n, g, t, u, q), R)) S ok (by omega) c_569) rfl (by decide) (Nat.le_of_ble_eq_true rfl) (by omega) (by omega) rfl dL_does_573 (fun r1 h1 z1 hp1 => ?_)
    obtain ⟨rfl, rfl, S⟩ := hp1
    rw [pass_of (x := ((n, g, t, u, q), R)) (by omega) (by omega) (d_ok ok (by omega) c_569 (by omega))] at S
    refine ex_if_eq (tgt := 583) dL_does_576 (by decide) (fun c_576 => absurd c_576 (by decide)) (fun c_576 => ?_)
    refine ex_iconst (v := nI 1) dL_does_579 (by decide) ?_
    refine ex_goto (tgt := 584) dL_does_580 (by decide) ?_
    refine ex_widen (c2 := 88) (s2 := 600) (by omega) (by omega) ?_
    exact ex_zret hQ rfl (by decide) ⟨rfl, (Nat.le_refl _), _, S, (itA_iv ok 1 (by omega)).up (by omega), hV⟩ dL_does_584

set_option maxRecDepth 20000 in
set_option maxHeartbeats 2000000 in
theorem c_doesA {G : GG} {l : Launch} {h0 : HP} {z b : Nat} {n : Nat} {t : Nat} {u : Nat → Int32} {q : Nat → Nat → Int32} {R : RX} {K : Nat} {g : Option Nat} {v w : Int32} (S0 : PP G h0 z b ((n, g, t, u, q), R)) (ok : iv K (n, g, t, u, q)) (hK : K < 2 ^ 22) (h1K : 100000 ≤ K) (hV : nV R) : Ct G l 8 88 600 yL_does cL_does 12 (some .boolean) [.ref b, .int v, .int w] h0 z (pDo G b z K) := by
  refine Ct.intro (lv := [(0, .ref b), (1, .int v), (2, .int w)]) (by decide +kernel) (Nat.le_of_ble_eq_true rfl) rfl (fun X Q hQ hnm => ?_)
  have S := S0
  have wf : wfA (n, g, t, u, q) := ok.1.1
  have n8 : n ≤ 8 := wf.1
  have tw : t < n ∨ t = 0 := wf.2.2
  have ok1 := ok.1
  have ow := ok.2
  refine ex_aload_n 0 dL_does_0 rfl rfl ?_
  refine ex_bipush (v := nI 7) dL_does_1 (by decide) ?_
  refine ex_cnt (k := 7) (v := nI n) vl_L_8 S wf (by decide) rfl (by decide) (Nat.le_of_ble_eq_true rfl) (by omega) (by omega) dL_does_3 (fun h S => ?_)
  refine ex_istore_n (lv' := [(3, .int (nI n)), (0, .ref b), (1, .int v), (2, .int w)]) dL_does_6 rfl (by decide) rfl ?_
  refine ex_iload_n 0 dL_does_7 rfl rfl ?_
  refine ex_if_ne (tgt := 15) dL_does_8 (by decide) (fun c_8 => ?_) (fun c_8 => ?_)
  · have n_8 : ¬ (n = 0) := fun q9 => c_8 ((nI_eq (b := 0) (by omega) (by omega)).mpr q9)
    refine ex_iload_n 2 dL_does_15 rfl rfl ?_
    refine ex_iconst (v := nI 4) dL_does_16 (by decide) ?_
    refine ex_ishr dL_does_17 (fun v17 e17 => ?_)
    refine ex_iload_n 0 dL_does_18 rfl rfl ?_
    refine ex_callS0 (As := [.int v17, .int (nI n)]) (v := .int (nI (loN v17 n))) vl_L_46 (c_low (by omega) (by omega)) rfl (by decide) (Nat.le_of_ble_eq_true rfl) (Nat.zero_le _) (Nat.zero_le _) rfl dL_does_19 ?_
    refine ex_istore (lv' := [(4, .int (nI (loN v17 n))), (3, .int (nI n)), (0, .ref b), (1, .int v), (2, .int w)]) dL_does_22 (by decide) rfl ?_
    refine ex_iload_n 3 dL_does_24 rfl rfl ?_
    refine ex_bipush (v := nI 16) dL_does_25 (by decide) ?_
    refine ex_callS0 (As := [.int v, .int (nI 16)]) (v := .int (nI (loN v 16))) vl_L_46 (c_low (by omega) (by omega)) rfl (by decide) (Nat.le_of_ble_eq_true rfl) (Nat.zero_le _) (Nat.zero_le _) rfl dL_does_27 ?_
    obtain ⟨s, hs⟩ : ∃ s, s = loN v 16 := ⟨_, rfl⟩
    have hs6 := loN_lt (v := v) (n := 16) (by omega)
    rw [← hs]
    rw [← hs] at hs6
    rcases (show s = 0 ∨ s = 1 ∨ s = 2 ∨ s = 3 ∨ s = 4 ∨ s = 5 ∨ s = 6 ∨ s = 7 ∨ s = 8 ∨ s = 9 ∨ s = 10 ∨ s = 11 ∨ s = 12 ∨ s = 13 ∨ s = 14 ∨ s = 15 by omega) with rfl | rfl | rfl | rfl | rfl | rfl | rfl | rfl | rfl | rfl | rfl | rfl | rfl | rfl | rfl | rfl
    · refine ex_tableIn (off := 66) (tgt := 96) dL_does_30 (by decide) (by decide) (by decide) (by decide) ?_
      refine ex_lv (lv2 := [(4, .int (nI (loN v17 n))), (3, .int (nI n)), (2, .int w), (1, .int v), (0, .ref b)]) [0, 1, 4, 3, 2] rfl ?_
      exact d96 (pe := loN v17 n) hQ S ok h1K hK hV
    · refine ex_tableIn (off := 66) (tgt := 96) dL_does_30 (by decide) (by decide) (by decide) (by decide) ?_
      refine ex_lv (lv2 := [(4, .int (nI (loN v17 n))), (3, .int (nI n)), (2, .int w), (1, .int v), (0, .ref b)]) [0, 1, 4, 3, 2] rfl ?_
      exact d96 (pe := loN v17 n) hQ S ok h1K hK hV
    · refine ex_tableIn (off := 66) (tgt := 96) dL_does_30 (by decide) (by decide) (by decide) (by decide) ?_
      refine ex_lv (lv2 := [(4, .int (nI (loN v17 n))), (3, .int (nI n)), (2, .int w), (1, .int v), (0, .ref b)]) [0, 1, 4, 3, 2] rfl ?_
      exact d96 (pe := loN v17 n) hQ S ok h1K hK hV
    · refine ex_tableIn (off := 164) (tgt := 194) dL_does_30 (by decide) (by decide) (by decide) (by decide) ?_
      refine ex_lv (lv2 := [(4, .int (nI (loN v17 n))), (3, .int (nI n)), (2, .int w), (1, .int v), (0, .ref b)]) [0, 1, 4, 3, 2] rfl ?_
      exact d194 (pe := loN v17 n) hQ S ok h1K hK hV (fun _ => loN_lt (by omega))
    · refine ex_tableIn (off := 198) (tgt := 228) dL_does_30 (by decide) (by decide) (by decide) (by decide) ?_
      refine ex_lv (lv2 := [(4, .int (nI (loN v17 n))), (3, .int (nI n)), (2, .int w), (1, .int v), (0, .ref b)]) [0, 1, 4, 3, 2] rfl ?_
      rcases g with _ | i
      · exact d228N (pe := loN v17 n) hQ S ok h1K hK hV
      · exact d228S (pe := loN v17 n) hQ S ok h1K hK hV
    · refine ex_tableIn (off := 262) (tgt := 292) dL_does_30 (by decide) (by decide) (by decide) (by decide) ?_
      refine ex_lv (lv2 := [(4, .int (nI (loN v17 n))), (3, .int (nI n)), (2, .int w), (1, .int v), (0, .ref b)]) [0, 1, 4, 3, 2] rfl ?_
      exact d292 (pe := loN v17 n) hQ S ok h1K hK hV
    · refine ex_tableIn (off := 262) (tgt := 292) dL_does_30 (by decide) (by decide) (by decide) (by decide) ?_
      refine ex_lv (lv2 := [(4, .int (nI (loN v17 n))), (3, .int (nI n)), (2, .int w), (1, .int v), (0, .ref b)]) [0, 1, 4, 3, 2] rfl ?_
      exact d292 (pe := loN v17 n) hQ S ok h1K hK hV
    · refine ex_tableIn (off := 274) (tgt := 304) dL_does_30 (by decide) (by decide) (by decide) (by decide) ?_
      refine ex_lv (lv2 := [(4, .int (nI (loN v17 n))), (3, .int (nI n)), (2, .int w), (1, .int v), (0, .ref b)]) [0, 1, 4, 3, 2] rfl ?_
      exact d304 (pe := loN v17 n) hQ S ok h1K hK hV
    · refine ex_tableIn (off := 328) (tgt := 358) dL_does_30 (by decide) (by decide) (by decide) (by decide) ?_
      refine ex_lv (lv2 := [(4, .int (nI (loN v17 n))), (3, .int (nI n)), (2, .int w), (1, .int v), (0, .ref b)]) [0, 1, 4, 3, 2] rfl ?_
      exact d358 (pe := loN v17 n) hQ S ok h1K hK hV
    · refine ex_tableIn (off := 328) (tgt := 358) dL_does_30 (by decide) (by decide) (by decide) (by decide) ?_
      refine ex_lv (lv2 := [(4, .int (nI (loN v17 n))), (3, .int (nI n)), (2, .int w), (1, .int v), (0, .ref b)]) [0, 1, 4, 3, 2] rfl ?_
      exact d358 (pe := loN v17 n) hQ S ok h1K hK hV
    · refine ex_tableIn (off := 466) (tgt := 496) dL_does_30 (by decide) (by decide) (by decide) (by decide) ?_
      refine ex_lv (lv2 := [(4, .int (nI (loN v17 n))), (3, .int (nI n)), (2, .int w), (1, .int v), (0, .ref b)]) [0, 1, 4, 3, 2] rfl ?_
      exact d496 (pe := loN v17 n) hQ S ok h1K hK hV (fun _ => loN_lt (by omega))
    · refine ex_tableIn (off := 497) (tgt := 527) dL_does_30 (by decide) (by decide) (by decide) (by decide) ?_
      refine ex_lv (lv2 := [(4, .int (nI (loN v17 n))), (3, .int (nI n)), (2, .int w), (1, .int v), (0, .ref b)]) [0, 1, 4, 3, 2] rfl ?_
      exact d527 (pe := loN v17 n) hQ S ok h1K hK hV
    · refine ex_tableIn (off := 497) (tgt := 527) dL_does_30 (by decide) (by decide) (by decide) (by decide) ?_
      refine ex_lv (lv2 := [(4, .int (nI (loN v17 n))), (3, .int (nI n)), (2, .int w), (1, .int v), (0, .ref b)]) [0, 1, 4, 3, 2] rfl ?_
      exact d527 (pe := loN v17 n) hQ S ok h1K hK hV
    · refine ex_tableOut (tgt := 560) dL_does_30 (by decide) (by decide) ?_
      refine ex_lv (lv2 := [(4, .int (nI (loN v17 n))), (3, .int (nI n)), (2, .int w), (1, .int v), (0, .ref b)]) [0, 1, 4, 3, 2] rfl ?_
      exact d560 (pe := loN v17 n) hQ S ok h1K hK hV
    · refine ex_tableOut (tgt := 560) dL_does_30 (by decide) (by decide) ?_
      refine ex_lv (lv2 := [(4, .int (nI (loN v17 n))), (3, .int (nI n)), (2, .int w), (1, .int v), (0, .ref b)]) [0, 1, 4, 3, 2] rfl ?_
      exact d560 (pe := loN v17 n) hQ S ok h1K hK hV
    · refine ex_tableOut (tgt := 560) dL_does_30 (by decide) (by decide) ?_
      refine ex_lv (lv2 := [(4, .int (nI (loN v17 n))), (3, .int (nI n)), (2, .int w), (1, .int v), (0, .ref b)]) [0, 1, 4, 3, 2] rfl ?_
      exact d560 (pe := loN v17 n) hQ S ok h1K hK hV
  · have n_8 : n = 0 := (nI_eq (b := 0) (by omega) (by omega)).mp c_8
    refine ex_iconst (v := nI 0) dL_does_11 (by decide) ?_
    refine ex_goto (tgt := 22) dL_does_12 (by decide) ?_
    refine ex_istore (lv' := [(4, .int (nI 0)), (3, .int (nI n)), (0, .ref b), (1, .int v), (2, .int w)]) dL_does_22 (by decide) rfl ?_
    refine ex_iload_n 3 dL_does_24 rfl rfl ?_
    refine ex_bipush (v := nI 16) dL_does_25 (by decide) ?_
    refine ex_callS0 (As := [.int v, .int (nI 16)]) (v := .int (nI (loN v 16))) vl_L_46 (c_low (by omega) (by omega)) rfl (by decide) (Nat.le_of_ble_eq_true rfl) (Nat.zero_le _) (Nat.zero_le _) rfl dL_does_27 ?_
    obtain ⟨s, hs⟩ : ∃ s, s = loN v 16 := ⟨_, rfl⟩
    have hs6 := loN_lt (v := v) (n := 16) (by omega)
    rw [← hs]
    rw [← hs] at hs6
    rcases (show s = 0 ∨ s = 1 ∨ s = 2 ∨ s = 3 ∨ s = 4 ∨ s = 5 ∨ s = 6 ∨ s = 7 ∨ s = 8 ∨ s = 9 ∨ s = 10 ∨ s = 11 ∨ s = 12 ∨ s = 13 ∨ s = 14 ∨ s = 15 by omega) with rfl | rfl | rfl | rfl | rfl | rfl | rfl | rfl | rfl | rfl | rfl | rfl | rfl | rfl | rfl | rfl
    · refine ex_tableIn (off := 66) (tgt := 96) dL_does_30 (by decide) (by decide) (by decide) (by decide) ?_
      refine ex_lv (lv2 := [(4, .int (nI 0)), (3, .int (nI n)), (2, .int w), (1, .int v), (0, .ref b)]) [0, 1, 4, 3, 2] rfl ?_
      exact d96 (pe := 0) hQ S ok h1K hK hV
    · refine ex_tableIn (off := 66) (tgt := 96) dL_does_30 (by decide) (by decide) (by decide) (by decide) ?_
      refine ex_lv (lv2 := [(4, .int (nI 0)), (3, .int (nI n)), (2, .int w), (1, .int v), (0, .ref b)]) [0, 1, 4, 3, 2] rfl ?_
      exact d96 (pe := 0) hQ S ok h1K hK hV
    · refine ex_tableIn (off := 66) (tgt := 96) dL_does_30 (by decide) (by decide) (by decide) (by decide) ?_
      refine ex_lv (lv2 := [(4, .int (nI 0)), (3, .int (nI n)), (2, .int w), (1, .int v), (0, .ref b)]) [0, 1, 4, 3, 2] rfl ?_
      exact d96 (pe := 0) hQ S ok h1K hK hV
    · refine ex_tableIn (off := 164) (tgt := 194) dL_does_30 (by decide) (by decide) (by decide) (by decide) ?_
      refine ex_lv (lv2 := [(4, .int (nI 0)), (3, .int (nI n)), (2, .int w), (1, .int v), (0, .ref b)]) [0, 1, 4, 3, 2] rfl ?_
      exact d194 (pe := 0) hQ S ok h1K hK hV (fun q9 => absurd n_8 q9)
    · refine ex_tableIn (off := 198) (tgt := 228) dL_does_30 (by decide) (by decide) (by decide) (by decide) ?_
      refine ex_lv (lv2 := [(4, .int (nI 0)), (3, .int (nI n)), (2, .int w), (1, .int v), (0, .ref b)]) [0, 1, 4, 3, 2] rfl ?_
      rcases g with _ | i
      · exact d228N (pe := 0) hQ S ok h1K hK hV
      · exact d228S (pe := 0) hQ S ok h1K hK hV
    · refine ex_tableIn (off := 262) (tgt := 292) dL_does_30 (by decide) (by decide) (by decide) (by decide) ?_
      refine ex_lv (lv2 := [(4, .int (nI 0)), (3, .int (nI n)), (2, .int w), (1, .int v), (0, .ref b)]) [0, 1, 4, 3, 2] rfl ?_
      exact d292 (pe := 0) hQ S ok h1K hK hV
    · refine ex_tableIn (off := 262) (tgt := 292) dL_does_30 (by decide) (by decide) (by decide) (by decide) ?_
      refine ex_lv (lv2 := [(4, .int (nI 0)), (3, .int (nI n)), (2, .int w), (1, .int v), (0, .ref b)]) [0, 1, 4, 3, 2] rfl ?_
      exact d292 (pe := 0) hQ S ok h1K hK hV
    · refine ex_tableIn (off := 274) (tgt := 304) dL_does_30 (by decide) (by decide) (by decide) (by decide) ?_
      refine ex_lv (lv2 := [(4, .int (nI 0)), (3, .int (nI n)), (2, .int w), (1, .int v), (0, .ref b)]) [0, 1, 4, 3, 2] rfl ?_
      exact d304 (pe := 0) hQ S ok h1K hK hV
    · refine ex_tableIn (off := 328) (tgt := 358) dL_does_30 (by decide) (by decide) (by decide) (by decide) ?_
      refine ex_lv (lv2 := [(4, .int (nI 0)), (3, .int (nI n)), (2, .int w), (1, .int v), (0, .ref b)]) [0, 1, 4, 3, 2] rfl ?_
      exact d358 (pe := 0) hQ S ok h1K hK hV
    · refine ex_tableIn (off := 328) (tgt := 358) dL_does_30 (by decide) (by decide) (by decide) (by decide) ?_
      refine ex_lv (lv2 := [(4, .int (nI 0)), (3, .int (nI n)), (2, .int w), (1, .int v), (0, .ref b)]) [0, 1, 4, 3, 2] rfl ?_
      exact d358 (pe := 0) hQ S ok h1K hK hV
    · refine ex_tableIn (off := 466) (tgt := 496) dL_does_30 (by decide) (by decide) (by decide) (by decide) ?_
      refine ex_lv (lv2 := [(4, .int (nI 0)), (3, .int (nI n)), (2, .int w), (1, .int v), (0, .ref b)]) [0, 1, 4, 3, 2] rfl ?_
      exact d496 (pe := 0) hQ S ok h1K hK hV (fun q9 => absurd n_8 q9)
    · refine ex_tableIn (off := 497) (tgt := 527) dL_does_30 (by decide) (by decide) (by decide) (by decide) ?_
      refine ex_lv (lv2 := [(4, .int (nI 0)), (3, .int (nI n)), (2, .int w), (1, .int v), (0, .ref b)]) [0, 1, 4, 3, 2] rfl ?_
      exact d527 (pe := 0) hQ S ok h1K hK hV
    · refine ex_tableIn (off := 497) (tgt := 527) dL_does_30 (by decide) (by decide) (by decide) (by decide) ?_
      refine ex_lv (lv2 := [(4, .int (nI 0)), (3, .int (nI n)), (2, .int w), (1, .int v), (0, .ref b)]) [0, 1, 4, 3, 2] rfl ?_
      exact d527 (pe := 0) hQ S ok h1K hK hV
    · refine ex_tableOut (tgt := 560) dL_does_30 (by decide) (by decide) ?_
      refine ex_lv (lv2 := [(4, .int (nI 0)), (3, .int (nI n)), (2, .int w), (1, .int v), (0, .ref b)]) [0, 1, 4, 3, 2] rfl ?_
      exact d560 (pe := 0) hQ S ok h1K hK hV
    · refine ex_tableOut (tgt := 560) dL_does_30 (by decide) (by decide) ?_
      refine ex_lv (lv2 := [(4, .int (nI 0)), (3, .int (nI n)), (2, .int w), (1, .int v), (0, .ref b)]) [0, 1, 4, 3, 2] rfl ?_
      exact d560 (pe := 0) hQ S ok h1K hK hV
    · refine ex_tableOut (tgt := 560) dL_does_30 (by decide) (by decide) ?_
      refine ex_lv (lv2 := [(4, .int (nI 0)), (3, .int (nI n)), (2, .int w), (1, .int v), (0, .ref b)]) [0, 1, 4, 3, 2] rfl ?_
      exact d560 (pe := 0) hQ S ok h1K hK hV

theorem c_does {G : GG} {l : Launch} {h0 : HP} {z b K : Nat} {x : CX} {v w : Int32} (S0 : PP G h0 z b x) (ok : iv K x.1) (hK : K < 2 ^ 22) (h1K : 100000 ≤ K) (hV : nV x.2) : Ct G l 8 88 600 yL_does cL_does 12 (some .boolean) [.ref b, .int v, .int w] h0 z (pDo G b z K) := by
  obtain ⟨⟨n, g, t, u, q⟩, R⟩ := x
  exact c_doesA S0 ok hK h1K hV

