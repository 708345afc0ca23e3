set_option maxRecDepth 20000 in
set_option maxHeartbeats 2000000 in
theorem law_ex {G : GG} {l : Launch} {X : CT} {Q : State → Prop} {b0 LL b : Nat} {xs : Nat → Int32} (hX : va_X b LL xs X.2.2.1 X.2.2.1.heap) (hbl : b < X.2.2.1.heap.size) (hbA : ¬ fr G b) (hL : LL ≤ 1536) (hret : ∀ (h : HP) (z pc : Nat) (lv : List (Nat × Value)), decode cL_law pc = .ok (.ireturn, 1) → ex G l X Q 9 600000 7302250 600000 7302250 cL_law RL 4 (some .boolean) h z pc lv [.int (nI 1)]) : ex G l X Q 9 600000 7302250 0 0 cL_law RL 4 (some .boolean) (fun _ => none) b0 0 [(0, .ref b)] [] := by
  refine ex_new nl_L_7 (by decide) (by decide) dL_law_0 ?_
  refine ex_dup dL_law_3 rfl ?_
  refine ex_callI (As := []) vl_L_9 (c_Xinit hu_s) rfl (by decide) (Nat.le_of_ble_eq_true rfl) (by decide) (by decide) rfl dL_law_4 (fun r1 h1 z1 hp => ?_)
  obtain ⟨rfl, rfl, C1⟩ := hp
  refine ex_astore_n (lv' := [(1, .ref b0), (0, .ref b)]) dL_law_7 rfl (by decide) rfl ?_
  refine ex_new nl_L_10 (by decide) (by decide) dL_law_8 ?_
  refine ex_dup dL_law_11 rfl ?_
  refine ex_callI (As := []) vl_L_12 (m_init hu_s) rfl (by decide) (Nat.le_of_ble_eq_true rfl) (by decide) (by decide) rfl dL_law_12 (fun r2 h2 z2 hp => ?_)
  obtain ⟨rfl, rfl, M1⟩ := hp
  have S : PP G h2 (b0 + 100) b0 x0 := C1.pp (fun a g1 g2 => by rw [M1.out a (by omega), hu_n (by omega)])
  have M : MP G h2 (b0 + 94) x0 := M1.mp
  refine ex_astore_n (lv' := [(2, .ref (b0 + 94)), (1, .ref b0), (0, .ref b)]) dL_law_15 rfl (by decide) rfl ?_
  refine ex_iconst (v := nI 0) dL_law_16 (by decide) ?_
  refine ex_istore_n (lv' := [(3, .int (nI 0)), (2, .ref (b0 + 94)), (1, .ref b0), (0, .ref b)]) dL_law_17 rfl (by decide) rfl ?_
  suffices H : ∀ (F i : Nat) (x : CX) (h : HP) (z : Nat), LL - i < F → i ≤ LL → okX (100000 + 34 * i) x → PP G h z b0 x → MP G h (b0 + 94) x → ex G l X Q 9 600000 7302250 (100 + 4 * i) (1396 + 25 * i) cL_law RL 4 (some .boolean) h z 18 [(3, .int (nI i)), (2, .ref (b0 + 94)), (1, .ref b0), (0, .ref b)] [] from by
    have e2 := H (LL + 1) 0 x0 h2 (b0 + 100) (by omega) (by omega) (x0_ok (by omega)) S M
    refine ex_lv (lv2 := [(3, .int (nI 0)), (2, .ref (b0 + 94)), (1, .ref b0), (0, .ref b)]) [0, 1, 2, 3] rfl ?_
    exact e2
  intro F
  induction F with
  | zero => intro i x h z hF; omega
  | succ F ih =>
    intro i x h z hF hi ok S M
    obtain ⟨⟨n, g, t, u, q⟩, k, L, V, len, c⟩ := x
    have n8 : n ≤ 8 := ok.1.1.1
    have wf : wfA (n, g, t, u, q) := ok.1.1
    have m3 : 0 < u 3 := ok.1.m3
    have gw : ∀ i, g = some i → i < n := ok.1.1.2.1
    have tw : t < n ∨ t = 0 := ok.1.1.2.2
    have hc : ∀ i, i < len → c i < 65536 := ok.2.2.2.2.1
    have nL : ∀ j, j < k → (L j).1 ≤ 8 := fun j hj => (ok.2.1 j hj).1.1
    have nV : ∀ i B, V i = some B → B.1 ≤ 8 := fun i B e => (ok.2.2.2.1 i B e).1.1
    have k6 : k ≤ 6 := ok.2.2.1
    have hK : 100000 + 34 * i < 2 ^ 29 := by omega
    by_cases hi3 : i + 3 ≤ LL
    · refine ex_iload_n 0 dL_law_18 rfl rfl ?_
      refine ex_aload_n 3 dL_law_19 rfl rfl ?_
      refine ex_slen hX hbl hbA dL_law_20 ?_
      refine ex_iconst (v := nI 3) dL_law_21 (by decide) ?_
      refine ex_isub dL_law_22 ?_
      refine ex_icmp_gt (tgt := 624) dL_law_23 (by decide) (fun c_23 => absurd c_23 (law_ge hL hi3)) (fun c_23 => ?_)
      refine ex_aload_n 3 dL_law_26 rfl rfl ?_
      refine ex_iload_n 0 dL_law_27 rfl rfl ?_
      refine ex_sld (j := i) hX hbl hbA rfl (by omega) (by omega) dL_law_28 ?_
      refine ex_bipush (v := nI 31) dL_law_29 (by decide) ?_
      refine ex_iand dL_law_31 ?_
      obtain ⟨j, hj, ej⟩ := and31 (x := xs i)
      rw [ej]
      rcases (show j = 0 ∨ j = 1 ∨ j = 2 ∨ j = 3 ∨ j = 4 ∨ j = 5 ∨ j = 6 ∨ j = 7 ∨ j = 8 ∨ j = 9 ∨ j = 10 ∨ j = 11 ∨ j = 12 ∨ j = 13 ∨ j = 14 ∨ j = 15 ∨ j = 16 ∨ j = 17 ∨ j = 18 ∨ j = 19 ∨ 20 ≤ j by omega) with rfl | rfl | rfl | rfl | rfl | rfl | rfl | rfl | rfl | rfl | rfl | rfl | rfl | rfl | rfl | rfl | rfl | rfl | rfl | rfl | h20
      · refine ex_tableIn (off := 96) (tgt := 128) dL_law_32 (by decide) (by decide) (by decide) (by decide) ?_
        refine ex_aload_n 2 dL_law_128 rfl rfl ?_
        refine ex_aload_n 3 dL_law_129 rfl rfl ?_
        refine ex_iload_n 0 dL_law_130 rfl rfl ?_
        refine ex_iconst (v := nI 1) dL_law_131 (by decide) ?_
        refine ex_iaddN dL_law_132 ?_
        refine ex_sld (j := i + 1) hX hbl hbA rfl (by omega) (by omega) dL_law_133 ?_
        refine ex_aload_n 3 dL_law_134 rfl rfl ?_
        refine ex_iload_n 0 dL_law_135 rfl rfl ?_
        refine ex_iconst (v := nI 2) dL_law_136 (by decide) ?_
        refine ex_iaddN dL_law_137 ?_
        refine ex_sld (j := i + 2) hX hbl hbA rfl (by omega) (by omega) dL_law_138 ?_
        refine ex_callV (As := [.int (xs (i + 1)), .int (xs (i + 2))]) (ci := 4) vl_L_13 rfl (c_set S n8) S.ob rfl (by decide) (Nat.le_of_ble_eq_true rfl) (by omega) (by omega) rfl dL_law_139 (fun r1 h1 z1 hp => ?_)
        obtain ⟨e1, e2, S1⟩ := hp
        subst e1
        subst e2
        have M := S1.mod M
        have S : PP G h1 z1 b0 (X_set ((n, g, t, u, q), k, L, V, len, c) (xs (i + 1)) (xs (i + 2))).2 := S1.1
        clear S1
        refine ex_aload_n 1 dL_law_142 rfl rfl ?_
        refine ex_aload_n 3 dL_law_143 rfl rfl ?_
        refine ex_iload_n 0 dL_law_144 rfl rfl ?_
        refine ex_iconst (v := nI 1) dL_law_145 (by decide) ?_
        refine ex_iaddN dL_law_146 ?_
        refine ex_sld (j := i + 1) hX hbl hbA rfl (by omega) (by omega) dL_law_147 ?_
        refine ex_aload_n 3 dL_law_148 rfl rfl ?_
        refine ex_iload_n 0 dL_law_149 rfl rfl ?_
        refine ex_iconst (v := nI 2) dL_law_150 (by decide) ?_
        refine ex_iaddN dL_law_151 ?_
        refine ex_sld (j := i + 2) hX hbl hbA rfl (by omega) (by omega) dL_law_152 ?_
        refine ex_callV (As := [.int (xs (i + 1)), .int (xs (i + 2))]) (ci := 5) vl_L_17 rfl (m_set M n8 nL) M.ob rfl (by decide) (Nat.le_of_ble_eq_true rfl) (by omega) (by omega) rfl dL_law_153 (fun r2 h2 z2 hp => ?_)
        obtain ⟨e1, e2, M1⟩ := hp
        subst e1
        subst e2
        have S := S.kept2 M1.out
        have M : MP G h2 (b0 + 94) (X_set ((n, g, t, u, q), k, L, V, len, c) (xs (i + 1)) (xs (i + 2))).2 := M1.mp
        clear M1
        refine ex_icmp_eq (tgt := 618) dL_law_156 (by decide) (fun c_156 => ?_) (fun c_156 => absurd (rfl) c_156)
        refine ex_iinc (v := nI (i + 3)) (lv' := [(3, .int (nI (i + 3))), (2, .ref (b0 + 94)), (1, .ref b0), (0, .ref b)]) 0 dL_law_618 rfl (nI_add i 3) (by decide) rfl ?_
        refine ex_goto (tgt := 18) dL_law_621 (by decide) ?_
        refine ex_widen (c2 := 100 + 4 * (i + 3)) (s2 := 1396 + 25 * (i + 3)) (by omega) (by omega) ?_
        have e2 := ih (i + 3) (X_set ((n, g, t, u, q), k, L, V, len, c) (xs (i + 1)) (xs (i + 2))).2 _ _ (by omega) (by omega) ((X_set_ok ok).up (by omega)) S M
        refine ex_lv (lv2 := [(3, .int (nI (i + 3))), (2, .ref (b0 + 94)), (1, .ref b0), (0, .ref b)]) [0, 1, 2, 3] rfl ?_
        exact e2
      · refine ex_tableIn (off := 129) (tgt := 161) dL_law_32 (by decide) (by decide) (by decide) (by decide) ?_
        refine ex_aload_n 2 dL_law_161 rfl rfl ?_
        refine ex_aload_n 3 dL_law_162 rfl rfl ?_
        refine ex_iload_n 0 dL_law_163 rfl rfl ?_
        refine ex_iconst (v := nI 1) dL_law_164 (by decide) ?_
        refine ex_iaddN dL_law_165 ?_
        refine ex_sld (j := i + 1) hX hbl hbA rfl (by omega) (by omega) dL_law_166 ?_
        refine ex_aload_n 3 dL_law_167 rfl rfl ?_
        refine ex_iload_n 0 dL_law_168 rfl rfl ?_
        refine ex_iconst (v := nI 2) dL_law_169 (by decide) ?_
        refine ex_iaddN dL_law_170 ?_
        refine ex_sld (j := i + 2) hX hbl hbA rfl (by omega) (by omega) dL_law_171 ?_
        refine ex_callV (As := [.int (xs (i + 1)), .int (xs (i + 2))]) (ci := 4) vl_L_18 rfl (c_add S n8) S.ob rfl (by decide) (Nat.le_of_ble_eq_true rfl) (by omega) (by omega) rfl dL_law_172 (fun r1 h1 z1 hp => ?_)
        obtain ⟨e1, e2, S1⟩ := hp
        subst e1
        subst e2
        have M := S1.mod M
        have S : PP G h1 z1 b0 (X_add ((n, g, t, u, q), k, L, V, len, c) (xs (i + 1)) (xs (i + 2))).2 := S1.1
        clear S1
        refine ex_aload_n 1 dL_law_175 rfl rfl ?_
        refine ex_aload_n 3 dL_law_176 rfl rfl ?_
        refine ex_iload_n 0 dL_law_177 rfl rfl ?_
        refine ex_iconst (v := nI 1) dL_law_178 (by decide) ?_
        refine ex_iaddN dL_law_179 ?_
        refine ex_sld (j := i + 1) hX hbl hbA rfl (by omega) (by omega) dL_law_180 ?_
        refine ex_aload_n 3 dL_law_181 rfl rfl ?_
        refine ex_iload_n 0 dL_law_182 rfl rfl ?_
        refine ex_iconst (v := nI 2) dL_law_183 (by decide) ?_
        refine ex_iaddN dL_law_184 ?_
        refine ex_sld (j := i + 2) hX hbl hbA rfl (by omega) (by omega) dL_law_185 ?_
        refine ex_callV (As := [.int (xs (i + 1)), .int (xs (i + 2))]) (ci := 5) vl_L_21 rfl (m_add M n8 nL) M.ob rfl (by decide) (Nat.le_of_ble_eq_true rfl) (by omega) (by omega) rfl dL_law_186 (fun r2 h2 z2 hp => ?_)
        obtain ⟨e1, e2, M1⟩ := hp
        subst e1
        subst e2
        have S := S.kept2 M1.out
        have M : MP G h2 (b0 + 94) (X_add ((n, g, t, u, q), k, L, V, len, c) (xs (i + 1)) (xs (i + 2))).2 := M1.mp
        clear M1
        refine ex_icmp_eq (tgt := 618) dL_law_189 (by decide) (fun c_189 => ?_) (fun c_189 => absurd (rfl) c_189)
        refine ex_iinc (v := nI (i + 3)) (lv' := [(3, .int (nI (i + 3))), (2, .ref (b0 + 94)), (1, .ref b0), (0, .ref b)]) 0 dL_law_618 rfl (nI_add i 3) (by decide) rfl ?_
        refine ex_goto (tgt := 18) dL_law_621 (by decide) ?_
        refine ex_widen (c2 := 100 + 4 * (i + 3)) (s2 := 1396 + 25 * (i + 3)) (by omega) (by omega) ?_
        have e2 := ih (i + 3) (X_add ((n, g, t, u, q), k, L, V, len, c) (xs (i + 1)) (xs (i + 2))).2 _ _ (by omega) (by omega) ((X_add_ok ok).up (by omega)) S M
        refine ex_lv (lv2 := [(3, .int (nI (i + 3))), (2, .ref (b0 + 94)), (1, .ref b0), (0, .ref b)]) [0, 1, 2, 3] rfl ?_
        exact e2
      · refine ex_tableIn (off := 162) (tgt := 194) dL_law_32 (by decide) (by decide) (by decide) (by decide) ?_
        refine ex_aload_n 2 dL_law_194 rfl rfl ?_
        refine ex_callV (As := []) (ci := 4) vl_L_22 rfl (c_read S n8 hc) S.ob rfl (by decide) (Nat.le_of_ble_eq_true rfl) (by omega) (by omega) rfl dL_law_195 (fun r1 h1 z1 hp => ?_)
        obtain ⟨e1, e2, S1⟩ := hp
        subst e1
        subst e2
        have M := S1.mod M
        have S : PP G h1 z1 b0 (X_read ((n, g, t, u, q), k, L, V, len, c)).2 := S1.1
        clear S1
        refine ex_aload_n 1 dL_law_198 rfl rfl ?_
        refine ex_callV (As := []) (ci := 5) vl_L_26 rfl (m_read M n8 nL hc) M.ob rfl (by decide) (Nat.le_of_ble_eq_true rfl) (by omega) (by omega) rfl dL_law_199 (fun r2 h2 z2 hp => ?_)
        obtain ⟨e1, e2, M1⟩ := hp
        subst e1
        subst e2
        have S := S.kept2 M1.out
        have M : MP G h2 (b0 + 94) (X_read ((n, g, t, u, q), k, L, V, len, c)).2 := M1.mp
        clear M1
        refine ex_icmp_eq (tgt := 618) dL_law_202 (by decide) (fun c_202 => ?_) (fun c_202 => absurd (rfl) c_202)
        refine ex_iinc (v := nI (i + 3)) (lv' := [(3, .int (nI (i + 3))), (2, .ref (b0 + 94)), (1, .ref b0), (0, .ref b)]) 0 dL_law_618 rfl (nI_add i 3) (by decide) rfl ?_
        refine ex_goto (tgt := 18) dL_law_621 (by decide) ?_
        refine ex_widen (c2 := 100 + 4 * (i + 3)) (s2 := 1396 + 25 * (i + 3)) (by omega) (by omega) ?_
        have e2 := ih (i + 3) (X_read ((n, g, t, u, q), k, L, V, len, c)).2 _ _ (by omega) (by omega) ((X_read_ok ok).up (by omega)) S M
        refine ex_lv (lv2 := [(3, .int (nI (i + 3))), (2, .ref (b0 + 94)), (1, .ref b0), (0, .ref b)]) [0, 1, 2, 3] rfl ?_
        exact e2
      · refine ex_tableIn (off := 175) (tgt := 207) dL_law_32 (by decide) (by decide) (by decide) (by decide) ?_
        refine ex_aload_n 2 dL_law_207 rfl rfl ?_
        refine ex_aload_n 3 dL_law_208 rfl rfl ?_
        refine ex_iload_n 0 dL_law_209 rfl rfl ?_
        refine ex_iconst (v := nI 1) dL_law_210 (by decide) ?_
        refine ex_iaddN dL_law_211 ?_
        refine ex_sld (j := i + 1) hX hbl hbA rfl (by omega) (by omega) dL_law_212 ?_
        refine ex_aload_n 3 dL_law_213 rfl rfl ?_
        refine ex_iload_n 0 dL_law_214 rfl rfl ?_
        refine ex_iconst (v := nI 2) dL_law_215 (by decide) ?_
        refine ex_iaddN dL_law_216 ?_
        refine ex_sld (j := i + 2) hX hbl hbA rfl (by omega) (by omega) dL_law_217 ?_
        refine ex_callV (As := [.int (xs (i + 1)), .int (xs (i + 2))]) (ci := 4) vl_L_27 rfl (c_move S n8 gw tw) S.ob rfl (by decide) (Nat.le_of_ble_eq_true rfl) (by omega) (by omega) rfl dL_law_218 (fun r1 h1 z1 hp => ?_)
        obtain ⟨e1, e2, S1⟩ := hp
        subst e1
        subst e2
        have M := S1.mod M
        have S : PP G h1 z1 b0 (X_move ((n, g, t, u, q), k, L, V, len, c) (xs (i + 1)) (xs (i + 2))).2 := S1.1
        clear S1
        refine ex_aload_n 1 dL_law_221 rfl rfl ?_
        refine ex_aload_n 3 dL_law_222 rfl rfl ?_
        refine ex_iload_n 0 dL_law_223 rfl rfl ?_
        refine ex_iconst (v := nI 1) dL_law_224 (by decide) ?_
        refine ex_iaddN dL_law_225 ?_
        refine ex_sld (j := i + 1) hX hbl hbA rfl (by omega) (by omega) dL_law_226 ?_
        refine ex_aload_n 3 dL_law_227 rfl rfl ?_
        refine ex_iload_n 0 dL_law_228 rfl rfl ?_
        refine ex_iconst (v := nI 2) dL_law_229 (by decide) ?_
        refine ex_iaddN dL_law_230 ?_
        refine ex_sld (j := i + 2) hX hbl hbA rfl (by omega) (by omega) dL_law_231 ?_
        refine ex_callV (As := [.int (xs (i + 1)), .int (xs (i + 2))]) (ci := 5) vl_L_30 rfl (m_move M n8 nL gw tw) M.ob rfl (by decide) (Nat.le_of_ble_eq_true rfl) (by omega) (by omega) rfl dL_law_232 (fun r2 h2 z2 hp => ?_)
        obtain ⟨e1, e2, M1⟩ := hp
        subst e1
        subst e2
        have S := S.kept2 M1.out
        have M : MP G h2 (b0 + 94) (X_move ((n, g, t, u, q), k, L, V, len, c) (xs (i + 1)) (xs (i + 2))).2 := M1.mp
        clear M1
        refine ex_icmp_eq (tgt := 618) dL_law_235 (by decide) (fun c_235 => ?_) (fun c_235 => absurd (rfl) c_235)
        refine ex_iinc (v := nI (i + 3)) (lv' := [(3, .int (nI (i + 3))), (2, .ref (b0 + 94)), (1, .ref b0), (0, .ref b)]) 0 dL_law_618 rfl (nI_add i 3) (by decide) rfl ?_
        refine ex_goto (tgt := 18) dL_law_621 (by decide) ?_
        refine ex_widen (c2 := 100 + 4 * (i + 3)) (s2 := 1396 + 25 * (i + 3)) (by omega) (by omega) ?_
        have e2 := ih (i + 3) (X_move ((n, g, t, u, q), k, L, V, len, c) (xs (i + 1)) (xs (i + 2))).2 _ _ (by omega) (by omega) ((X_move_ok ok).up (by omega)) S M
        refine ex_lv (lv2 := [(3, .int (nI (i + 3))), (2, .ref (b0 + 94)), (1, .ref b0), (0, .ref b)]) [0, 1, 2, 3] rfl ?_
        exact e2
      · refine ex_tableIn (off := 208) (tgt := 240) dL_law_32 (by decide) (by decide) (by decide) (by decide) ?_
        refine ex_aload_n 2 dL_law_240 rfl rfl ?_
        refine ex_callV (As := []) (ci := 4) vl_L_31 rfl (c_stepDown S n8 gw) S.ob rfl (by decide) (Nat.le_of_ble_eq_true rfl) (by omega) (by omega) rfl dL_law_241 (fun r1 h1 z1 hp => ?_)
        obtain ⟨e1, e2, S1⟩ := hp
        subst e1
        subst e2
        have M := S1.mod M
        have S : PP G h1 z1 b0 (X_stepDown ((n, g, t, u, q), k, L, V, len, c)).2 := S1.1
        clear S1
        refine ex_aload_n 1 dL_law_244 rfl rfl ?_
        refine ex_callV (As := []) (ci := 5) vl_L_34 rfl (m_stepDown M n8 nL gw) M.ob rfl (by decide) (Nat.le_of_ble_eq_true rfl) (by omega) (by omega) rfl dL_law_245 (fun r2 h2 z2 hp => ?_)
        obtain ⟨e1, e2, M1⟩ := hp
        subst e1
        subst e2
        have S := S.kept2 M1.out
        have M : MP G h2 (b0 + 94) (X_stepDown ((n, g, t, u, q), k, L, V, len, c)).2 := M1.mp
        clear M1
        refine ex_icmp_eq (tgt := 618) dL_law_248 (by decide) (fun c_248 => ?_) (fun c_248 => absurd (rfl) c_248)
        refine ex_iinc (v := nI (i + 3)) (lv' := [(3, .int (nI (i + 3))), (2, .ref (b0 + 94)), (1, .ref b0), (0, .ref b)]) 0 dL_law_618 rfl (nI_add i 3) (by decide) rfl ?_
        refine ex_goto (tgt := 18) dL_law_621 (by decide) ?_
        refine ex_widen (c2 := 100 + 4 * (i + 3)) (s2 := 1396 + 25 * (i + 3)) (by omega) (by omega) ?_
        have e2 := ih (i + 3) (X_stepDown ((n, g, t, u, q), k, L, V, len, c)).2 _ _ (by omega) (by omega) ((X_stepDown_ok ok).up (by omega)) S M
        refine ex_lv (lv2 := [(3, .int (nI (i + 3))), (2, .ref (b0 + 94)), (1, .ref b0), (0, .ref b)]) [0, 1, 2, 3] rfl ?_
        exact e2
      · refine ex_tableIn (off := 221) (tgt := 253) dL_law_32 (by decide) (by decide) (by decide) (by decide) ?_
        refine ex_aload_n 2 dL_law_253 rfl rfl ?_
        refine ex_aload_n 3 dL_law_254 rfl rfl ?_
        refine ex_iload_n 0 dL_law_255 rfl rfl ?_
        refine ex_iconst (v := nI 1) dL_law_256 (by decide) ?_
        refine ex_iaddN dL_law_257 ?_
        refine ex_sld (j := i + 1) hX hbl hbA rfl (by omega) (by omega) dL_law_258 ?_
        refine ex_callV (As := [.int (xs (i + 1))]) (ci := 4) vl_L_35 rfl (c_appeal S n8 gw) S.ob rfl (by decide) (Nat.le_of_ble_eq_true rfl) (by omega) (by omega) rfl dL_law_259 (fun r1 h1 z1 hp => ?_)
        obtain ⟨e1, e2, S1⟩ := hp
        subst e1
        subst e2
        have M := S1.mod M
        have S : PP G h1 z1 b0 (X_appeal ((n, g, t, u, q), k, L, V, len, c) (xs (i + 1))).2 := S1.1
        clear S1
        refine ex_aload_n 1 dL_law_262 rfl rfl ?_
        refine ex_aload_n 3 dL_law_263 rfl rfl ?_
        refine ex_iload_n 0 dL_law_264 rfl rfl ?_
        refine ex_iconst (v := nI 1) dL_law_265 (by decide) ?_
        refine ex_iaddN dL_law_266 ?_
        refine ex_sld (j := i + 1) hX hbl hbA rfl (by omega) (by omega) dL_law_267 ?_
        refine ex_callV (As := [.int (xs (i + 1))]) (ci := 5) vl_L_39 rfl (m_appeal M n8 nL gw) M.ob rfl (by decide) (Nat.le_of_ble_eq_true rfl) (by omega) (by omega) rfl dL_law_268 (fun r2 h2 z2 hp => ?_)
        obtain ⟨e1, e2, M1⟩ := hp
        subst e1
        subst e2
        have S := S.kept2 M1.out
        have M : MP G h2 (b0 + 94) (X_appeal ((n, g, t, u, q), k, L, V, len, c) (xs (i + 1))).2 := M1.mp
        clear M1
        refine ex_icmp_eq (tgt := 618) dL_law_271 (by decide) (fun c_271 => ?_) (fun c_271 => absurd (rfl) c_271)
        refine ex_iinc (v := nI (i + 3)) (lv' := [(3, .int (nI (i + 3))), (2, .ref (b0 + 94)), (1, .ref b0), (0, .ref b)]) 0 dL_law_618 rfl (nI_add i 3) (by decide) rfl ?_
        refine ex_goto (tgt := 18) dL_law_621 (by decide) ?_
        refine ex_widen (c2 := 100 + 4 * (i + 3)) (s2 := 1396 + 25 * (i + 3)) (by omega) (by omega) ?_
        have e2 := ih (i + 3) (X_appeal ((n, g, t, u, q), k, L, V, len, c) (xs (i + 1))).2 _ _ (by omega) (by omega) ((X_appeal_ok ok hK).up (by omega)) S M
        refine ex_lv (lv2 := [(3, .int (nI (i + 3))), (2, .ref (b0 + 94)), (1, .ref b0), (0, .ref b)]) [0, 1, 2, 3] rfl ?_
        exact e2
      · refine ex_tableIn (off := 244) (tgt := 276) dL_law_32 (by decide) (by decide) (by decide) (by decide) ?_
        refine ex_aload_n 2 dL_law_276 rfl rfl ?_
        refine ex_aload_n 3 dL_law_277 rfl rfl ?_
        refine ex_iload_n 0 dL_law_278 rfl rfl ?_
        refine ex_iconst (v := nI 1) dL_law_279 (by decide) ?_
        refine ex_iaddN dL_law_280 ?_
        refine ex_sld (j := i + 1) hX hbl hbA rfl (by omega) (by omega) dL_law_281 ?_
        refine ex_callV (As := [.int (xs (i + 1))]) (ci := 4) vl_L_40 rfl (c_give S n8) S.ob rfl (by decide) (Nat.le_of_ble_eq_true rfl) (by omega) (by omega) rfl dL_law_282 (fun r1 h1 z1 hp => ?_)
        obtain ⟨e1, e2, S1⟩ := hp
        subst e1
        subst e2
        have M := S1.mod M
        have S : PP G h1 z1 b0 (X_give ((n, g, t, u, q), k, L, V, len, c) (xs (i + 1))).2 := S1.1
        clear S1
        refine ex_aload_n 1 dL_law_285 rfl rfl ?_
        refine ex_aload_n 3 dL_law_286 rfl rfl ?_
        refine ex_iload_n 0 dL_law_287 rfl rfl ?_
        refine ex_iconst (v := nI 1) dL_law_288 (by decide) ?_
        refine ex_iaddN dL_law_289 ?_
        refine ex_sld (j := i + 1) hX hbl hbA rfl (by omega) (by omega) dL_law_290 ?_
        refine ex_callV (As := [.int (xs (i + 1))]) (ci := 5) vl_L_43 rfl (m_give M n8 nL) M.ob rfl (by decide) (Nat.le_of_ble_eq_true rfl) (by omega) (by omega) rfl dL_law_291 (fun r2 h2 z2 hp => ?_)
        obtain ⟨e1, e2, M1⟩ := hp
        subst e1
        subst e2
        have S := S.kept2 M1.out
        have M : MP G h2 (b0 + 94) (X_give ((n, g, t, u, q), k, L, V, len, c) (xs (i + 1))).2 := M1.mp
        clear M1
        refine ex_icmp_eq (tgt := 618) dL_law_294 (by decide) (fun c_294 => ?_) (fun c_294 => absurd (rfl) c_294)
        refine ex_iinc (v := nI (i + 3)) (lv' := [(3, .int (nI (i + 3))), (2, .ref (b0 + 94)), (1, .ref b0), (0, .ref b)]) 0 dL_law_618 rfl (nI_add i 3) (by decide) rfl ?_
        refine ex_goto (tgt := 18) dL_law_621 (by decide) ?_
        refine ex_widen (c2 := 100 + 4 * (i + 3)) (s2 := 1396 + 25 * (i + 3)) (by omega) (by omega) ?_
        have e2 := ih (i + 3) (X_give ((n, g, t, u, q), k, L, V, len, c) (xs (i + 1))).2 _ _ (by omega) (by omega) ((X_give_ok ok (by omega) hK).up (by omega)) S M
        refine ex_lv (lv2 := [(3, .int (nI (i + 3))), (2, .ref (b0 + 94)), (1, .ref b0), (0, .ref b)]) [0, 1, 2, 3] rfl ?_
        exact e2
      · refine ex_tableIn (off := 267) (tgt := 299) dL_law_32 (by decide) (by decide) (by decide) (by decide) ?_
        refine ex_aload_n 2 dL_law_299 rfl rfl ?_
        refine ex_aload_n 3 dL_law_300 rfl rfl ?_
        refine ex_iload_n 0 dL_law_301 rfl rfl ?_
        refine ex_iconst (v := nI 1) dL_law_302 (by decide) ?_
        refine ex_iaddN dL_law_303 ?_
        refine ex_sld (j := i + 1) hX hbl hbA rfl (by omega) (by omega) dL_law_304 ?_
        refine ex_callV (As := [.int (xs (i + 1))]) (ci := 4) vl_L_44 rfl (c_pass S wf m3) S.ob rfl (by decide) (Nat.le_of_ble_eq_true rfl) (by omega) (by omega) rfl dL_law_305 (fun r1 h1 z1 hp => ?_)
        obtain ⟨e1, e2, S1⟩ := hp
        subst e1
        subst e2
        have M := S1.mod M
        have S : PP G h1 z1 b0 (X_pass ((n, g, t, u, q), k, L, V, len, c) (xs (i + 1))).2 := S1.1
        clear S1
        refine ex_aload_n 1 dL_law_308 rfl rfl ?_
        refine ex_aload_n 3 dL_law_309 rfl rfl ?_
        refine ex_iload_n 0 dL_law_310 rfl rfl ?_
        refine ex_iconst (v := nI 1) dL_law_311 (by decide) ?_
        refine ex_iaddN dL_law_312 ?_
        refine ex_sld (j := i + 1) hX hbl hbA rfl (by omega) (by omega) dL_law_313 ?_
        refine ex_callV (As := [.int (xs (i + 1))]) (ci := 5) vl_L_47 rfl (m_pass M nL ok.1 hK) M.ob rfl (by decide) (Nat.le_of_ble_eq_true rfl) (by omega) (by omega) rfl dL_law_314 (fun r2 h2 z2 hp => ?_)
        obtain ⟨e1, e2, M1⟩ := hp
        subst e1
        subst e2
        have S := S.kept2 M1.out
        have M : MP G h2 (b0 + 94) (X_pass ((n, g, t, u, q), k, L, V, len, c) (xs (i + 1))).2 := M1.mp
        clear M1
        refine ex_icmp_eq (tgt := 618) dL_law_317 (by decide) (fun c_317 => ?_) (fun c_317 => absurd (rfl) c_317)
        refine ex_iinc (v := nI (i + 3)) (lv' := [(3, .int (nI (i + 3))), (2, .ref (b0 + 94)), (1, .ref b0), (0, .ref b)]) 0 dL_law_618 rfl (nI_add i 3) (by decide) rfl ?_
        refine ex_goto (tgt := 18) dL_law_621 (by decide) ?_
        refine ex_widen (c2 := 100 + 4 * (i + 3)) (s2 := 1396 + 25 * (i + 3)) (by omega) (by omega) ?_
        have e2 := ih (i + 3) (X_pass ((n, g, t, u, q), k, L, V, len, c) (xs (i + 1))).2 _ _ (by omega) (by omega) ((X_pass_ok ok hK).up (by omega)) S M
        refine ex_lv (lv2 := [(3, .int (nI (i + 3))), (2, .ref (b0 + 94)), (1, .ref b0), (0, .ref b)]) [0, 1, 2, 3] rfl ?_
        exact e2
      · refine ex_tableIn (off := 290) (tgt := 322) dL_law_32 (by decide) (by decide) (by decide) (by decide) ?_
        refine ex_aload_n 2 dL_law_322 rfl rfl ?_
        refine ex_aload_n 3 dL_law_323 rfl rfl ?_
        refine ex_iload_n 0 dL_law_324 rfl rfl ?_
        refine ex_iconst (v := nI 1) dL_law_325 (by decide) ?_
        refine ex_iaddN dL_law_326 ?_
        refine ex_sld (j := i + 1) hX hbl hbA rfl (by omega) (by omega) dL_law_327 ?_
        refine ex_aload_n 3 dL_law_328 rfl rfl ?_
        refine ex_iload_n 0 dL_law_329 rfl rfl ?_
        refine ex_iconst (v := nI 2) dL_law_330 (by decide) ?_
        refine ex_iaddN dL_law_331 ?_
        refine ex_sld (j := i + 2) hX hbl hbA rfl (by omega) (by omega) dL_law_332 ?_
        refine ex_callV (As := [.int (xs (i + 1)), .int (xs (i + 2))]) (ci := 4) vl_L_48 rfl (c_person S n8 gw) S.ob rfl (by decide) (Nat.le_of_ble_eq_true rfl) (by omega) (by omega) rfl dL_law_333 (fun r1 h1 z1 hp => ?_)
        obtain ⟨e1, e2, S1⟩ := hp
        subst e1
        subst e2
        have M := S1.mod M
        have S : PP G h1 z1 b0 ((n, g, t, u, q), k, L, V, len, c) := S1.1
        clear S1
        refine ex_aload_n 1 dL_law_336 rfl rfl ?_
        refine ex_aload_n 3 dL_law_337 rfl rfl ?_
        refine ex_iload_n 0 dL_law_338 rfl rfl ?_
        refine ex_iconst (v := nI 1) dL_law_339 (by decide) ?_
        refine ex_iaddN dL_law_340 ?_
        refine ex_sld (j := i + 1) hX hbl hbA rfl (by omega) (by omega) dL_law_341 ?_
        refine ex_aload_n 3 dL_law_342 rfl rfl ?_
        refine ex_iload_n 0 dL_law_343 rfl rfl ?_
        refine ex_iconst (v := nI 2) dL_law_344 (by decide) ?_
        refine ex_iaddN dL_law_345 ?_
        refine ex_sld (j := i + 2) hX hbl hbA rfl (by omega) (by omega) dL_law_346 ?_
        refine ex_callV (As := [.int (xs (i + 1)), .int (xs (i + 2))]) (ci := 5) vl_L_51 rfl (m_person M n8 nL gw) M.ob rfl (by decide) (Nat.le_of_ble_eq_true rfl) (by omega) (by omega) rfl dL_law_347 (fun r2 h2 z2 hp => ?_)
        obtain ⟨e1, e2, M1⟩ := hp
        subst e1
        subst e2
        have S := S.kept2 M1.out
        have M : MP G h2 (b0 + 94) ((n, g, t, u, q), k, L, V, len, c) := M1.mp
        clear M1
        refine ex_icmp_eq (tgt := 618) dL_law_350 (by decide) (fun c_350 => ?_) (fun c_350 => absurd (rfl) c_350)
        refine ex_iinc (v := nI (i + 3)) (lv' := [(3, .int (nI (i + 3))), (2, .ref (b0 + 94)), (1, .ref b0), (0, .ref b)]) 0 dL_law_618 rfl (nI_add i 3) (by decide) rfl ?_
        refine ex_goto (tgt := 18) dL_law_621 (by decide) ?_
        refine ex_widen (c2 := 100 + 4 * (i + 3)) (s2 := 1396 + 25 * (i + 3)) (by omega) (by omega) ?_
        have e2 := ih (i + 3) ((n, g, t, u, q), k, L, V, len, c) _ _ (by omega) (by omega) (ok.up (by omega)) S M
        refine ex_lv (lv2 := [(3, .int (nI (i + 3))), (2, .ref (b0 + 94)), (1, .ref b0), (0, .ref b)]) [0, 1, 2, 3] rfl ?_
        exact e2
      · refine ex_tableIn (off := 323) (tgt := 355) dL_law_32 (by decide) (by decide) (by decide) (by decide) ?_
        refine ex_aload_n 2 dL_law_355 rfl rfl ?_
        refine ex_aload_n 3 dL_law_356 rfl rfl ?_
        refine ex_iload_n 0 dL_law_357 rfl rfl ?_
        refine ex_iconst (v := nI 1) dL_law_358 (by decide) ?_
        refine ex_iaddN dL_law_359 ?_
        refine ex_sld (j := i + 1) hX hbl hbA rfl (by omega) (by omega) dL_law_360 ?_
        refine ex_callV (As := [.int (xs (i + 1))]) (ci := 4) vl_L_52 rfl (c_count S n8 gw) S.ob rfl (by decide) (Nat.le_of_ble_eq_true rfl) (by omega) (by omega) rfl dL_law_361 (fun r1 h1 z1 hp => ?_)
        obtain ⟨e1, e2, S1⟩ := hp
        subst e1
        subst e2
        have M := S1.mod M
        have S : PP G h1 z1 b0 ((n, g, t, u, q), k, L, V, len, c) := S1.1
        clear S1
        refine ex_aload_n 1 dL_law_364 rfl rfl ?_
        refine ex_aload_n 3 dL_law_365 rfl rfl ?_
        refine ex_iload_n 0 dL_law_366 rfl rfl ?_
        refine ex_iconst (v := nI 1) dL_law_367 (by decide) ?_
        refine ex_iaddN dL_law_368 ?_
        refine ex_sld (j := i + 1) hX hbl hbA rfl (by omega) (by omega) dL_law_369 ?_
        refine ex_callV (As := [.int (xs (i + 1))]) (ci := 5) vl_L_55 rfl (m_count M n8 nL gw) M.ob rfl (by decide) (Nat.le_of_ble_eq_true rfl) (by omega) (by omega) rfl dL_law_370 (fun r2 h2 z2 hp => ?_)
        obtain ⟨e1, e2, M1⟩ := hp
        subst e1
        subst e2
        have S := S.kept2 M1.out
        have M : MP G h2 (b0 + 94) ((n, g, t, u, q), k, L, V, len, c) := M1.mp
        clear M1
        refine ex_icmp_eq (tgt := 618) dL_law_373 (by decide) (fun c_373 => ?_) (fun c_373 => absurd (rfl) c_373)
        refine ex_iinc (v := nI (i + 3)) (lv' := [(3, .int (nI (i + 3))), (2, .ref (b0 + 94)), (1, .ref b0), (0, .ref b)]) 0 dL_law_618 rfl (nI_add i 3) (by decide) rfl ?_
        refine ex_goto (tgt := 18) dL_law_621 (by decide) ?_
        refine ex_widen (c2 := 100 + 4 * (i + 3)) (s2 := 1396 + 25 * (i + 3)) (by omega) (by omega) ?_
        have e2 := ih (i + 3) ((n, g, t, u, q), k, L, V, len, c) _ _ (by omega) (by omega) (ok.up (by omega)) S M
        refine ex_lv (lv2 := [(3, .int (nI (i + 3))), (2, .ref (b0 + 94)), (1, .ref b0), (0, .ref b)]) [0, 1, 2, 3] rfl ?_
        exact e2
      · refine ex_tableIn (off := 346) (tgt := 378) dL_law_32 (by decide) (by decide) (by decide) (by decide) ?_
        refine ex_aload_n 2 dL_law_378 rfl rfl ?_
        refine ex_aload_n 3 dL_law_379 rfl rfl ?_
        refine ex_iload_n 0 dL_law_380 rfl rfl ?_
        refine ex_iconst (v := nI 1) dL_law_381 (by decide) ?_
        refine ex_iaddN dL_law_382 ?_
        refine ex_sld (j := i + 1) hX hbl hbA rfl (by omega) (by omega) dL_law_383 ?_
        refine ex_callV (As := [.int (xs (i + 1))]) (ci := 4) vl_L_56 rfl (c_next S wf m3) S.ob rfl (by decide) (Nat.le_of_ble_eq_true rfl) (by omega) (by omega) rfl dL_law_384 (fun r1 h1 z1 hp => ?_)
        obtain ⟨e1, e2, S1⟩ := hp
        subst e1
        subst e2
        have M := S1.mod M
        have S : PP G h1 z1 b0 ((n, g, t, u, q), k, L, V, len, c) := S1.1
        clear S1
        refine ex_aload_n 1 dL_law_387 rfl rfl ?_
        refine ex_aload_n 3 dL_law_388 rfl rfl ?_
        refine ex_iload_n 0 dL_law_389 rfl rfl ?_
        refine ex_iconst (v := nI 1) dL_law_390 (by decide) ?_
        refine ex_iaddN dL_law_391 ?_
        refine ex_sld (j := i + 1) hX hbl hbA rfl (by omega) (by omega) dL_law_392 ?_
        refine ex_callV (As := [.int (xs (i + 1))]) (ci := 5) vl_L_59 rfl (m_next M nL ok.1 hK) M.ob rfl (by decide) (Nat.le_of_ble_eq_true rfl) (by omega) (by omega) rfl dL_law_393 (fun r2 h2 z2 hp => ?_)
        obtain ⟨e1, e2, M1⟩ := hp
        subst e1
        subst e2
        have S := S.kept2 M1.out
        have M : MP G h2 (b0 + 94) ((n, g, t, u, q), k, L, V, len, c) := M1.mp
        clear M1
        refine ex_icmp_eq (tgt := 618) dL_law_396 (by decide) (fun c_396 => ?_) (fun c_396 => absurd (rfl) c_396)
        refine ex_iinc (v := nI (i + 3)) (lv' := [(3, .int (nI (i + 3))), (2, .ref (b0 + 94)), (1, .ref b0), (0, .ref b)]) 0 dL_law_618 rfl (nI_add i 3) (by decide) rfl ?_
        refine ex_goto (tgt := 18) dL_law_621 (by decide) ?_
        refine ex_widen (c2 := 100 + 4 * (i + 3)) (s2 := 1396 + 25 * (i + 3)) (by omega) (by omega) ?_
        have e2 := ih (i + 3) ((n, g, t, u, q), k, L, V, len, c) _ _ (by omega) (by omega) (ok.up (by omega)) S M
        refine ex_lv (lv2 := [(3, .int (nI (i + 3))), (2, .ref (b0 + 94)), (1, .ref b0), (0, .ref b)]) [0, 1, 2, 3] rfl ?_
        exact e2
      · refine ex_tableIn (off := 369) (tgt := 401) dL_law_32 (by decide) (by decide) (by decide) (by decide) ?_
        refine ex_aload_n 2 dL_law_401 rfl rfl ?_
        refine ex_callV (As := []) (ci := 4) vl_L_60 rfl (c_untilEmpty S wf m3) S.ob rfl (by decide) (Nat.le_of_ble_eq_true rfl) (by omega) (by omega) rfl dL_law_402 (fun r1 h1 z1 hp => ?_)
        obtain ⟨e1, e2, S1⟩ := hp
        subst e1
        subst e2
        have M := S1.mod M
        have S : PP G h1 z1 b0 ((n, g, t, u, q), k, L, V, len, c) := S1.1
        clear S1
        refine ex_aload_n 1 dL_law_405 rfl rfl ?_
        refine ex_callV (As := []) (ci := 5) vl_L_63 rfl (m_untilEmpty M nL ok.1 hK) M.ob rfl (by decide) (Nat.le_of_ble_eq_true rfl) (by omega) (by omega) rfl dL_law_406 (fun r2 h2 z2 hp => ?_)
        obtain ⟨e1, e2, M1⟩ := hp
        subst e1
        subst e2
        have S := S.kept2 M1.out
        have M : MP G h2 (b0 + 94) ((n, g, t, u, q), k, L, V, len, c) := M1.mp
        clear M1
        refine ex_icmp_eq (tgt := 618) dL_law_409 (by decide) (fun c_409 => ?_) (fun c_409 => absurd (rfl) c_409)
        refine ex_iinc (v := nI (i + 3)) (lv' := [(3, .int (nI (i + 3))), (2, .ref (b0 + 94)), (1, .ref b0), (0, .ref b)]) 0 dL_law_618 rfl (nI_add i 3) (by decide) rfl ?_
        refine ex_goto (tgt := 18) dL_law_621 (by decide) ?_
        refine ex_widen (c2 := 100 + 4 * (i + 3)) (s2 := 1396 + 25 * (i + 3)) (by omega) (by omega) ?_
        have e2 := ih (i + 3) ((n, g, t, u, q), k, L, V, len, c) _ _ (by omega) (by omega) (ok.up (by omega)) S M
        refine ex_lv (lv2 := [(3, .int (nI (i + 3))), (2, .ref (b0 + 94)), (1, .ref b0), (0, .ref b)]) [0, 1, 2, 3] rfl ?_
        exact e2
      · refine ex_tableIn (off := 382) (tgt := 414) dL_law_32 (by decide) (by decide) (by decide) (by decide) ?_
        refine ex_aload_n 2 dL_law_414 rfl rfl ?_
        refine ex_aload_n 3 dL_law_415 rfl rfl ?_
        refine ex_iload_n 0 dL_law_416 rfl rfl ?_
        refine ex_iconst (v := nI 1) dL_law_417 (by decide) ?_
        refine ex_iaddN dL_law_418 ?_
        refine ex_sld (j := i + 1) hX hbl hbA rfl (by omega) (by omega) dL_law_419 ?_
        refine ex_aload_n 3 dL_law_420 rfl rfl ?_
        refine ex_iload_n 0 dL_law_421 rfl rfl ?_
        refine ex_iconst (v := nI 2) dL_law_422 (by decide) ?_
        refine ex_iaddN dL_law_423 ?_
        refine ex_sld (j := i + 2) hX hbl hbA rfl (by omega) (by omega) dL_law_424 ?_
        refine ex_callV (As := [.int (xs (i + 1)), .int (xs (i + 2))]) (ci := 4) vl_L_64 rfl (c_ifPassed S wf m3) S.ob rfl (by decide) (Nat.le_of_ble_eq_true rfl) (by omega) (by omega) rfl dL_law_425 (fun r1 h1 z1 hp => ?_)
        obtain ⟨e1, e2, S1⟩ := hp
        subst e1
        subst e2
        have M := S1.mod M
        have S : PP G h1 z1 b0 ((n, g, t, u, q), k, L, V, len, c) := S1.1
        clear S1
        refine ex_aload_n 1 dL_law_428 rfl rfl ?_
        refine ex_aload_n 3 dL_law_429 rfl rfl ?_
        refine ex_iload_n 0 dL_law_430 rfl rfl ?_
        refine ex_iconst (v := nI 1) dL_law_431 (by decide) ?_
        refine ex_iaddN dL_law_432 ?_
        refine ex_sld (j := i + 1) hX hbl hbA rfl (by omega) (by omega) dL_law_433 ?_
        refine ex_aload_n 3 dL_law_434 rfl rfl ?_
        refine ex_iload_n 0 dL_law_435 rfl rfl ?_
        refine ex_iconst (v := nI 2) dL_law_436 (by decide) ?_
        refine ex_iaddN dL_law_437 ?_
        refine ex_sld (j := i + 2) hX hbl hbA rfl (by omega) (by omega) dL_law_438 ?_
        refine ex_callV (As := [.int (xs (i + 1)), .int (xs (i + 2))]) (ci := 5) vl_L_67 rfl (m_ifPassed M nL ok.1 hK) M.ob rfl (by decide) (Nat.le_of_ble_eq_true rfl) (by omega) (by omega) rfl dL_law_439 (fun r2 h2 z2 hp => ?_)
        obtain ⟨e1, e2, M1⟩ := hp
        subst e1
        subst e2
        have S := S.kept2 M1.out
        have M : MP G h2 (b0 + 94) ((n, g, t, u, q), k, L, V, len, c) := M1.mp
        clear M1
        refine ex_icmp_eq (tgt := 618) dL_law_442 (by decide) (fun c_442 => ?_) (fun c_442 => absurd (rfl) c_442)
        refine ex_iinc (v := nI (i + 3)) (lv' := [(3, .int (nI (i + 3))), (2, .ref (b0 + 94)), (1, .ref b0), (0, .ref b)]) 0 dL_law_618 rfl (nI_add i 3) (by decide) rfl ?_
        refine ex_goto (tgt := 18) dL_law_621 (by decide) ?_
        refine ex_widen (c2 := 100 + 4 * (i + 3)) (s2 := 1396 + 25 * (i + 3)) (by omega) (by omega) ?_
        have e2 := ih (i + 3) ((n, g, t, u, q), k, L, V, len, c) _ _ (by omega) (by omega) (ok.up (by omega)) S M
        refine ex_lv (lv2 := [(3, .int (nI (i + 3))), (2, .ref (b0 + 94)), (1, .ref b0), (0, .ref b)]) [0, 1, 2, 3] rfl ?_
        exact e2
      · refine ex_tableIn (off := 415) (tgt := 447) dL_law_32 (by decide) (by decide) (by decide) (by decide) ?_
        refine ex_aload_n 2 dL_law_447 rfl rfl ?_
        refine ex_aload_n 3 dL_law_448 rfl rfl ?_
        refine ex_iload_n 0 dL_law_449 rfl rfl ?_
        refine ex_iconst (v := nI 1) dL_law_450 (by decide) ?_
        refine ex_iaddN dL_law_451 ?_
        refine ex_sld (j := i + 1) hX hbl hbA rfl (by omega) (by omega) dL_law_452 ?_
        refine ex_aload_n 3 dL_law_453 rfl rfl ?_
        refine ex_iload_n 0 dL_law_454 rfl rfl ?_
        refine ex_iconst (v := nI 2) dL_law_455 (by decide) ?_
        refine ex_iaddN dL_law_456 ?_
        refine ex_sld (j := i + 2) hX hbl hbA rfl (by omega) (by omega) dL_law_457 ?_
        refine ex_callV (As := [.int (xs (i + 1)), .int (xs (i + 2))]) (ci := 4) vl_L_68 rfl (c_bestPlace S wf m3) S.ob rfl (by decide) (Nat.le_of_ble_eq_true rfl) (by omega) (by omega) rfl dL_law_458 (fun r1 h1 z1 hp => ?_)
        obtain ⟨e1, e2, S1⟩ := hp
        subst e1
        subst e2
        have M := S1.mod M
        have S : PP G h1 z1 b0 ((n, g, t, u, q), k, L, V, len, c) := S1.1
        clear S1
        refine ex_aload_n 1 dL_law_461 rfl rfl ?_
        refine ex_aload_n 3 dL_law_462 rfl rfl ?_
        refine ex_iload_n 0 dL_law_463 rfl rfl ?_
        refine ex_iconst (v := nI 1) dL_law_464 (by decide) ?_
        refine ex_iaddN dL_law_465 ?_
        refine ex_sld (j := i + 1) hX hbl hbA rfl (by omega) (by omega) dL_law_466 ?_
        refine ex_aload_n 3 dL_law_467 rfl rfl ?_
        refine ex_iload_n 0 dL_law_468 rfl rfl ?_
        refine ex_iconst (v := nI 2) dL_law_469 (by decide) ?_
        refine ex_iaddN dL_law_470 ?_
        refine ex_sld (j := i + 2) hX hbl hbA rfl (by omega) (by omega) dL_law_471 ?_
        refine ex_callV (As := [.int (xs (i + 1)), .int (xs (i + 2))]) (ci := 5) vl_L_71 rfl (m_bestPlace M nL ok.1 hK) M.ob rfl (by decide) (Nat.le_of_ble_eq_true rfl) (by omega) (by omega) rfl dL_law_472 (fun r2 h2 z2 hp => ?_)
        obtain ⟨e1, e2, M1⟩ := hp
        subst e1
        subst e2
        have S := S.kept2 M1.out
        have M : MP G h2 (b0 + 94) ((n, g, t, u, q), k, L, V, len, c) := M1.mp
        clear M1
        refine ex_icmp_eq (tgt := 618) dL_law_475 (by decide) (fun c_475 => ?_) (fun c_475 => absurd (rfl) c_475)
        refine ex_iinc (v := nI (i + 3)) (lv' := [(3, .int (nI (i + 3))), (2, .ref (b0 + 94)), (1, .ref b0), (0, .ref b)]) 0 dL_law_618 rfl (nI_add i 3) (by decide) rfl ?_
        refine ex_goto (tgt := 18) dL_law_621 (by decide) ?_
        refine ex_widen (c2 := 100 + 4 * (i + 3)) (s2 := 1396 + 25 * (i + 3)) (by omega) (by omega) ?_
        have e2 := ih (i + 3) ((n, g, t, u, q), k, L, V, len, c) _ _ (by omega) (by omega) (ok.up (by omega)) S M
        refine ex_lv (lv2 := [(3, .int (nI (i + 3))), (2, .ref (b0 + 94)), (1, .ref b0), (0, .ref b)]) [0, 1, 2, 3] rfl ?_
        exact e2
      · refine ex_tableIn (off := 448) (tgt := 480) dL_law_32 (by decide) (by decide) (by decide) (by decide) ?_
        refine ex_aload_n 2 dL_law_480 rfl rfl ?_
        refine ex_aload_n 3 dL_law_481 rfl rfl ?_
        refine ex_iload_n 0 dL_law_482 rfl rfl ?_
        refine ex_iconst (v := nI 1) dL_law_483 (by decide) ?_
        refine ex_iaddN dL_law_484 ?_
        refine ex_sld (j := i + 1) hX hbl hbA rfl (by omega) (by omega) dL_law_485 ?_
        refine ex_i2l (v := (xs (i + 1)).toInt64) dL_law_486 (rfl) ?_
        refine ex_bipush (v := nI 32) dL_law_487 (by decide) ?_
        refine ex_lshl (v := ((xs (i + 1)).toInt64 <<< ((nI 32).toInt64 &&& 63))) dL_law_489 (rfl) ?_
        refine ex_aload_n 3 dL_law_490 rfl rfl ?_
        refine ex_iload_n 0 dL_law_491 rfl rfl ?_
        refine ex_iconst (v := nI 2) dL_law_492 (by decide) ?_
        refine ex_iaddN dL_law_493 ?_
        refine ex_sld (j := i + 2) hX hbl hbA rfl (by omega) (by omega) dL_law_494 ?_
        refine ex_i2l (v := (xs (i + 2)).toInt64) dL_law_495 (rfl) ?_
        refine ex_ldc2 (v := 4294967295) dL_law_496 kl_L_72 ?_
        refine ex_land dL_law_499 ?_
        refine ex_lor dL_law_500 ?_
        refine ex_callV (As := [.long (((xs (i + 1)).toInt64 <<< ((nI 32).toInt64 &&& 63)) ||| (((xs (i + 2)).toInt64) &&& 4294967295))]) (ci := 4) vl_L_74 rfl (c_put S) S.ob rfl (by decide) (Nat.le_of_ble_eq_true rfl) (by omega) (by omega) rfl dL_law_501 (fun r1 h1 z1 hp => ?_)
        obtain ⟨e1, e2, S1⟩ := hp
        subst e1
        subst e2
        have M := S1.mod M
        have S : PP G h1 z1 b0 (X_put ((n, g, t, u, q), k, L, V, len, c) (((xs (i + 1)).toInt64 <<< ((nI 32).toInt64 &&& 63)) ||| (((xs (i + 2)).toInt64) &&& 4294967295))).2 := S1.1
        clear S1
        refine ex_aload_n 1 dL_law_504 rfl rfl ?_
        refine ex_aload_n 3 dL_law_505 rfl rfl ?_
        refine ex_iload_n 0 dL_law_506 rfl rfl ?_
        refine ex_iconst (v := nI 1) dL_law_507 (by decide) ?_
        refine ex_iaddN dL_law_508 ?_
        refine ex_sld (j := i + 1) hX hbl hbA rfl (by omega) (by omega) dL_law_509 ?_
        refine ex_i2l (v := (xs (i + 1)).toInt64) dL_law_510 (rfl) ?_
        refine ex_bipush (v := nI 32) dL_law_511 (by decide) ?_
        refine ex_lshl (v := ((xs (i + 1)).toInt64 <<< ((nI 32).toInt64 &&& 63))) dL_law_513 (rfl) ?_
        refine ex_aload_n 3 dL_law_514 rfl rfl ?_
        refine ex_iload_n 0 dL_law_515 rfl rfl ?_
        refine ex_iconst (v := nI 2) dL_law_516 (by decide) ?_
        refine ex_iaddN dL_law_517 ?_
        refine ex_sld (j := i + 2) hX hbl hbA rfl (by omega) (by omega) dL_law_518 ?_
        refine ex_i2l (v := (xs (i + 2)).toInt64) dL_law_519 (rfl) ?_
        refine ex_ldc2 (v := 4294967295) dL_law_520 kl_L_72 ?_
        refine ex_land dL_law_523 ?_
        refine ex_lor dL_law_524 ?_
        refine ex_callV (As := [.long (((xs (i + 1)).toInt64 <<< ((nI 32).toInt64 &&& 63)) ||| (((xs (i + 2)).toInt64) &&& 4294967295))]) (ci := 5) vl_L_78 rfl (m_put M) M.ob rfl (by decide) (Nat.le_of_ble_eq_true rfl) (by omega) (by omega) rfl dL_law_525 (fun r2 h2 z2 hp => ?_)
        obtain ⟨e1, e2, M1⟩ := hp
        subst e1
        subst e2
        have S := S.kept2 M1.out
        have M : MP G h2 (b0 + 94) (X_put ((n, g, t, u, q), k, L, V, len, c) (((xs (i + 1)).toInt64 <<< ((nI 32).toInt64 &&& 63)) ||| (((xs (i + 2)).toInt64) &&& 4294967295))).2 := M1.mp
        clear M1
        refine ex_icmp_eq (tgt := 618) dL_law_528 (by decide) (fun c_528 => ?_) (fun c_528 => absurd (rfl) c_528)
        refine ex_iinc (v := nI (i + 3)) (lv' := [(3, .int (nI (i + 3))), (2, .ref (b0 + 94)), (1, .ref b0), (0, .ref b)]) 0 dL_law_618 rfl (nI_add i 3) (by decide) rfl ?_
        refine ex_goto (tgt := 18) dL_law_621 (by decide) ?_
        refine ex_widen (c2 := 100 + 4 * (i + 3)) (s2 := 1396 + 25 * (i + 3)) (by omega) (by omega) ?_
        have e2 := ih (i + 3) (X_put ((n, g, t, u, q), k, L, V, len, c) (((xs (i + 1)).toInt64 <<< ((nI 32).toInt64 &&& 63)) ||| (((xs (i + 2)).toInt64) &&& 4294967295))).2 _ _ (by omega) (by omega) ((X_put_ok ok).up (by omega)) S M
        refine ex_lv (lv2 := [(3, .int (nI (i + 3))), (2, .ref (b0 + 94)), (1, .ref b0), (0, .ref b)]) [0, 1, 2, 3] rfl ?_
        exact e2
      · refine ex_tableIn (off := 501) (tgt := 533) dL_law_32 (by decide) (by decide) (by decide) (by decide) ?_
        refine ex_aload_n 2 dL_law_533 rfl rfl ?_
        refine ex_callV (As := []) (ci := 4) vl_L_79 rfl (c_wipe S) S.ob rfl (by decide) (Nat.le_of_ble_eq_true rfl) (by omega) (by omega) rfl dL_law_534 (fun r1 h1 z1 hp => ?_)
        obtain ⟨e1, e2, S1⟩ := hp
        subst e1
        subst e2
        have M := S1.mod M
        have S : PP G h1 z1 b0 (X_wipe ((n, g, t, u, q), k, L, V, len, c)).2 := S1.1
        clear S1
        refine ex_aload_n 1 dL_law_537 rfl rfl ?_
        refine ex_callV (As := []) (ci := 5) vl_L_82 rfl (m_wipe M) M.ob rfl (by decide) (Nat.le_of_ble_eq_true rfl) (by omega) (by omega) rfl dL_law_538 (fun r2 h2 z2 hp => ?_)
        obtain ⟨e1, e2, M1⟩ := hp
        subst e1
        subst e2
        have S := S.kept2 M1.out
        have M : MP G h2 (b0 + 94) (X_wipe ((n, g, t, u, q), k, L, V, len, c)).2 := M1.mp
        clear M1
        refine ex_icmp_eq (tgt := 618) dL_law_541 (by decide) (fun c_541 => ?_) (fun c_541 => absurd (rfl) c_541)
        refine ex_iinc (v := nI (i + 3)) (lv' := [(3, .int (nI (i + 3))), (2, .ref (b0 + 94)), (1, .ref b0), (0, .ref b)]) 0 dL_law_618 rfl (nI_add i 3) (by decide) rfl ?_
        refine ex_goto (tgt := 18) dL_law_621 (by decide) ?_
        refine ex_widen (c2 := 100 + 4 * (i + 3)) (s2 := 1396 + 25 * (i + 3)) (by omega) (by omega) ?_
        have e2 := ih (i + 3) (X_wipe ((n, g, t, u, q), k, L, V, len, c)).2 _ _ (by omega) (by omega) ((X_wipe_ok ok).up (by omega)) S M
        refine ex_lv (lv2 := [(3, .int (nI (i + 3))), (2, .ref (b0 + 94)), (1, .ref b0), (0, .ref b)]) [0, 1, 2, 3] rfl ?_
        exact e2
      · refine ex_tableIn (off := 514) (tgt := 546) dL_law_32 (by decide) (by decide) (by decide) (by decide) ?_
        refine ex_aload_n 2 dL_law_546 rfl rfl ?_
        refine ex_callV (As := []) (ci := 4) vl_L_83 rfl (c_fault S hc) S.ob rfl (by decide) (Nat.le_of_ble_eq_true rfl) (by omega) (by omega) rfl dL_law_547 (fun r1 h1 z1 hp => ?_)
        obtain ⟨e1, e2, S1⟩ := hp
        subst e1
        subst e2
        have M := S1.mod M
        have S : PP G h1 z1 b0 ((n, g, t, u, q), k, L, V, len, c) := S1.1
        clear S1
        refine ex_aload_n 1 dL_law_550 rfl rfl ?_
        refine ex_callV (As := []) (ci := 5) vl_L_86 rfl (m_faultR M hc) M.ob rfl (by decide) (Nat.le_of_ble_eq_true rfl) (by omega) (by omega) rfl dL_law_551 (fun r2 h2 z2 hp => ?_)
        obtain ⟨e1, e2, M1⟩ := hp
        subst e1
        subst M1
        subst e2
        refine ex_icmp_eq (tgt := 618) dL_law_554 (by decide) (fun c_554 => ?_) (fun c_554 => absurd (rfl) c_554)
        refine ex_iinc (v := nI (i + 3)) (lv' := [(3, .int (nI (i + 3))), (2, .ref (b0 + 94)), (1, .ref b0), (0, .ref b)]) 0 dL_law_618 rfl (nI_add i 3) (by decide) rfl ?_
        refine ex_goto (tgt := 18) dL_law_621 (by decide) ?_
        refine ex_widen (c2 := 100 + 4 * (i + 3)) (s2 := 1396 + 25 * (i + 3)) (by omega) (by omega) ?_
        have e2 := ih (i + 3) ((n, g, t, u, q), k, L, V, len, c) _ _ (by omega) (by omega) (ok.up (by omega)) S M
        refine ex_lv (lv2 := [(3, .int (nI (i + 3))), (2, .ref (b0 + 94)), (1, .ref b0), (0, .ref b)]) [0, 1, 2, 3] rfl ?_
        exact e2
      · refine ex_tableIn (off := 527) (tgt := 559) dL_law_32 (by decide) (by decide) (by decide) (by decide) ?_
        refine ex_aload_n 2 dL_law_559 rfl rfl ?_
        refine ex_callV (As := []) (ci := 4) vl_L_87 rfl (c_undo S nL k6) S.ob rfl (by decide) (Nat.le_of_ble_eq_true rfl) (by omega) (by omega) rfl dL_law_560 (fun r1 h1 z1 hp => ?_)
        obtain ⟨e1, e2, S1⟩ := hp
        subst e1
        subst e2
        have M := S1.mod M
        have S : PP G h1 z1 b0 (X_undo ((n, g, t, u, q), k, L, V, len, c)).2 := S1.1
        clear S1
        refine ex_aload_n 1 dL_law_563 rfl rfl ?_
        refine ex_callV (As := []) (ci := 5) vl_L_90 rfl (m_undo M nL) M.ob rfl (by decide) (Nat.le_of_ble_eq_true rfl) (by omega) (by omega) rfl dL_law_564 (fun r2 h2 z2 hp => ?_)
        obtain ⟨e1, e2, M1⟩ := hp
        subst e1
        subst e2
        have S := S.kept2 M1.out
        have M : MP G h2 (b0 + 94) (X_undo ((n, g, t, u, q), k, L, V, len, c)).2 := M1.mp
        clear M1
        refine ex_icmp_eq (tgt := 618) dL_law_567 (by decide) (fun c_567 => ?_) (fun c_567 => absurd (rfl) c_567)
        refine ex_iinc (v := nI (i + 3)) (lv' := [(3, .int (nI (i + 3))), (2, .ref (b0 + 94)), (1, .ref b0), (0, .ref b)]) 0 dL_law_618 rfl (nI_add i 3) (by decide) rfl ?_
        refine ex_goto (tgt := 18) dL_law_621 (by decide) ?_
        refine ex_widen (c2 := 100 + 4 * (i + 3)) (s2 := 1396 + 25 * (i + 3)) (by omega) (by omega) ?_
        have e2 := ih (i + 3) (X_undo ((n, g, t, u, q), k, L, V, len, c)).2 _ _ (by omega) (by omega) ((X_undo_ok ok).up (by omega)) S M
        refine ex_lv (lv2 := [(3, .int (nI (i + 3))), (2, .ref (b0 + 94)), (1, .ref b0), (0, .ref b)]) [0, 1, 2, 3] rfl ?_
        exact e2
      · refine ex_tableIn (off := 540) (tgt := 572) dL_law_32 (by decide) (by decide) (by decide) (by decide) ?_
        refine ex_aload_n 2 dL_law_572 rfl rfl ?_
        refine ex_aload_n 3 dL_law_573 rfl rfl ?_
        refine ex_iload_n 0 dL_law_574 rfl rfl ?_
        refine ex_iconst (v := nI 1) dL_law_575 (by decide) ?_
        refine ex_iaddN dL_law_576 ?_
        refine ex_sld (j := i + 1) hX hbl hbA rfl (by omega) (by omega) dL_law_577 ?_
        refine ex_callV (As := [.int (xs (i + 1))]) (ci := 4) vl_L_91 rfl (c_save S n8) S.ob rfl (by decide) (Nat.le_of_ble_eq_true rfl) (by omega) (by omega) rfl dL_law_578 (fun r1 h1 z1 hp => ?_)
        obtain ⟨e1, e2, e3, S1⟩ := hp
        subst e1
        have M := S1.mod M
        have S : PP G h1 z1 b0 (X_save ((n, g, t, u, q), k, L, V, len, c) (xs (i + 1))).2 := S1.1
        clear S1
        refine ex_aload_n 1 dL_law_581 rfl rfl ?_
        refine ex_aload_n 3 dL_law_582 rfl rfl ?_
        refine ex_iload_n 0 dL_law_583 rfl rfl ?_
        refine ex_iconst (v := nI 1) dL_law_584 (by decide) ?_
        refine ex_iaddN dL_law_585 ?_
        refine ex_sld (j := i + 1) hX hbl hbA rfl (by omega) (by omega) dL_law_586 ?_
        refine ex_callV (As := [.int (xs (i + 1))]) (ci := 5) vl_L_94 rfl (m_save M n8 nV) M.ob rfl (by decide) (Nat.le_of_ble_eq_true rfl) (by omega) (by omega) rfl dL_law_587 (fun r2 h2 z2 hp => ?_)
        obtain ⟨e1, e2, M1⟩ := hp
        subst e1
        subst e2
        have S := S.kept2 M1.out
        have M : MP G h2 (b0 + 94) (X_save ((n, g, t, u, q), k, L, V, len, c) (xs (i + 1))).2 := M1.mp
        clear M1
        refine ex_icmp_eq (tgt := 618) dL_law_590 (by decide) (fun c_590 => ?_) (fun c_590 => absurd (rfl) c_590)
        refine ex_iinc (v := nI (i + 3)) (lv' := [(3, .int (nI (i + 3))), (2, .ref (b0 + 94)), (1, .ref b0), (0, .ref b)]) 0 dL_law_618 rfl (nI_add i 3) (by decide) rfl ?_
        refine ex_goto (tgt := 18) dL_law_621 (by decide) ?_
        refine ex_widen (c2 := 100 + 4 * (i + 3)) (s2 := 1396 + 25 * (i + 3)) (by omega) (by omega) ?_
        have e2 := ih (i + 3) (X_save ((n, g, t, u, q), k, L, V, len, c) (xs (i + 1))).2 _ _ (by omega) (by omega) ((X_save_ok ok).up (by omega)) S M
        refine ex_lv (lv2 := [(3, .int (nI (i + 3))), (2, .ref (b0 + 94)), (1, .ref b0), (0, .ref b)]) [0, 1, 2, 3] rfl ?_
        exact e2
      · refine ex_tableIn (off := 563) (tgt := 595) dL_law_32 (by decide) (by decide) (by decide) (by decide) ?_
        refine ex_aload_n 2 dL_law_595 rfl rfl ?_
        refine ex_aload_n 3 dL_law_596 rfl rfl ?_
        refine ex_iload_n 0 dL_law_597 rfl rfl ?_
        refine ex_iconst (v := nI 1) dL_law_598 (by decide) ?_
        refine ex_iaddN dL_law_599 ?_
        refine ex_sld (j := i + 1) hX hbl hbA rfl (by omega) (by omega) dL_law_600 ?_
        refine ex_callV (As := [.int (xs (i + 1))]) (ci := 4) vl_L_95 rfl (c_restore S n8 nV) S.ob rfl (by decide) (Nat.le_of_ble_eq_true rfl) (by omega) (by omega) rfl dL_law_601 (fun r1 h1 z1 hp => ?_)
        obtain ⟨e1, e2, S1⟩ := hp
        subst e1
        subst e2
        have M := S1.mod M
        have S : PP G h1 z1 b0 (X_restore ((n, g, t, u, q), k, L, V, len, c) (xs (i + 1))).2 := S1.1
        clear S1
        refine ex_aload_n 1 dL_law_604 rfl rfl ?_
        refine ex_aload_n 3 dL_law_605 rfl rfl ?_
        refine ex_iload_n 0 dL_law_606 rfl rfl ?_
        refine ex_iconst (v := nI 1) dL_law_607 (by decide) ?_
        refine ex_iaddN dL_law_608 ?_
        refine ex_sld (j := i + 1) hX hbl hbA rfl (by omega) (by omega) dL_law_609 ?_
        refine ex_callV (As := [.int (xs (i + 1))]) (ci := 5) vl_L_98 rfl (m_restore M n8 nL nV) M.ob rfl (by decide) (Nat.le_of_ble_eq_true rfl) (by omega) (by omega) rfl dL_law_610 (fun r2 h2 z2 hp => ?_)
        obtain ⟨e1, e2, M1⟩ := hp
        subst e1
        subst e2
        have S := S.kept2 M1.out
        have M : MP G h2 (b0 + 94) (X_restore ((n, g, t, u, q), k, L, V, len, c) (xs (i + 1))).2 := M1.mp
        clear M1
        refine ex_icmp_eq (tgt := 618) dL_law_613 (by decide) (fun c_613 => ?_) (fun c_613 => absurd (rfl) c_613)
        refine ex_iinc (v := nI (i + 3)) (lv' := [(3, .int (nI (i + 3))), (2, .ref (b0 + 94)), (1, .ref b0), (0, .ref b)]) 0 dL_law_618 rfl (nI_add i 3) (by decide) rfl ?_
        refine ex_goto (tgt := 18) dL_law_621 (by decide) ?_
        refine ex_widen (c2 := 100 + 4 * (i + 3)) (s2 := 1396 + 25 * (i + 3)) (by omega) (by omega) ?_
        have e2 := ih (i + 3) (X_restore ((n, g, t, u, q), k, L, V, len, c) (xs (i + 1))).2 _ _ (by omega) (by omega) ((X_restore_ok ok).up (by omega)) S M
        refine ex_lv (lv2 := [(3, .int (nI (i + 3))), (2, .ref (b0 + 94)), (1, .ref b0), (0, .ref b)]) [0, 1, 2, 3] rfl ?_
        exact e2
      · refine ex_tableOut (tgt := 618) dL_law_32 (Or.inr (by rw [nI_toInt (by omega)]; omega)) (by decide) ?_
        refine ex_iinc (v := nI (i + 3)) (lv' := [(3, .int (nI (i + 3))), (2, .ref (b0 + 94)), (1, .ref b0), (0, .ref b)]) 0 dL_law_618 rfl (nI_add i 3) (by decide) rfl ?_
        refine ex_goto (tgt := 18) dL_law_621 (by decide) ?_
        refine ex_widen (c2 := 100 + 4 * (i + 3)) (s2 := 1396 + 25 * (i + 3)) (by omega) (by omega) ?_
        have e2 := ih (i + 3) ((n, g, t, u, q), k, L, V, len, c) _ _ (by omega) (by omega) (ok.up (by omega)) S M
        refine ex_lv (lv2 := [(3, .int (nI (i + 3))), (2, .ref (b0 + 94)), (1, .ref b0), (0, .ref b)]) [0, 1, 2, 3] rfl ?_
        exact e2
    · refine ex_iload_n 0 dL_law_18 rfl rfl ?_
      refine ex_aload_n 3 dL_law_19 rfl rfl ?_
      refine ex_slen hX hbl hbA dL_law_20 ?_
      refine ex_iconst (v := nI 3) dL_law_21 (by decide) ?_
      refine ex_isub dL_law_22 ?_
      refine ex_icmp_gt (tgt := 624) dL_law_23 (by decide) (fun c_23 => ?_) (fun c_23 => absurd (law_lt (by omega) hL hi3) c_23)
      refine ex_iconst (v := nI 1) dL_law_624 (by decide) ?_
      refine ex_widen (c2 := 600000) (s2 := 7302250) (by omega) (by omega) ?_
      exact hret _ _ _ _ dL_law_625

