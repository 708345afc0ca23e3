theorem AR.come {f : Nat → Int32} {n : Nat} {g : Option Nat} {t : Nat} {u : Nat → Int32} {q : Nat → Nat → Int32} {w s : Int32} (S : AR f 0 (n, g, t, u, q)) (hf : ∀ i, i < 6 → f (17 + 6 * n + i) = nI 0) : AR (upd (upd (upd f (0 + 17 + 6 * n + 0) w) (0 + 17 + 6 * n + 1) s) 7 (nI (n + 1))) 0 (admA (n, g, t, u, q) w s) := by
  refine ⟨fun i hi => ?_, fun j k hj hk => ?_⟩
  · by_cases e : i = 7
    · subst e
      show upd (upd (upd f (0 + 17 + 6 * n + 0) w) (0 + 17 + 6 * n + 1) s) 7 (nI (n + 1)) 7 = nI (n + 1)
      rw [upd_s]
    · rw [upd_n (by omega), upd_n (by omega), upd_n (by omega), S.1 i hi]
      unfold mu admA
      split <;> first | rfl | exact absurd rfl e
  · have hj : j < n + 1 := hj
    rw [upd_n (by omega)]
    show _ = if j = n then (if k = 0 then w else if k = 1 then s else 0) else q j k
    by_cases e : j = n
    · subst e
      rw [if_pos rfl]
      by_cases e0 : k = 0
      · subst e0
        rw [if_pos rfl, upd_n (by omega), upd_s]
      · rw [if_neg e0]
        by_cases e1 : k = 1
        · subst e1
          rw [if_pos rfl, upd_s]
        · rw [if_neg e1, upd_n (by omega), upd_n (by omega), show 0 + 17 + 6 * j + k = 17 + 6 * j + k by omega, hf k hk]
          rfl
    · rw [if_neg e, upd_n (by omega), upd_n (by omega)]
      exact S.2 j k (show j < n by omega) hk

set_option maxRecDepth 20000 in
set_option maxHeartbeats 2000000 in
theorem m_comes {G : GG} {l : Launch} {h0 : HP} {z m kk len : Nat} {n : Nat} {g : Option Nat} {t : Nat} {u : Nat → Int32} {q : Nat → Nat → Int32} (S0 : RP G h0 m kk len 0 (n, g, t, u, q)) (h8 : n < 8) {x y : Int32} : Ct G l 1 0 0 yX5_comes cX5_comes 5 none [.ref m, .int x, .int y] h0 z (pR G none h0 z m kk len 0 (admA (n, g, t, u, q) x y)) := by
  refine Ct.intro (lv := [(0, .ref m), (1, .int x), (2, .int y)]) (by decide +kernel) (Nat.le_of_ble_eq_true rfl) rfl (fun X Q hQ hnm => ?_)
  have S := S0.rf
  refine ex_iconst (v := nI 0) dX5_comes_0 (by decide) ?_
  refine ex_aload_n 0 dX5_comes_1 rfl rfl ?_
  refine ex_get (v := .ref (m + 1)) fl_X5_7 S.1 rfl dX5_comes_2 ?_
  refine ex_bipush (v := nI 7) dX5_comes_5 (by decide) ?_
  refine exM_ld (p := 0) (i := 7) (v := nI n) S (by decide) rfl (by decide) rfl dX5_comes_7 ?_
  refine ex_callS0 (As := [.int (nI 0), .int (nI n)]) (v := .int (nI (0 + 17 + 6 * n))) vl_X5_34 (m_at) rfl (by decide) (Nat.le_of_ble_eq_true rfl) (Nat.le_refl _) (Nat.le_refl _) rfl dX5_comes_8 ?_
  refine ex_istore_n (lv' := [(3, .int (nI (0 + 17 + 6 * n))), (0, .ref m), (1, .int x), (2, .int y)]) dX5_comes_11 rfl (by decide) rfl ?_
  refine ex_iconst (v := nI 0) dX5_comes_12 (by decide) ?_
  refine ex_istore (lv' := [(4, .int (nI 0)), (3, .int (nI (0 + 17 + 6 * n))), (0, .ref m), (1, .int x), (2, .int y)]) dX5_comes_13 (by decide) rfl ?_
  suffices H : ∀ (b2 b : Nat) (h : HP) (f : Nat → Int32), b + b2 = 6 → RF G h0 h m kk len 0 (n, g, t, u, q) → h (m + 1) = some (aA G 0 130 f) → AR f 0 (n, g, t, u, q) → (∀ i, i < b → f (17 + 6 * n + i) = nI 0) → ex G l X Q 1 0 0 0 0 cX5_comes yX5_comes.cls 5 none h z 15 [(4, .int (nI b)), (3, .int (nI (0 + 17 + 6 * n))), (0, .ref m), (1, .int x), (2, .int y)] [] from by
    obtain ⟨-, f, hf0, har⟩ := S0
    have e2 := H 6 0 h0 f (by omega) S hf0 har (fun i hi => absurd hi (Nat.not_lt_zero _))
    refine ex_lv (lv2 := [(4, .int (nI 0)), (3, .int (nI (0 + 17 + 6 * n))), (0, .ref m), (1, .int x), (2, .int y)]) [0, 1, 2, 3, 4] rfl ?_
    exact e2
  intro b2
  induction b2 with
  | zero =>
    intro b h f hb S hf har hz
    obtain rfl : b = 6 := hb
    have hf9 := hf
    refine ex_iload 0 dX5_comes_15 rfl ?_
    refine ex_bipush (v := nI 6) dX5_comes_17 (by decide) ?_
    refine ex_icmp_ge (tgt := 38) dX5_comes_19 (by decide) (fun c_19 => ?_) (fun c_19 => absurd ((nI_leI (by omega) (by omega)).mpr (by omega)) c_19)
    refine ex_aload_n 2 dX5_comes_38 rfl rfl ?_
    refine ex_get (v := .ref (m + 1)) fl_X5_7 S.1 rfl dX5_comes_39 ?_
    refine ex_iload_n 1 dX5_comes_42 rfl rfl ?_
    refine ex_iconst (v := nI 0) dX5_comes_43 (by decide) ?_
    refine ex_iaddN dX5_comes_44 ?_
    refine ex_iload_n 3 dX5_comes_45 rfl rfl ?_
    refine ex_iast (j := 0 + 17 + 6 * n + 0) hf rfl (by omega) (by decide) dX5_comes_46 ?_
    have hm2 : (hu h (m + 1) (aA G 0 130 (upd f (0 + 17 + 6 * n + 0) x))) m = some (.inr (5, mF m kk len)) := by rw [hu_n (by omega)]; exact S.1
    have hf : (hu h (m + 1) (aA G 0 130 (upd f (0 + 17 + 6 * n + 0) x))) (m + 1) = some (aA G 0 130 (upd f (0 + 17 + 6 * n + 0) x)) := hu_s
    refine ex_aload_n 2 dX5_comes_47 rfl rfl ?_
    refine ex_get (v := .ref (m + 1)) fl_X5_7 hm2 rfl dX5_comes_48 ?_
    refine ex_iload_n 1 dX5_comes_51 rfl rfl ?_
    refine ex_iconst (v := nI 1) dX5_comes_52 (by decide) ?_
    refine ex_iaddN dX5_comes_53 ?_
    refine ex_iload_n 4 dX5_comes_54 rfl rfl ?_
    refine ex_iast (j := 0 + 17 + 6 * n + 1) hf rfl (by omega) (by decide) dX5_comes_55 ?_
    have hm2 : (hu (hu h (m + 1) (aA G 0 130 (upd f (0 + 17 + 6 * n + 0) x))) (m + 1) (aA G 0 130 (upd (upd f (0 + 17 + 6 * n + 0) x) (0 + 17 + 6 * n + 1) y))) m = some (.inr (5, mF m kk len)) := by rw [hu_n (by omega)]; exact hm2
    have hf : (hu (hu h (m + 1) (aA G 0 130 (upd f (0 + 17 + 6 * n + 0) x))) (m + 1) (aA G 0 130 (upd (upd f (0 + 17 + 6 * n + 0) x) (0 + 17 + 6 * n + 1) y))) (m + 1) = some (aA G 0 130 (upd (upd f (0 + 17 + 6 * n + 0) x) (0 + 17 + 6 * n + 1) y)) := hu_s
    refine ex_aload_n 2 dX5_comes_56 rfl rfl ?_
    refine ex_get (v := .ref (m + 1)) fl_X5_7 hm2 rfl dX5_comes_57 ?_
    refine ex_bipush (v := nI 7) dX5_comes_60 (by decide) ?_
    refine ex_dup2 dX5_comes_62 rfl rfl ?_
    refine ex_iald (j := 7) hf rfl (by decide) (by decide) dX5_comes_63 ?_
    rw [show upd (upd f (0 + 17 + 6 * n + 0) x) (0 + 17 + 6 * n + 1) y 7 = nI n from by rw [upd_n (by omega), upd_n (by omega)]; exact har.1 7 (by decide)]
    refine ex_iconst (v := nI 1) dX5_comes_64 (by decide) ?_
    refine ex_iaddN dX5_comes_65 ?_
    refine ex_iast (j := 7) hf rfl (by omega) (by decide) dX5_comes_66 ?_
    have hm2 : (hu (hu (hu h (m + 1) (aA G 0 130 (upd f (0 + 17 + 6 * n + 0) x))) (m + 1) (aA G 0 130 (upd (upd f (0 + 17 + 6 * n + 0) x) (0 + 17 + 6 * n + 1) y))) (m + 1) (aA G 0 130 (upd (upd (upd f (0 + 17 + 6 * n + 0) x) (0 + 17 + 6 * n + 1) y) 7 (nI (n + 1))))) m = some (.inr (5, mF m kk len)) := by rw [hu_n (by omega)]; exact hm2
    have hf : (hu (hu (hu h (m + 1) (aA G 0 130 (upd f (0 + 17 + 6 * n + 0) x))) (m + 1) (aA G 0 130 (upd (upd f (0 + 17 + 6 * n + 0) x) (0 + 17 + 6 * n + 1) y))) (m + 1) (aA G 0 130 (upd (upd (upd f (0 + 17 + 6 * n + 0) x) (0 + 17 + 6 * n + 1) y) 7 (nI (n + 1))))) (m + 1) = some (aA G 0 130 (upd (upd (upd f (0 + 17 + 6 * n + 0) x) (0 + 17 + 6 * n + 1) y) 7 (nI (n + 1)))) := hu_s
    refine ex_vret hQ rfl ⟨rfl, rfl, hm2, ?_, ?_⟩ dX5_comes_67
    · obtain ⟨-, ⟨f0, f1, a1, a2, -, a4⟩, -⟩ := S
      obtain rfl : f1 = f := by rw [hf9] at a2; simpa using a2.symm
      exact ⟨f0, _, a1, hu_s, har.come (fun i hi => hz i hi), fun i hi => by rw [upd_n (by omega), upd_n (by omega), upd_n (by omega)]; exact a4 i (by omega)⟩
    · intro a ha
      rw [hu_n ha, hu_n ha, hu_n ha]
      exact S.2.2 a ha
  | succ b2 ih =>
    intro b h f hb S hf har hz
    refine ex_iload 0 dX5_comes_15 rfl ?_
    refine ex_bipush (v := nI 6) dX5_comes_17 (by decide) ?_
    refine ex_icmp_ge (tgt := 38) dX5_comes_19 (by decide) (fun c_19 => absurd c_19 (fun q9 => absurd ((nI_leI (by omega) (by omega)).mp q9) (by omega))) (fun c_19 => ?_)
    refine ex_aload_n 2 dX5_comes_22 rfl rfl ?_
    refine ex_get (v := .ref (m + 1)) fl_X5_7 S.1 rfl dX5_comes_23 ?_
    refine ex_iload_n 1 dX5_comes_26 rfl rfl ?_
    refine ex_iload 0 dX5_comes_27 rfl ?_
    refine ex_iaddN dX5_comes_29 ?_
    refine ex_iconst (v := nI 0) dX5_comes_30 (by decide) ?_
    refine ex_iast (j := 0 + 17 + 6 * n + b) hf rfl (by omega) (by decide) dX5_comes_31 ?_
    have hA1 : AR (upd f (0 + 17 + 6 * n + b) (nI 0)) 0 (n, g, t, u, q) → AR (upd f (0 + 17 + 6 * n + b) (nI 0)) 0 (n, g, t, u, q) := fun q9 => q9
    have har1 : AR (upd f (0 + 17 + 6 * n + b) (nI 0)) 0 (n, g, t, u, q) := ⟨fun i hi => by rw [upd_n (by omega)]; exact har.1 i hi, fun j k9 hj hk => by have hj : j < n := hj; rw [upd_n (by omega)]; exact har.2 j k9 hj hk⟩
    have S1 := S.put hf (by omega) (v := nI 0) (i := 0 + 17 + 6 * n + b) (fun _ => har1)
    refine ex_iinc (v := nI (b + 1)) (lv' := [(4, .int (nI (b + 1))), (3, .int (nI (0 + 17 + 6 * n))), (0, .ref m), (1, .int x), (2, .int y)]) 0 dX5_comes_32 rfl (nI_1 b) (by decide) rfl ?_
    refine ex_goto (tgt := 15) dX5_comes_35 (by decide) ?_
    have e2 := ih (b + 1) _ _ (by omega) S1 hu_s har1 (fun i hi => by
          by_cases e : i = b
          · rw [e, show 17 + 6 * n + b = 0 + 17 + 6 * n + b by omega, upd_s]
          · rw [upd_n (by omega)]; exact hz i (by omega))
    refine ex_lv (lv2 := [(4, .int (nI (b + 1))), (3, .int (nI (0 + 17 + 6 * n))), (0, .ref m), (1, .int x), (2, .int y)]) [0, 1, 2, 3, 4] rfl ?_
    exact e2

set_option maxRecDepth 20000 in
set_option maxHeartbeats 2000000 in
theorem m_add {G : GG} {l : Launch} {h0 : HP} {z m : Nat} {n : Nat} {g : Option Nat} {t : Nat} {u : Nat → Int32} {q : Nat → Nat → Int32} {k len : Nat} {L : Nat → AS} {V : Nat → Option AS} {c : Nat → Nat} (S0 : MP G h0 m ((n, g, t, u, q), k, L, V, len, c)) (n8 : n ≤ 8) (nL : ∀ j, j < k → (L j).1 ≤ 8) {v s : Int32} : Ct G l 2 0 0 yX5_add cX5_add 3 (some .int) [.ref m, .int v, .int s] h0 z (pM G (X_add ((n, g, t, u, q), k, L, V, len, c) v s) h0 z m) := by
  refine Ct.intro (lv := [(0, .ref m), (1, .int v), (2, .int s)]) (by decide +kernel) (Nat.le_of_ble_eq_true rfl) rfl (fun X Q hQ hnm => ?_)
  have S := S0
  refine ex_iload_n 1 dX5_add_0 rfl rfl ?_
  refine ex_iconst (v := nI 1) dX5_add_1 (by decide) ?_
  refine ex_bipush (v := nI 9) dX5_add_2 (by decide) ?_
  by_cases h1 : nI 1 ≤ v ∧ v ≤ nI 9
  · refine ex_callS0 (As := [.int v, .int (nI 1), .int (nI 9)]) (v := .int (nI 1)) vl_X5_26 (Ct.mono (by rw [show inV v (nI 1) (nI 9) = nI 1 from if_pos h1]) m_in) rfl (by decide) (Nat.le_of_ble_eq_true rfl) (Nat.le_refl _) (Nat.le_refl _) rfl dX5_add_4 ?_
    refine ex_if_eq (tgt := 20) dX5_add_7 (by decide) (fun c_7 => absurd c_7 (by decide)) (fun c_7 => ?_)
    refine ex_iload_n 2 dX5_add_10 rfl rfl ?_
    refine ex_iconst (v := nI 0) dX5_add_11 (by decide) ?_
    refine ex_bipush (v := nI 100) dX5_add_12 (by decide) ?_
    by_cases h2 : nI 0 ≤ s ∧ s ≤ nI 100
    · refine ex_callS0 (As := [.int s, .int (nI 0), .int (nI 100)]) (v := .int (nI 1)) vl_X5_26 (Ct.mono (by rw [show inV s (nI 0) (nI 100) = nI 1 from if_pos h2]) m_in) rfl (by decide) (Nat.le_of_ble_eq_true rfl) (Nat.le_refl _) (Nat.le_refl _) rfl dX5_add_14 ?_
      refine ex_if_ne (tgt := 23) dX5_add_17 (by decide) (fun c_17 => ?_) (fun c_17 => absurd c_17 (by decide))
      refine ex_aload_n 0 dX5_add_23 rfl rfl ?_
      refine ex_get (v := .ref (m + 1)) fl_X5_7 S.ob rfl dX5_add_24 ?_
      refine ex_bipush (v := nI 7) dX5_add_27 (by decide) ?_
      refine exM_ld (p := 0) (i := 7) (v := nI n) S.rp.rf (by decide) rfl (by decide) rfl dX5_add_29 ?_
      refine ex_bipush (v := nI 8) dX5_add_30 (by decide) ?_
      refine ex_icmp_ne (tgt := 38) dX5_add_32 (by decide) (fun c_32 => ?_) (fun c_32 => ?_)
      · have n_32 : ¬ (n = 8) := fun q9 => c_32 ((nI_eq (by omega) (by omega)).mpr q9)
        refine ex_aload_n 0 dX5_add_38 rfl rfl ?_
        refine ex_callV (As := []) (ci := 5) vl_X5_87 rfl (m_rem (S.kept (fun _ _ _ => rfl)) n8 nL) S.ob rfl (by decide) (Nat.le_of_ble_eq_true rfl) (Nat.le_refl _) (Nat.le_refl _) rfl dX5_add_39 (fun r9 h9 z9 hp9 => ?_)
        obtain ⟨rfl, rfl, S9⟩ := hp9
        have S : MF G h0 h9 m ((n, g, t, u, q), (if k < 6 then k + 1 else 6), (recR k L (n, g, t, u, q)), V, len, c) := S.trans S9
        clear S9
        refine ex_aload_n 0 dX5_add_42 rfl rfl ?_
        refine ex_iload_n 1 dX5_add_43 rfl rfl ?_
        refine ex_iload_n 2 dX5_add_44 rfl rfl ?_
        refine exM_call (As := [.int v, .int s]) (r0 := none) (B := (admA (n, g, t, u, q) v s)) vl_X5_90 rfl S.rp.rf (fun S1 => m_comes S1 (show n < 8 by omega)) rfl (by decide) (Nat.le_of_ble_eq_true rfl) (Nat.le_refl _) (Nat.le_refl _) rfl dX5_add_45 (fun h N => ?_)
        have S : MF G h0 h m ((admA (n, g, t, u, q) v s), (if k < 6 then k + 1 else 6), (recR k L (n, g, t, u, q)), V, len, c) := S.now N
        refine ex_aload_n 0 dX5_add_48 rfl rfl ?_
        refine ex_get (v := .ref (m + 1)) fl_X5_7 S.ob rfl dX5_add_49 ?_
        refine ex_bipush (v := nI 7) dX5_add_52 (by decide) ?_
        refine exM_ld (p := 0) (i := 7) (v := nI (((admA (n, g, t, u, q) v s)).1)) S.rp.rf (by decide) rfl (by decide) rfl dX5_add_54 ?_
        refine ex_iconst (v := nI 1) dX5_add_55 (by decide) ?_
        refine ex_isubN dX5_add_56 (show 1 ≤ n + 1 by omega) ?_
        exact ex_iret hQ rfl (by have hc : ¬ (v < nI 1 ∨ nI 9 < v ∨ s < 0 ∨ nI 100 < s) := fun q9 => q9.elim (fun q9 => absurd h1.1 (Int32.not_le.mpr q9)) (fun q9 => q9.elim (fun q9 => absurd h1.2 (Int32.not_le.mpr q9)) (fun q9 => q9.elim (fun q9 => absurd h2.1 (Int32.not_le.mpr q9)) (fun q9 => absurd h2.2 (Int32.not_le.mpr q9)))); unfold X_add; rw [if_neg hc, if_pos (show n < 8 by omega)]; exact ⟨rfl, rfl, S⟩) dX5_add_57
      · have n_32 : n = 8 := (nI_eq (by omega) (by omega)).mp c_32
        refine ex_bipush (v := (-4)) dX5_add_35 (by decide) ?_
        exact ex_iret hQ rfl (by have hc : ¬ (v < nI 1 ∨ nI 9 < v ∨ s < 0 ∨ nI 100 < s) := fun q9 => q9.elim (fun q9 => absurd h1.1 (Int32.not_le.mpr q9)) (fun q9 => q9.elim (fun q9 => absurd h1.2 (Int32.not_le.mpr q9)) (fun q9 => q9.elim (fun q9 => absurd h2.1 (Int32.not_le.mpr q9)) (fun q9 => absurd h2.2 (Int32.not_le.mpr q9)))); unfold X_add; rw [if_neg hc, if_neg (show ¬ n < 8 by omega)]; exact ⟨rfl, rfl, S⟩) dX5_add_37
    · refine ex_callS0 (As := [.int s, .int (nI 0), .int (nI 100)]) (v := .int (nI 0)) vl_X5_26 (Ct.mono (by rw [show inV s (nI 0) (nI 100) = nI 0 from if_neg h2]) m_in) rfl (by decide) (Nat.le_of_ble_eq_true rfl) (Nat.le_refl _) (Nat.le_refl _) rfl dX5_add_14 ?_
      refine ex_if_ne (tgt := 23) dX5_add_17 (by decide) (fun c_17 => absurd (by decide) c_17) (fun c_17 => ?_)
      refine ex_bipush (v := (-2)) dX5_add_20 (by decide) ?_
      exact ex_iret hQ rfl (by unfold X_add; rw [if_pos (Decidable.byContradiction (fun q9 => by first | exact h1 ⟨Int32.not_lt.mp (fun q8 => q9 (Or.inl q8)), Int32.not_lt.mp (fun q8 => q9 (Or.inr (Or.inl q8)))⟩ | exact h2 ⟨Int32.not_lt.mp (fun q8 => q9 (Or.inr (Or.inr (Or.inl q8)))), Int32.not_lt.mp (fun q8 => q9 (Or.inr (Or.inr (Or.inr q8))))⟩))]; exact ⟨rfl, rfl, S⟩) dX5_add_22
  · refine ex_callS0 (As := [.int v, .int (nI 1), .int (nI 9)]) (v := .int (nI 0)) vl_X5_26 (Ct.mono (by rw [show inV v (nI 1) (nI 9) = nI 0 from if_neg h1]) m_in) rfl (by decide) (Nat.le_of_ble_eq_true rfl) (Nat.le_refl _) (Nat.le_refl _) rfl dX5_add_4 ?_
    refine ex_if_eq (tgt := 20) dX5_add_7 (by decide) (fun c_7 => ?_) (fun c_7 => absurd (by decide) c_7)
    refine ex_bipush (v := (-2)) dX5_add_20 (by decide) ?_
    exact ex_iret hQ rfl (by unfold X_add; rw [if_pos (Decidable.byContradiction (fun q9 => by first | exact h1 ⟨Int32.not_lt.mp (fun q8 => q9 (Or.inl q8)), Int32.not_lt.mp (fun q8 => q9 (Or.inr (Or.inl q8)))⟩ | exact h2 ⟨Int32.not_lt.mp (fun q8 => q9 (Or.inr (Or.inr (Or.inl q8)))), Int32.not_lt.mp (fun q8 => q9 (Or.inr (Or.inr (Or.inr q8))))⟩))]; exact ⟨rfl, rfl, S⟩) dX5_add_22

set_option maxRecDepth 20000 in
set_option maxHeartbeats 2000000 in
theorem m_give {G : GG} {l : Launch} {h0 : HP} {z m : Nat} {n : Nat} {g : Option Nat} {t : Nat} {u : Nat → Int32} {q : Nat → Nat → Int32} {k len : Nat} {L : Nat → AS} {V : Nat → Option AS} {c : Nat → Nat} (S0 : MP G h0 m ((n, g, t, u, q), k, L, V, len, c)) (n8 : n ≤ 8) (nL : ∀ j, j < k → (L j).1 ≤ 8) {v : Int32} : Ct G l 1 0 0 yX5_give cX5_give 2 (some .int) [.ref m, .int v] h0 z (pM G (X_give ((n, g, t, u, q), k, L, V, len, c) v) h0 z m) := by
  refine Ct.intro (lv := [(0, .ref m), (1, .int v)]) (by decide +kernel) (Nat.le_of_ble_eq_true rfl) rfl (fun X Q hQ hnm => ?_)
  have S := S0
  refine ex_iload_n 1 dX5_give_0 rfl rfl ?_
  refine ex_iconst (v := nI 1) dX5_give_1 (by decide) ?_
  refine ex_sipush (v := nI 9999) dX5_give_2 (by decide) ?_
  by_cases h1 : nI 1 ≤ v ∧ v ≤ nI 9999
  · refine ex_callS0 (As := [.int v, .int (nI 1), .int (nI 9999)]) (v := .int (nI 1)) vl_X5_26 (Ct.mono (by rw [show inV v (nI 1) (nI 9999) = nI 1 from if_pos h1]) m_in) rfl (by decide) (Nat.le_of_ble_eq_true rfl) (Nat.le_refl _) (Nat.le_refl _) rfl dX5_give_5 ?_
    refine ex_if_ne (tgt := 14) dX5_give_8 (by decide) (fun c_8 => ?_) (fun c_8 => absurd c_8 (by decide))
    refine ex_aload_n 0 dX5_give_14 rfl rfl ?_
    refine ex_get (v := .ref (m + 1)) fl_X5_7 S.ob rfl dX5_give_15 ?_
    refine ex_bipush (v := nI 11) dX5_give_18 (by decide) ?_
    refine exM_ld (p := 0) (i := 11) (v := u 11) S.rp.rf (by decide) rfl (by decide) rfl dX5_give_20 ?_
    refine ex_iload_n 1 dX5_give_21 rfl rfl ?_
    refine ex_iadd dX5_give_22 ?_
    refine ex_ldc (v := nI 99999) dX5_give_23 kc_X5_102 ?_
    refine ex_icmp_le (tgt := 31) dX5_give_25 (by decide) (fun c_25 => ?_) (fun c_25 => ?_)
    · refine ex_aload_n 0 dX5_give_31 rfl rfl ?_
      refine ex_callV (As := []) (ci := 5) vl_X5_87 rfl (m_rem (S.kept (fun _ _ _ => rfl)) n8 nL) S.ob rfl (by decide) (Nat.le_of_ble_eq_true rfl) (Nat.le_refl _) (Nat.le_refl _) rfl dX5_give_32 (fun r9 h9 z9 hp9 => ?_)
      obtain ⟨rfl, rfl, S9⟩ := hp9
      have S : MF G h0 h9 m ((n, g, t, u, q), (if k < 6 then k + 1 else 6), (recR k L (n, g, t, u, q)), V, len, c) := S.trans S9
      clear S9
      refine ex_aload_n 0 dX5_give_35 rfl rfl ?_
      refine ex_get (v := .ref (m + 1)) fl_X5_7 S.ob rfl dX5_give_36 ?_
      refine ex_bipush (v := nI 11) dX5_give_39 (by decide) ?_
      refine ex_dup2 dX5_give_41 rfl rfl ?_
      refine exM_ld (p := 0) (i := 11) (v := u 11) S.rp.rf (by decide) rfl (by decide) rfl dX5_give_42 ?_
      refine ex_iload_n 1 dX5_give_43 rfl rfl ?_
      refine ex_iadd dX5_give_44 ?_
      refine exM_stU (p := 0) (i := 11) S.rp.rf (by decide) rfl (by decide) (by decide) dX5_give_45 (fun h N => ?_)
      have S : MF G h0 h m ((n, g, t, (upd u 11 ((u 11) + v)), q), (if k < 6 then k + 1 else 6), (recR k L (n, g, t, u, q)), V, len, c) := S.now N
      refine ex_aload_n 0 dX5_give_46 rfl rfl ?_
      refine ex_get (v := .ref (m + 1)) fl_X5_7 S.ob rfl dX5_give_47 ?_
      refine ex_bipush (v := nI 16) dX5_give_50 (by decide) ?_
      refine ex_dup2 dX5_give_52 rfl rfl ?_
      refine exM_ld (p := 0) (i := 16) (v := u 16) S.rp.rf (by decide) rfl (by decide) rfl dX5_give_53 ?_
      refine ex_iload_n 1 dX5_give_54 rfl rfl ?_
      refine ex_iadd dX5_give_55 ?_
      refine exM_stU (p := 0) (i := 16) S.rp.rf (by decide) rfl (by decide) (by decide) dX5_give_56 (fun h N => ?_)
      have S : MF G h0 h m ((n, g, t, (upd (upd u 11 ((u 11) + v)) 16 ((u 16) + v)), q), (if k < 6 then k + 1 else 6), (recR k L (n, g, t, u, q)), V, len, c) := S.now N
      refine ex_aload_n 0 dX5_give_57 rfl rfl ?_
      refine ex_get (v := .ref (m + 1)) fl_X5_7 S.ob rfl dX5_give_58 ?_
      refine ex_bipush (v := nI 11) dX5_give_61 (by decide) ?_
      refine exM_ld (p := 0) (i := 11) (v := (u 11) + v) S.rp.rf (by decide) rfl (by decide) rfl dX5_give_63 ?_
      exact ex_iret hQ rfl (by have hc : ¬ (v < nI 1 ∨ nI 9999 < v) := fun q9 => q9.elim (fun q9 => absurd h1.1 (Int32.not_le.mpr q9)) (fun q9 => absurd h1.2 (Int32.not_le.mpr q9)); unfold X_give; rw [if_neg hc, if_neg (Int32.not_lt.mpr c_25)]; exact ⟨rfl, rfl, S⟩) dX5_give_64
    · refine ex_bipush (v := (-4)) dX5_give_28 (by decide) ?_
      exact ex_iret hQ rfl (by have hc : ¬ (v < nI 1 ∨ nI 9999 < v) := fun q9 => q9.elim (fun q9 => absurd h1.1 (Int32.not_le.mpr q9)) (fun q9 => absurd h1.2 (Int32.not_le.mpr q9)); unfold X_give; rw [if_neg hc, if_pos (Int32.not_le.mp c_25)]; exact ⟨rfl, rfl, S⟩) dX5_give_30
  · refine ex_callS0 (As := [.int v, .int (nI 1), .int (nI 9999)]) (v := .int (nI 0)) vl_X5_26 (Ct.mono (by rw [show inV v (nI 1) (nI 9999) = nI 0 from if_neg h1]) m_in) rfl (by decide) (Nat.le_of_ble_eq_true rfl) (Nat.le_refl _) (Nat.le_refl _) rfl dX5_give_5 ?_
    refine ex_if_ne (tgt := 14) dX5_give_8 (by decide) (fun c_8 => absurd (by decide) c_8) (fun c_8 => ?_)
    refine ex_bipush (v := (-2)) dX5_give_11 (by decide) ?_
    exact ex_iret hQ rfl (by unfold X_give; rw [if_pos (Decidable.byContradiction (fun q9 => h1 ⟨Int32.not_lt.mp (fun q8 => q9 (Or.inl q8)), Int32.not_lt.mp (fun q8 => q9 (Or.inr q8))⟩))]; exact ⟨rfl, rfl, S⟩) dX5_give_13

set_option maxRecDepth 20000 in
set_option maxHeartbeats 2000000 in
theorem m_pass {G : GG} {l : Launch} {h0 : HP} {z m : Nat} {n : Nat} {g : Option Nat} {t : Nat} {u : Nat → Int32} {q : Nat → Nat → Int32} {k len : Nat} {L : Nat → AS} {V : Nat → Option AS} {c : Nat → Nat} (S0 : MP G h0 m ((n, g, t, u, q), k, L, V, len, c)) (nL : ∀ j, j < k → (L j).1 ≤ 8) {K : Nat} (ok : okA K (n, g, t, u, q)) (hK : K < 2 ^ 29) {v : Int32} : Ct G l 6 0 0 yX5_pass cX5_pass 2 (some .int) [.ref m, .int v] h0 z (pM G (X_pass ((n, g, t, u, q), k, L, V, len, c) v) h0 z m) := by
  refine Ct.intro (lv := [(0, .ref m), (1, .int v)]) (by decide +kernel) (Nat.le_of_ble_eq_true rfl) rfl (fun X Q hQ hnm => ?_)
  have S := S0
  have n8 : n ≤ 8 := ok.1.1
  have gw : ∀ i, g = some i → i < n := ok.1.2.1
  have tw : t < n ∨ t = 0 := ok.1.2.2
  refine ex_iload_n 1 dX5_pass_0 rfl rfl ?_
  refine ex_iconst (v := nI 1) dX5_pass_1 (by decide) ?_
  refine ex_bipush (v := nI 99) dX5_pass_2 (by decide) ?_
  by_cases h1 : nI 1 ≤ v ∧ v ≤ nI 99
  · refine ex_callS0 (As := [.int v, .int (nI 1), .int (nI 99)]) (v := .int (nI 1)) vl_X5_26 (Ct.mono (by rw [show inV v (nI 1) (nI 99) = nI 1 from if_pos h1]) m_in) rfl (by decide) (Nat.le_of_ble_eq_true rfl) (Nat.le_refl _) (Nat.le_refl _) rfl dX5_pass_4 ?_
    refine ex_if_ne (tgt := 13) dX5_pass_7 (by decide) (fun c_7 => ?_) (fun c_7 => absurd c_7 (by decide))
    have h1b := h1
    have hc : ¬ (v < nI 1 ∨ nI 99 < v) := fun q9 => q9.elim (fun q9 => absurd h1.1 (Int32.not_le.mpr q9)) (fun q9 => absurd h1.2 (Int32.not_le.mpr q9))
    obtain ⟨j, j1, j2, rfl⟩ := rngI (by omega) (by omega) (Int32.not_lt.mpr h1.1) h1.2
    refine ex_aload_n 0 dX5_pass_13 rfl rfl ?_
    refine ex_get (v := .ref (m + 1)) fl_X5_7 S.ob rfl dX5_pass_14 ?_
    refine ex_bipush (v := nI 6) dX5_pass_17 (by decide) ?_
    refine exM_ld (p := 0) (i := 6) (v := u 6) S.rp.rf (by decide) rfl (by decide) rfl dX5_pass_19 ?_
    refine ex_iload_n 1 dX5_pass_20 rfl rfl ?_
    refine ex_iadd dX5_pass_21 ?_
    refine ex_sipush (v := nI 9999) dX5_pass_22 (by decide) ?_
    refine ex_icmp_le (tgt := 31) dX5_pass_25 (by decide) (fun c_25 => ?_) (fun c_25 => ?_)
    · refine ex_aload_n 0 dX5_pass_31 rfl rfl ?_
      refine ex_callV (As := []) (ci := 5) vl_X5_87 rfl (m_rem (S.kept (fun _ _ _ => rfl)) n8 nL) S.ob rfl (by decide) (Nat.le_of_ble_eq_true rfl) (Nat.le_refl _) (Nat.le_refl _) rfl dX5_pass_32 (fun r9 h9 z9 hp9 => ?_)
      obtain ⟨rfl, rfl, S9⟩ := hp9
      have S : MF G h0 h9 m ((n, g, t, u, q), (if k < 6 then k + 1 else 6), (recR k L (n, g, t, u, q)), V, len, c) := S.trans S9
      clear S9
      refine ex_aload_n 0 dX5_pass_35 rfl rfl ?_
      refine ex_iconst (v := nI 0) dX5_pass_36 (by decide) ?_
      refine ex_iload_n 1 dX5_pass_37 rfl rfl ?_
      refine exM_call (As := [.int (nI 0), .int (nI j)]) (r0 := (some (.int (nI (pcN (n, g, t, u, q) j))))) (B := (itA j (n, g, t, u, q))) vl_X5_103 rfl S.rp.rf (fun S1 => m_passes S1 (by decide) ok (by omega) hK) rfl (by decide) (Nat.le_of_ble_eq_true rfl) (Nat.le_refl _) (Nat.le_refl _) rfl dX5_pass_38 (fun h N => ?_)
      have S : MF G h0 h m ((itA j (n, g, t, u, q)), (if k < 6 then k + 1 else 6), (recR k L (n, g, t, u, q)), V, len, c) := S.now N
      exact ex_iret hQ rfl (by unfold X_pass; rw [if_neg hc, if_neg (Int32.not_lt.mpr c_25), ixn (by omega)]; exact ⟨congrArg (fun x => some (Value.int x)) pcN_sub.symm, rfl, S⟩) dX5_pass_41
    · refine ex_bipush (v := (-4)) dX5_pass_28 (by decide) ?_
      exact ex_iret hQ rfl (by unfold X_pass; rw [if_neg hc, if_pos (Int32.not_le.mp c_25)]; exact ⟨rfl, rfl, S⟩) dX5_pass_30
  · refine ex_callS0 (As := [.int v, .int (nI 1), .int (nI 99)]) (v := .int (nI 0)) vl_X5_26 (Ct.mono (by rw [show inV v (nI 1) (nI 99) = nI 0 from if_neg h1]) m_in) rfl (by decide) (Nat.le_of_ble_eq_true rfl) (Nat.le_refl _) (Nat.le_refl _) rfl dX5_pass_4 ?_
    refine ex_if_ne (tgt := 13) dX5_pass_7 (by decide) (fun c_7 => absurd (by decide) c_7) (fun c_7 => ?_)
    refine ex_bipush (v := (-2)) dX5_pass_10 (by decide) ?_
    exact ex_iret hQ rfl (by unfold X_pass; rw [if_pos (Decidable.byContradiction (fun q9 => h1 ⟨Int32.not_lt.mp (fun q8 => q9 (Or.inl q8)), Int32.not_lt.mp (fun q8 => q9 (Or.inr q8))⟩))]; exact ⟨rfl, rfl, S⟩) dX5_pass_12

set_option maxRecDepth 20000 in
set_option maxHeartbeats 2000000 in
theorem m_appeal {G : GG} {l : Launch} {h0 : HP} {z m : Nat} {n : Nat} {g : Option Nat} {t : Nat} {u : Nat → Int32} {q : Nat → Nat → Int32} {k len : Nat} {L : Nat → AS} {V : Nat → Option AS} {c : Nat → Nat} (S0 : MP G h0 m ((n, g, t, u, q), k, L, V, len, c)) (n8 : n ≤ 8) (nL : ∀ j, j < k → (L j).1 ≤ 8) (gw : ∀ i, g = some i → i < n) {p : Int32} : Ct G l 3 0 0 yX5_appeal cX5_appeal 2 (some .int) [.ref m, .int p] h0 z (pM G (X_appeal ((n, g, t, u, q), k, L, V, len, c) p) h0 z m) := by
  refine Ct.intro (lv := [(0, .ref m), (1, .int p)]) (by decide +kernel) (Nat.le_of_ble_eq_true rfl) rfl (fun X Q hQ hnm => ?_)
  have S := S0
  rcases inR_or p n (by omega) with ⟨j, hp, rfl⟩ | hp
  · rcases g with _ | i
    · have hm0 : mayI n none u q j = 0 := by
        unfold mayI
        rw [if_neg (fun q9 => q9.1 rfl)]
        rfl
      refine ex_aload_n 0 dX5_appeal_0 rfl rfl ?_
      refine ex_iload_n 1 dX5_appeal_1 rfl rfl ?_
      refine ex_call0 (As := [.int (nI j)]) (v := .int (nI 1)) (ci := 5) vl_X5_93 rfl (m_isPersonT S.rp n8 hp) S.ob rfl (by decide) (Nat.le_of_ble_eq_true rfl) (Nat.le_refl _) (Nat.le_refl _) rfl dX5_appeal_2 ?_
      refine ex_if_ne (tgt := 10) dX5_appeal_5 (by decide) (fun c_5 => ?_) (fun c_5 => absurd c_5 (by decide))
      refine ex_aload_n 0 dX5_appeal_10 rfl rfl ?_
      refine ex_iload_n 1 dX5_appeal_11 rfl rfl ?_
      refine ex_call0 (As := [.int (nI j)]) (v := .int (mayI n none u q j)) (ci := 5) vl_X5_99 rfl (m_canAppeal S.rp n8 gw hp) S.ob rfl (by decide) (Nat.le_of_ble_eq_true rfl) (Nat.le_refl _) (Nat.le_refl _) rfl dX5_appeal_12 ?_
      refine ex_if_ne (tgt := 21) dX5_appeal_15 (by decide) (fun c_15 => absurd (hm0) c_15) (fun c_15 => ?_)
      refine ex_bipush (v := (-5)) dX5_appeal_18 (by decide) ?_
      exact ex_iret hQ rfl (by unfold X_appeal; dsimp only; rw [if_pos (inR_nI hp (by omega)), ixn (by omega), if_pos hm0]; exact ⟨rfl, rfl, S⟩) dX5_appeal_20
    · have hi : i < n := gw i rfl
      refine ex_aload_n 0 dX5_appeal_0 rfl rfl ?_
      refine ex_iload_n 1 dX5_appeal_1 rfl rfl ?_
      refine ex_call0 (As := [.int (nI j)]) (v := .int (nI 1)) (ci := 5) vl_X5_93 rfl (m_isPersonT S.rp n8 hp) S.ob rfl (by decide) (Nat.le_of_ble_eq_true rfl) (Nat.le_refl _) (Nat.le_refl _) rfl dX5_appeal_2 ?_
      refine ex_if_ne (tgt := 10) dX5_appeal_5 (by decide) (fun c_5 => ?_) (fun c_5 => absurd c_5 (by decide))
      refine ex_aload_n 0 dX5_appeal_10 rfl rfl ?_
      refine ex_iload_n 1 dX5_appeal_11 rfl rfl ?_
      refine ex_call0 (As := [.int (nI j)]) (v := .int (mayI n (some i) u q j)) (ci := 5) vl_X5_99 rfl (m_canAppeal S.rp n8 gw hp) S.ob rfl (by decide) (Nat.le_of_ble_eq_true rfl) (Nat.le_refl _) (Nat.le_refl _) rfl dX5_appeal_12 ?_
      refine ex_if_ne (tgt := 21) dX5_appeal_15 (by decide) (fun c_15 => ?_) (fun c_15 => ?_)
      · refine ex_aload_n 0 dX5_appeal_21 rfl rfl ?_
        refine ex_callV (As := []) (ci := 5) vl_X5_87 rfl (m_rem (S.kept (fun _ _ _ => rfl)) n8 nL) S.ob rfl (by decide) (Nat.le_of_ble_eq_true rfl) (Nat.le_refl _) (Nat.le_refl _) rfl dX5_appeal_22 (fun r9 h9 z9 hp9 => ?_)
        obtain ⟨rfl, rfl, S9⟩ := hp9
        have S : MF G h0 h9 m ((n, (some i), t, u, q), (if k < 6 then k + 1 else 6), (recR k L (n, (some i), t, u, q)), V, len, c) := S.trans S9
        clear S9
        refine ex_aload_n 0 dX5_appeal_25 rfl rfl ?_
        refine ex_get (v := .ref (m + 1)) fl_X5_7 S.ob rfl dX5_appeal_26 ?_
        refine ex_iconst (v := nI 0) dX5_appeal_29 (by decide) ?_
        refine ex_iload_n 1 dX5_appeal_30 rfl rfl ?_
        refine ex_callS0 (As := [.int (nI 0), .int (nI j)]) (v := .int (nI (0 + 17 + 6 * j))) vl_X5_34 (m_at) rfl (by decide) (Nat.le_of_ble_eq_true rfl) (Nat.le_refl _) (Nat.le_refl _) rfl dX5_appeal_31 ?_
        refine ex_iconst (v := nI 3) dX5_appeal_34 (by decide) ?_
        refine ex_iaddN dX5_appeal_35 ?_
        refine ex_dup2 dX5_appeal_36 rfl rfl ?_
        refine exM_ldq (p := 0) (j := j) (b := 3) (v := q j 3) S.rp.rf (by decide) rfl hp (by omega) (by decide) rfl dX5_appeal_37 ?_
        refine ex_aload_n 0 dX5_appeal_38 rfl rfl ?_
        refine ex_get (v := .ref (m + 1)) fl_X5_7 S.ob rfl dX5_appeal_39 ?_
        refine ex_iconst (v := nI 2) dX5_appeal_42 (by decide) ?_
        refine exM_ld (p := 0) (i := 2) (v := u 2) S.rp.rf (by decide) rfl (by decide) rfl dX5_appeal_43 ?_
        refine ex_isub dX5_appeal_44 ?_
        refine exM_stQ (p := 0) (j := j) (b := 3) S.rp.rf (by decide) rfl (by omega) (by decide) dX5_appeal_45 (fun h N => ?_)
        have S : MF G h0 h m ((n, (some i), t, u, (uq q j 3 ((q j 3) - (u 2)))), (if k < 6 then k + 1 else 6), (recR k L (n, (some i), t, u, q)), V, len, c) := S.now N
        refine ex_aload_n 0 dX5_appeal_46 rfl rfl ?_
        refine ex_get (v := .ref (m + 1)) fl_X5_7 S.ob rfl dX5_appeal_47 ?_
        refine ex_bipush (v := nI 11) dX5_appeal_50 (by decide) ?_
        refine ex_dup2 dX5_appeal_52 rfl rfl ?_
        refine exM_ld (p := 0) (i := 11) (v := u 11) S.rp.rf (by decide) rfl (by decide) rfl dX5_appeal_53 ?_
        refine ex_aload_n 0 dX5_appeal_54 rfl rfl ?_
        refine ex_get (v := .ref (m + 1)) fl_X5_7 S.ob rfl dX5_appeal_55 ?_
        refine ex_iconst (v := nI 2) dX5_appeal_58 (by decide) ?_
        refine exM_ld (p := 0) (i := 2) (v := u 2) S.rp.rf (by decide) rfl (by decide) rfl dX5_appeal_59 ?_
        refine ex_iadd dX5_appeal_60 ?_
        refine exM_stU (p := 0) (i := 11) S.rp.rf (by decide) rfl (by decide) (by decide) dX5_appeal_61 (fun h N => ?_)
        have S : MF G h0 h m ((n, (some i), t, (upd u 11 ((u 11) + (u 2))), (uq q j 3 ((q j 3) - (u 2)))), (if k < 6 then k + 1 else 6), (recR k L (n, (some i), t, u, q)), V, len, c) := S.now N
        refine ex_aload_n 0 dX5_appeal_62 rfl rfl ?_
        refine ex_iconst (v := nI 0) dX5_appeal_63 (by decide) ?_
        refine ex_iload_n 1 dX5_appeal_64 rfl rfl ?_
        refine ex_call0 (As := [.int (nI 0), .int (nI j)]) (v := .int (scI (upd u 11 ((u 11) + (u 2))) (uq q j 3 ((q j 3) - (u 2))) j)) (ci := 5) vl_X5_46 rfl (m_score S.rp (by decide) n8 hp) S.ob rfl (by decide) (Nat.le_of_ble_eq_true rfl) (Nat.le_refl _) (Nat.le_refl _) rfl dX5_appeal_65 ?_
        refine ex_aload_n 0 dX5_appeal_68 rfl rfl ?_
        refine ex_iconst (v := nI 0) dX5_appeal_69 (by decide) ?_
        refine ex_aload_n 0 dX5_appeal_70 rfl rfl ?_
        refine ex_get (v := .ref (m + 1)) fl_X5_7 S.ob rfl dX5_appeal_71 ?_
        refine ex_bipush (v := nI 9) dX5_appeal_74 (by decide) ?_
        refine exM_ld (p := 0) (i := 9) (v := nI i) S.rp.rf (by decide) rfl (by decide) rfl dX5_appeal_76 ?_
        refine ex_call0 (As := [.int (nI 0), .int (nI i)]) (v := .int (scI (upd u 11 ((u 11) + (u 2))) (uq q j 3 ((q j 3) - (u 2))) i)) (ci := 5) vl_X5_46 rfl (m_score S.rp (by decide) n8 hi) S.ob rfl (by decide) (Nat.le_of_ble_eq_true rfl) (Nat.le_refl _) (Nat.le_refl _) rfl dX5_appeal_77 ?_
        refine ex_icmp_le (tgt := 91) dX5_appeal_80 (by decide) (fun c_80 => ?_) (fun c_80 => ?_)
        · refine ex_aload_n 0 dX5_appeal_91 rfl rfl ?_
          refine ex_iconst (v := nI 0) dX5_appeal_92 (by decide) ?_
          refine ex_iload_n 1 dX5_appeal_93 rfl rfl ?_
          refine exM_call (As := [.int (nI 0), .int (nI j)]) (r0 := none) (B := (n, (some i), t, (upd (upd u 11 ((u 11) + (u 2))) 12 ((u 12) + nI 1)), (uq (uq q j 3 ((q j 3) - (u 2))) j 2 ((q j 2) + nI 1)))) vl_X5_49 rfl S.rp.rf (fun S1 => m_scratches S1 (by decide) n8 hp) rfl (by decide) (Nat.le_of_ble_eq_true rfl) (Nat.le_refl _) (Nat.le_refl _) rfl dX5_appeal_94 (fun h N => ?_)
          have S : MF G h0 h m ((n, (some i), t, (upd (upd u 11 ((u 11) + (u 2))) 12 ((u 12) + nI 1)), (uq (uq q j 3 ((q j 3) - (u 2))) j 2 ((q j 2) + nI 1))), (if k < 6 then k + 1 else 6), (recR k L (n, (some i), t, u, q)), V, len, c) := S.now N
          refine ex_iconst (v := nI 0) dX5_appeal_97 (by decide) ?_
          exact ex_iret hQ rfl (by unfold X_appeal; dsimp only; rw [if_pos (inR_nI hp (by omega)), ixn (by omega), if_neg c_15]; have hs : ¬ scI u q i < scI u q j := Int32.not_lt.mpr c_80; unfold appA; rw [if_neg hs]; exact ⟨rfl, rfl, S⟩) dX5_appeal_98
        · refine ex_aload_n 0 dX5_appeal_83 rfl rfl ?_
          refine ex_iconst (v := nI 0) dX5_appeal_84 (by decide) ?_
          refine ex_iload_n 1 dX5_appeal_85 rfl rfl ?_
          refine exM_call (As := [.int (nI 0), .int (nI j)]) (r0 := none) (B := (n, none, j, (upd (upd u 11 ((u 11) + (u 2))) 14 ((u 14) + nI 1)), (uq q j 3 ((q j 3) - (u 2))))) vl_X5_59 rfl S.rp.rf (fun S1 => m_deposes S1 (by decide) n8) rfl (by decide) (Nat.le_of_ble_eq_true rfl) (Nat.le_refl _) (Nat.le_refl _) rfl dX5_appeal_86 (fun h N => ?_)
          have S : MF G h0 h m ((n, none, j, (upd (upd u 11 ((u 11) + (u 2))) 14 ((u 14) + nI 1)), (uq q j 3 ((q j 3) - (u 2)))), (if k < 6 then k + 1 else 6), (recR k L (n, (some i), t, u, q)), V, len, c) := S.now N
          refine ex_iconst (v := nI 1) dX5_appeal_89 (by decide) ?_
          exact ex_iret hQ rfl (by unfold X_appeal; dsimp only; rw [if_pos (inR_nI hp (by omega)), ixn (by omega), if_neg c_15]; have hs : scI u q i < scI u q j := Int32.not_le.mp c_80; unfold appA; rw [if_pos hs]; exact ⟨rfl, rfl, S⟩) dX5_appeal_90
      · refine ex_bipush (v := (-5)) dX5_appeal_18 (by decide) ?_
        exact ex_iret hQ rfl (by unfold X_appeal; dsimp only; rw [if_pos (inR_nI hp (by omega)), ixn (by omega), if_pos c_15]; exact ⟨rfl, rfl, S⟩) dX5_appeal_20
  · refine ex_aload_n 0 dX5_appeal_0 rfl rfl ?_
    refine ex_iload_n 1 dX5_appeal_1 rfl rfl ?_
    refine ex_call0 (As := [.int p]) (v := .int (nI 0)) (ci := 5) vl_X5_93 rfl (m_isPersonF S.rp n8 hp) S.ob rfl (by decide) (Nat.le_of_ble_eq_true rfl) (Nat.le_refl _) (Nat.le_refl _) rfl dX5_appeal_2 ?_
    refine ex_if_ne (tgt := 10) dX5_appeal_5 (by decide) (fun c_5 => absurd (by decide) c_5) (fun c_5 => ?_)
    refine ex_iconst (v := (-1)) dX5_appeal_8 (by decide) ?_
    exact ex_iret hQ rfl (by unfold X_appeal; dsimp only; rw [if_neg hp]; exact ⟨rfl, rfl, S⟩) dX5_appeal_9

