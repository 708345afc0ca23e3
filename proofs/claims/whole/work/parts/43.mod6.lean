set_option maxRecDepth 20000 in
set_option maxHeartbeats 2000000 in
theorem m_undo {G : GG} {l : Launch} {h0 : HP} {z m : Nat} {x : CX} (S0 : MP G h0 m x) (nL : ∀ j, j < x.2.1 → (x.2.2.1 j).1 ≤ 8) : Ct G l 0 0 0 yX5_undo cX5_undo 2 (some .int) [.ref m] h0 z (pM G (X_undo x) h0 z m) := by
  refine Ct.intro (lv := [(0, .ref m)]) (by decide +kernel) (Nat.le_of_ble_eq_true rfl) rfl (fun X Q hQ hnm => ?_)
  obtain ⟨fs, fp, fl, fw, fd, S, s2⟩ := S0
  obtain ⟨A, k, L, V, len, c⟩ := x
  obtain ⟨r1, r2, r3, r4, r5, r6⟩ := s2
  have S : MA G h0 h0 m k len fs fp fl fw fd := S
  have r2 : ∀ j, j < k → AR fp (65 * j) (L j) := r2
  have k6 : k ≤ 6 := r3
  have r4 : ∀ i, i < 2 → mV fl fw i (V i) := r4
  have r5 : ∀ i, i < len → fd i = nI (c i) := r5
  have l60 : len ≤ 60 := r6
  have r1 : AR fs 0 A := r1
  refine ex_aload_n 0 dX5_undo_0 rfl rfl ?_
  refine ex_get (v := .int (nI k)) fl_X5_30 S.1 rfl dX5_undo_1 ?_
  refine ex_if_ne (tgt := 10) dX5_undo_4 (by decide) (fun c_4 => ?_) (fun c_4 => ?_)
  · have n_4 : ¬ (k = 0) := fun q9 => c_4 ((nI_eq (b := 0) (by omega) (by omega)).mpr q9)
    refine ex_aload_n 0 dX5_undo_10 rfl rfl ?_
    refine ex_dup dX5_undo_11 rfl ?_
    refine ex_get (v := .int (nI k)) fl_X5_30 S.1 rfl dX5_undo_12 ?_
    refine ex_iconst (v := nI 1) dX5_undo_15 (by decide) ?_
    refine ex_isubN dX5_undo_16 (by omega) ?_
    refine exA_pk (k2 := k - 1) S fl_X5_30 rfl dX5_undo_17 (fun h S => ?_)
    refine ex_iconst (v := nI 0) dX5_undo_20 (by decide) ?_
    refine ex_istore_n (lv' := [(1, .int (nI 0)), (0, .ref m)]) dX5_undo_21 rfl (by decide) rfl ?_
    suffices H : ∀ (b2 b : Nat) (h : HP) (f : Nat → Int32), b + b2 = 65 → MA G h0 h m (k - 1) len f fp fl fw fd → ((∀ i, i < b → f i = fp (65 * (k - 1) + i)) ∧ ∀ i, (i < 0 ∨ 0 + 65 ≤ i) → f i = fs i) → ex G l X Q 0 0 0 0 0 cX5_undo yX5_undo.cls 2 (some .int) h z 22 [(1, .int (nI b)), (0, .ref m)] [] from by
      have e2 := H 65 0 h fs (by omega) S ⟨fun i hi => absurd hi (Nat.not_lt_zero _), fun i hi => rfl⟩
      refine ex_lv (lv2 := [(1, .int (nI 0)), (0, .ref m)]) [0, 1] rfl ?_
      exact e2
    intro b2
    induction b2 with
    | zero =>
      intro b h f hb S hf
      obtain rfl : b = 65 := hb
      refine ex_iload_n 0 dX5_undo_22 rfl rfl ?_
      refine ex_bipush (v := nI 65) dX5_undo_23 (by decide) ?_
      refine ex_icmp_ge (tgt := 54) dX5_undo_25 (by decide) (fun c_25 => ?_) (fun c_25 => absurd ((nI_leI (by omega) (by omega)).mpr (by omega)) c_25)
      refine ex_aload_n 1 dX5_undo_54 rfl rfl ?_
      refine ex_get (v := .int (nI (k - 1))) fl_X5_30 S.1 rfl dX5_undo_55 ?_
      refine ex_iret hQ rfl ⟨?_, rfl, ?_⟩ dX5_undo_58
      · unfold X_undo; dsimp only; rw [if_neg n_4]
      · unfold X_undo; dsimp only; rw [if_neg n_4]
        exact ⟨f, fp, fl, fw, fd, S, (r2 (k - 1) (by omega)).kept (nL (k - 1) (show k - 1 < k by omega)) (fun i hi => by rw [← hf.1 i hi, Nat.zero_add]), fun j hj => r2 j (show j < k by have : j < k - 1 := hj; omega), show k - 1 ≤ 6 by omega, r4, r5, r6⟩
    | succ b2 ih =>
      intro b h f hb S hf
      refine ex_iload_n 0 dX5_undo_22 rfl rfl ?_
      refine ex_bipush (v := nI 65) dX5_undo_23 (by decide) ?_
      refine ex_icmp_ge (tgt := 54) dX5_undo_25 (by decide) (fun c_25 => absurd c_25 (fun q9 => absurd ((nI_leI (by omega) (by omega)).mp q9) (by omega))) (fun c_25 => ?_)
      refine ex_aload_n 1 dX5_undo_28 rfl rfl ?_
      refine ex_get (v := .ref (m + 1)) fl_X5_7 S.1 rfl dX5_undo_29 ?_
      refine ex_iload_n 0 dX5_undo_32 rfl rfl ?_
      refine ex_aload_n 1 dX5_undo_33 rfl rfl ?_
      refine ex_get (v := .ref (m + 2)) fl_X5_13 S.1 rfl dX5_undo_34 ?_
      refine ex_bipush (v := nI 65) dX5_undo_37 (by decide) ?_
      refine ex_aload_n 1 dX5_undo_39 rfl rfl ?_
      refine ex_get (v := .int (nI (k - 1))) fl_X5_30 S.1 rfl dX5_undo_40 ?_
      refine ex_imulN dX5_undo_43 ?_
      refine ex_iload_n 0 dX5_undo_44 rfl rfl ?_
      refine ex_iaddN dX5_undo_45 ?_
      refine ex_iald (j := 65 * (k - 1) + b) S.2.2.1 rfl (by omega) (by decide) dX5_undo_46 ?_
      refine exA_st1 (j := b) S rfl (by omega) dX5_undo_47 (fun h S => ?_)
      refine ex_iinc (v := nI (b + 1)) (lv' := [(1, .int (nI (b + 1))), (0, .ref m)]) 0 dX5_undo_48 rfl (nI_1 b) (by decide) rfl ?_
      refine ex_goto (tgt := 22) dX5_undo_51 (by decide) ?_
      have e2 := ih (b + 1) h _ (by omega) S ⟨fun i hi => by
              by_cases e : i = b
              · rw [e, upd_s]
              · rw [upd_n (by omega)]; exact hf.1 i (by omega), fun i hi => by rw [upd_n (by omega)]; exact hf.2 i hi⟩
      refine ex_lv (lv2 := [(1, .int (nI (b + 1))), (0, .ref m)]) [0, 1] rfl ?_
      exact e2
  · have n_4 : k = 0 := (nI_eq (b := 0) (by omega) (by omega)).mp c_4
    refine ex_bipush (v := (-5)) dX5_undo_7 (by decide) ?_
    refine ex_iret hQ rfl ⟨?_, rfl, ?_⟩ dX5_undo_9
    · unfold X_undo; dsimp only; rw [if_pos n_4]
    · unfold X_undo; dsimp only; rw [if_pos n_4]
      exact ⟨fs, fp, fl, fw, fd, S, r1, r2, r3, r4, r5, r6⟩

set_option maxRecDepth 20000 in
set_option maxHeartbeats 2000000 in
theorem m_wipe {G : GG} {l : Launch} {h0 : HP} {z m : Nat} {x : CX} (S0 : MP G h0 m x) : Ct G l 0 0 0 yX5_wipe cX5_wipe 2 (some .int) [.ref m] h0 z (pM G (X_wipe x) h0 z m) := by
  refine Ct.intro (lv := [(0, .ref m)]) (by decide +kernel) (Nat.le_of_ble_eq_true rfl) rfl (fun X Q hQ hnm => ?_)
  obtain ⟨fs, fp, fl, fw, fd, S, s2⟩ := S0
  obtain ⟨A, k, L, V, len, c⟩ := x
  obtain ⟨r1, r2, r3, r4, r5, r6⟩ := s2
  have S : MA G h0 h0 m k len fs fp fl fw fd := S
  have r2 : ∀ j, j < k → AR fp (65 * j) (L j) := r2
  have k6 : k ≤ 6 := r3
  have r4 : ∀ i, i < 2 → mV fl fw i (V i) := r4
  have r5 : ∀ i, i < len → fd i = nI (c i) := r5
  have l60 : len ≤ 60 := r6
  have r1 : AR fs 0 A := r1
  refine ex_aload_n 0 dX5_wipe_0 rfl rfl ?_
  refine ex_get (v := .int (nI len)) fl_X5_109 S.1 rfl dX5_wipe_1 ?_
  refine ex_istore_n (lv' := [(1, .int (nI len)), (0, .ref m)]) dX5_wipe_4 rfl (by decide) rfl ?_
  refine ex_aload_n 1 dX5_wipe_5 rfl rfl ?_
  refine ex_iconst (v := nI 0) dX5_wipe_6 (by decide) ?_
  refine exA_pl (l2 := 0) S fl_X5_109 rfl dX5_wipe_7 (fun h S => ?_)
  refine ex_iload_n 0 dX5_wipe_10 rfl rfl ?_
  refine ex_iret hQ rfl ⟨?_, rfl, ?_⟩ dX5_wipe_11
  · rfl
  · exact ⟨fs, fp, fl, fw, fd, S, r1, r2, r3, r4, fun i hi => absurd hi (Nat.not_lt_zero _), Nat.zero_le _⟩

set_option maxRecDepth 20000 in
set_option maxHeartbeats 2000000 in
theorem m_save {G : GG} {l : Launch} {h0 : HP} {z m : Nat} {x : CX} (S0 : MP G h0 m x) (n8 : x.1.1 ≤ 8) (nV : ∀ i B, x.2.2.2.1 i = some B → B.1 ≤ 8) {s : Int32} : Ct G l 1 0 0 yX5_save cX5_save 3 (some .int) [.ref m, .int s] h0 z (pM G (X_save x s) h0 z m) := by
  refine Ct.intro (lv := [(0, .ref m), (1, .int s)]) (by decide +kernel) (Nat.le_of_ble_eq_true rfl) rfl (fun X Q hQ hnm => ?_)
  obtain ⟨fs, fp, fl, fw, fd, S, s2⟩ := S0
  obtain ⟨A, k, L, V, len, c⟩ := x
  obtain ⟨r1, r2, r3, r4, r5, r6⟩ := s2
  have S : MA G h0 h0 m k len fs fp fl fw fd := S
  have r2 : ∀ j, j < k → AR fp (65 * j) (L j) := r2
  have k6 : k ≤ 6 := r3
  have r4 : ∀ i, i < 2 → mV fl fw i (V i) := r4
  have r5 : ∀ i, i < len → fd i = nI (c i) := r5
  have l60 : len ≤ 60 := r6
  have r1 : AR fs 0 A := r1
  rcases inR_or s 2 (by omega) with ⟨i0, hs, rfl⟩ | hs
  · refine ex_iload_n 1 dX5_save_0 rfl rfl ?_
    refine ex_iconst (v := nI 0) dX5_save_1 (by decide) ?_
    refine ex_iconst (v := nI 1) dX5_save_2 (by decide) ?_
    refine ex_callS0 (As := [.int (nI i0), .int (nI 0), .int (nI 1)]) (v := .int (nI 1)) vl_X5_26 (Ct.mono (by rw [inV_t (show i0 ≤ 1 by omega) (by decide)]) m_in) rfl (by decide) (Nat.le_of_ble_eq_true rfl) (Nat.le_refl _) (Nat.le_refl _) rfl dX5_save_3 ?_
    refine ex_if_ne (tgt := 12) dX5_save_6 (by decide) (fun c_6 => ?_) (fun c_6 => absurd c_6 (by decide))
    refine ex_iconst (v := nI 0) dX5_save_12 (by decide) ?_
    refine ex_istore_n (lv' := [(2, .int (nI 0)), (0, .ref m), (1, .int (nI i0))]) dX5_save_13 rfl (by decide) rfl ?_
    suffices H : ∀ (b2 b : Nat) (h : HP) (f : Nat → Int32), b + b2 = 65 → MA G h0 h m k len fs fp f fw fd → ((∀ i, i < b → f (65 * i0 + i) = fs i) ∧ ∀ i, (i < 65 * i0 + 0 ∨ 65 * i0 + 0 + 65 ≤ i) → f i = fl i) → ex G l X Q 1 0 0 0 0 cX5_save yX5_save.cls 3 (some .int) h z 14 [(2, .int (nI b)), (0, .ref m), (1, .int (nI i0))] [] from by
      have e2 := H 65 0 h0 fl (by omega) S ⟨fun i hi => absurd hi (Nat.not_lt_zero _), fun i hi => rfl⟩
      refine ex_lv (lv2 := [(2, .int (nI 0)), (0, .ref m), (1, .int (nI i0))]) [0, 1, 2] rfl ?_
      exact e2
    intro b2
    induction b2 with
    | zero =>
      intro b h f hb S hf
      obtain rfl : b = 65 := hb
      refine ex_iload_n 0 dX5_save_14 rfl rfl ?_
      refine ex_bipush (v := nI 65) dX5_save_15 (by decide) ?_
      refine ex_icmp_ge (tgt := 43) dX5_save_17 (by decide) (fun c_17 => ?_) (fun c_17 => absurd ((nI_leI (by omega) (by omega)).mpr (by omega)) c_17)
      refine ex_aload_n 1 dX5_save_43 rfl rfl ?_
      refine ex_get (v := .ref (m + 4)) fl_X5_19 S.1 rfl dX5_save_44 ?_
      refine ex_iload_n 2 dX5_save_47 rfl rfl ?_
      refine ex_iconst (v := nI 1) dX5_save_48 (by decide) ?_
      refine exA_st4 (j := i0) S rfl (by omega) dX5_save_49 (fun h S => ?_)
      refine ex_aload_n 1 dX5_save_50 rfl rfl ?_
      refine ex_get (v := .ref (m + 1)) fl_X5_7 S.1 rfl dX5_save_51 ?_
      refine ex_bipush (v := nI 6) dX5_save_54 (by decide) ?_
      refine ex_iald (j := 6) S.2.1 rfl (by omega) (by decide) dX5_save_56 ?_
      refine ex_iret hQ rfl ⟨?_, rfl, ?_⟩ dX5_save_57
      · unfold X_save; rw [if_pos (inR_nI hs (by decide))]
        exact congrArg (fun x => some (Value.int x)) (by have := r1.1 6 (by decide); rw [Nat.zero_add] at this; exact this)
      · unfold X_save; rw [if_pos (inR_nI hs (by decide)), ixn (by omega)]
        refine ⟨fs, fp, f, _, fd, S, r1, r2, r3, fun j hj => ?_, r5, r6⟩
        show mV f (upd fw i0 (vp_nar .boolean (nI 1))) j (if j = i0 then some A else V j)
        by_cases e : j = i0
        · rw [if_pos e, e]
          exact ⟨by rw [upd_s]; rfl, r1.kept n8 (fun i hi => by rw [hf.1 i hi, Nat.zero_add])⟩
        · rw [if_neg e]
          have h4 := r4 j hj
          cases hv : V j with
          | none => rw [hv] at h4; show upd fw i0 _ j = nI 0; rw [upd_n e]; exact h4
          | some B => rw [hv] at h4; exact ⟨by rw [upd_n e]; exact h4.1, h4.2.kept (nV j B hv) (fun i hi => hf.2 _ (by omega))⟩
    | succ b2 ih =>
      intro b h f hb S hf
      refine ex_iload_n 0 dX5_save_14 rfl rfl ?_
      refine ex_bipush (v := nI 65) dX5_save_15 (by decide) ?_
      refine ex_icmp_ge (tgt := 43) dX5_save_17 (by decide) (fun c_17 => absurd c_17 (fun q9 => absurd ((nI_leI (by omega) (by omega)).mp q9) (by omega))) (fun c_17 => ?_)
      refine ex_aload_n 1 dX5_save_20 rfl rfl ?_
      refine ex_get (v := .ref (m + 3)) fl_X5_16 S.1 rfl dX5_save_21 ?_
      refine ex_bipush (v := nI 65) dX5_save_24 (by decide) ?_
      refine ex_iload_n 2 dX5_save_26 rfl rfl ?_
      refine ex_imulN dX5_save_27 ?_
      refine ex_iload_n 0 dX5_save_28 rfl rfl ?_
      refine ex_iaddN dX5_save_29 ?_
      refine ex_aload_n 1 dX5_save_30 rfl rfl ?_
      refine ex_get (v := .ref (m + 1)) fl_X5_7 S.1 rfl dX5_save_31 ?_
      refine ex_iload_n 0 dX5_save_34 rfl rfl ?_
      refine ex_iald (j := b) S.2.1 rfl (by omega) (by decide) dX5_save_35 ?_
      refine exA_st3 (j := 65 * i0 + b) S rfl (by omega) dX5_save_36 (fun h S => ?_)
      refine ex_iinc (v := nI (b + 1)) (lv' := [(2, .int (nI (b + 1))), (0, .ref m), (1, .int (nI i0))]) 0 dX5_save_37 rfl (nI_1 b) (by decide) rfl ?_
      refine ex_goto (tgt := 14) dX5_save_40 (by decide) ?_
      have e2 := ih (b + 1) h _ (by omega) S ⟨fun i hi => by
              by_cases e : i = b
              · rw [e, upd_s]
              · rw [upd_n (by omega)]; exact hf.1 i (by omega), fun i hi => by rw [upd_n (by omega)]; exact hf.2 i hi⟩
      refine ex_lv (lv2 := [(2, .int (nI (b + 1))), (0, .ref m), (1, .int (nI i0))]) [0, 1, 2] rfl ?_
      exact e2
  · refine ex_iload_n 1 dX5_save_0 rfl rfl ?_
    refine ex_iconst (v := nI 0) dX5_save_1 (by decide) ?_
    refine ex_iconst (v := nI 1) dX5_save_2 (by decide) ?_
    refine ex_callS0 (As := [.int s, .int (nI 0), .int (nI 1)]) (v := .int (nI 0)) vl_X5_26 (Ct.mono (by rw [inV_f hs (by decide)]) m_in) rfl (by decide) (Nat.le_of_ble_eq_true rfl) (Nat.le_refl _) (Nat.le_refl _) rfl dX5_save_3 ?_
    refine ex_if_ne (tgt := 12) dX5_save_6 (by decide) (fun c_6 => absurd (by decide) c_6) (fun c_6 => ?_)
    refine ex_bipush (v := (-2)) dX5_save_9 (by decide) ?_
    refine ex_iret hQ rfl ⟨?_, rfl, ?_⟩ dX5_save_11
    · unfold X_save; rw [if_neg hs]
    · unfold X_save; rw [if_neg hs]
      exact ⟨fs, fp, fl, fw, fd, S, r1, r2, r3, r4, r5, r6⟩

set_option maxRecDepth 20000 in
set_option maxHeartbeats 2000000 in
theorem m_restore {G : GG} {l : Launch} {h0 : HP} {z m : Nat} {x : CX} (S0 : MP G h0 m x) (n8 : x.1.1 ≤ 8) (nL : ∀ j, j < x.2.1 → (x.2.2.1 j).1 ≤ 8) (nV : ∀ i B, x.2.2.2.1 i = some B → B.1 ≤ 8) {s : Int32} : Ct G l 1 0 0 yX5_restore cX5_restore 3 (some .int) [.ref m, .int s] h0 z (pM G (X_restore x s) h0 z m) := by
  refine Ct.intro (lv := [(0, .ref m), (1, .int s)]) (by decide +kernel) (Nat.le_of_ble_eq_true rfl) rfl (fun X Q hQ hnm => ?_)
  obtain ⟨fs, fp, fl, fw, fd, S, s2⟩ := S0
  obtain ⟨A, k, L, V, len, c⟩ := x
  obtain ⟨r1, r2, r3, r4, r5, r6⟩ := s2
  have S : MA G h0 h0 m k len fs fp fl fw fd := S
  have r2 : ∀ j, j < k → AR fp (65 * j) (L j) := r2
  have k6 : k ≤ 6 := r3
  have r4 : ∀ i, i < 2 → mV fl fw i (V i) := r4
  have r5 : ∀ i, i < len → fd i = nI (c i) := r5
  have l60 : len ≤ 60 := r6
  have r1 : AR fs 0 A := r1
  rcases inR_or s 2 (by omega) with ⟨i0, hs, rfl⟩ | hs
  · have h4 := r4 i0 hs
    refine ex_iload_n 1 dX5_restore_0 rfl rfl ?_
    refine ex_iconst (v := nI 0) dX5_restore_1 (by decide) ?_
    refine ex_iconst (v := nI 1) dX5_restore_2 (by decide) ?_
    refine ex_callS0 (As := [.int (nI i0), .int (nI 0), .int (nI 1)]) (v := .int (nI 1)) vl_X5_26 (Ct.mono (by rw [inV_t (show i0 ≤ 1 by omega) (by decide)]) m_in) rfl (by decide) (Nat.le_of_ble_eq_true rfl) (Nat.le_refl _) (Nat.le_refl _) rfl dX5_restore_3 ?_
    refine ex_if_ne (tgt := 12) dX5_restore_6 (by decide) (fun c_6 => ?_) (fun c_6 => absurd c_6 (by decide))
    refine ex_aload_n 0 dX5_restore_12 rfl rfl ?_
    refine ex_get (v := .ref (m + 4)) fl_X5_19 S.1 rfl dX5_restore_13 ?_
    refine ex_iload_n 1 dX5_restore_16 rfl rfl ?_
    refine ex_zald (j := i0) S.2.2.2.2.1 rfl (by omega) (by decide) dX5_restore_17 ?_
    rcases hV : V i0 with _ | B
    · rw [hV] at h4
      have h4 : fw i0 = nI 0 := h4
      refine ex_if_ne (tgt := 24) dX5_restore_18 (by decide) (fun c_18 => absurd (h4) c_18) (fun c_18 => ?_)
      refine ex_bipush (v := (-5)) dX5_restore_21 (by decide) ?_
      refine ex_iret hQ rfl ⟨?_, rfl, ?_⟩ dX5_restore_23
      · unfold X_restore; dsimp only; rw [if_pos (inR_nI hs (by decide)), ixn (by omega), hV]
      · unfold X_restore; dsimp only; rw [if_pos (inR_nI hs (by decide)), ixn (by omega), hV]
        exact ⟨fs, fp, fl, fw, fd, S, r1, r2, r3, r4, r5, r6⟩
    · rw [hV] at h4
      obtain ⟨h4, h4r⟩ := h4
      refine ex_if_ne (tgt := 24) dX5_restore_18 (by decide) (fun c_18 => ?_) (fun c_18 => absurd c_18 (by rw [h4]; decide))
      refine ex_aload_n 0 dX5_restore_24 rfl rfl ?_
      refine ex_callV (As := []) (ci := 5) vl_X5_87 rfl (m_rem (x := (A, k, L, V, len, c)) ⟨fs, fp, fl, fw, fd, S, r1, r2, r3, r4, r5, r6⟩ n8 nL) S.1 rfl (by decide) (Nat.le_of_ble_eq_true rfl) (Nat.le_refl _) (Nat.le_refl _) rfl dX5_restore_25 (fun r9 h9 z9 hp => ?_)
      obtain ⟨rfl, rfl, fs1, fp1, fl1, fw1, fd1, S, t1, t2, t3, t4, t5, t6⟩ := hp
      have S : MA G h0 h9 m (if k < 6 then k + 1 else 6) len fs1 fp1 fl1 fw1 fd1 := S
      have h5 := t4 i0 hs
      have h5 : mV fl1 fw1 i0 (V i0) := h5
      rw [hV] at h5
      obtain ⟨-, h5⟩ := h5
      refine ex_iconst (v := nI 0) dX5_restore_28 (by decide) ?_
      refine ex_istore_n (lv' := [(2, .int (nI 0)), (0, .ref m), (1, .int (nI i0))]) dX5_restore_29 rfl (by decide) rfl ?_
      suffices H : ∀ (b2 b : Nat) (h : HP) (f : Nat → Int32), b + b2 = 65 → MA G h0 h m (if k < 6 then k + 1 else 6) len f fp1 fl1 fw1 fd1 → ((∀ i, i < b → f i = fl1 (65 * i0 + i)) ∧ ∀ i, (i < 0 ∨ 0 + 65 ≤ i) → f i = fs1 i) → ex G l X Q 1 0 0 0 0 cX5_restore yX5_restore.cls 3 (some .int) h z9 30 [(2, .int (nI b)), (0, .ref m), (1, .int (nI i0))] [] from by
        have e2 := H 65 0 h9 fs1 (by omega) S ⟨fun i hi => absurd hi (Nat.not_lt_zero _), fun i hi => rfl⟩
        refine ex_lv (lv2 := [(2, .int (nI 0)), (0, .ref m), (1, .int (nI i0))]) [0, 1, 2] rfl ?_
        exact e2
      intro b2
      induction b2 with
      | zero =>
        intro b h f hb S hf
        obtain rfl : b = 65 := hb
        refine ex_iload_n 0 dX5_restore_30 rfl rfl ?_
        refine ex_bipush (v := nI 65) dX5_restore_31 (by decide) ?_
        refine ex_icmp_ge (tgt := 59) dX5_restore_33 (by decide) (fun c_33 => ?_) (fun c_33 => absurd ((nI_leI (by omega) (by omega)).mpr (by omega)) c_33)
        refine ex_aload_n 1 dX5_restore_59 rfl rfl ?_
        refine ex_get (v := .ref (m + 1)) fl_X5_7 S.1 rfl dX5_restore_60 ?_
        refine ex_bipush (v := nI 6) dX5_restore_63 (by decide) ?_
        refine ex_iald (j := 6) S.2.1 rfl (by omega) (by decide) dX5_restore_65 ?_
        refine ex_iret hQ rfl ⟨?_, rfl, ?_⟩ dX5_restore_66
        · unfold X_restore; dsimp only; rw [if_pos (inR_nI hs (by decide)), ixn (by omega), hV]
          exact congrArg (fun x => some (Value.int x)) ((hf.1 6 (by decide)).trans (h5.1 6 (by decide)))
        · unfold X_restore; dsimp only; rw [if_pos (inR_nI hs (by decide)), ixn (by omega), hV]
          exact ⟨f, fp1, fl1, fw1, fd1, S, h5.kept (nV i0 B hV) (fun i hi => by rw [Nat.zero_add, hf.1 i hi]), t2, t3, t4, t5, t6⟩
      | succ b2 ih =>
        intro b h f hb S hf
        refine ex_iload_n 0 dX5_restore_30 rfl rfl ?_
        refine ex_bipush (v := nI 65) dX5_restore_31 (by decide) ?_
        refine ex_icmp_ge (tgt := 59) dX5_restore_33 (by decide) (fun c_33 => absurd c_33 (fun q9 => absurd ((nI_leI (by omega) (by omega)).mp q9) (by omega))) (fun c_33 => ?_)
        refine ex_aload_n 1 dX5_restore_36 rfl rfl ?_
        refine ex_get (v := .ref (m + 1)) fl_X5_7 S.1 rfl dX5_restore_37 ?_
        refine ex_iload_n 0 dX5_restore_40 rfl rfl ?_
        refine ex_aload_n 1 dX5_restore_41 rfl rfl ?_
        refine ex_get (v := .ref (m + 3)) fl_X5_16 S.1 rfl dX5_restore_42 ?_
        refine ex_bipush (v := nI 65) dX5_restore_45 (by decide) ?_
        refine ex_iload_n 2 dX5_restore_47 rfl rfl ?_
        refine ex_imulN dX5_restore_48 ?_
        refine ex_iload_n 0 dX5_restore_49 rfl rfl ?_
        refine ex_iaddN dX5_restore_50 ?_
        refine ex_iald (j := 65 * i0 + b) S.2.2.2.1 rfl (by omega) (by decide) dX5_restore_51 ?_
        refine exA_st1 (j := b) S rfl (by omega) dX5_restore_52 (fun h S => ?_)
        refine ex_iinc (v := nI (b + 1)) (lv' := [(2, .int (nI (b + 1))), (0, .ref m), (1, .int (nI i0))]) 0 dX5_restore_53 rfl (nI_1 b) (by decide) rfl ?_
        refine ex_goto (tgt := 30) dX5_restore_56 (by decide) ?_
        have e2 := ih (b + 1) h _ (by omega) S ⟨fun i hi => by
                  by_cases e : i = b
                  · rw [e, upd_s]
                  · rw [upd_n (by omega)]; exact hf.1 i (by omega), fun i hi => by rw [upd_n (by omega)]; exact hf.2 i hi⟩
        refine ex_lv (lv2 := [(2, .int (nI (b + 1))), (0, .ref m), (1, .int (nI i0))]) [0, 1, 2] rfl ?_
        exact e2
  · refine ex_iload_n 1 dX5_restore_0 rfl rfl ?_
    refine ex_iconst (v := nI 0) dX5_restore_1 (by decide) ?_
    refine ex_iconst (v := nI 1) dX5_restore_2 (by decide) ?_
    refine ex_callS0 (As := [.int s, .int (nI 0), .int (nI 1)]) (v := .int (nI 0)) vl_X5_26 (Ct.mono (by rw [inV_f hs (by decide)]) m_in) rfl (by decide) (Nat.le_of_ble_eq_true rfl) (Nat.le_refl _) (Nat.le_refl _) rfl dX5_restore_3 ?_
    refine ex_if_ne (tgt := 12) dX5_restore_6 (by decide) (fun c_6 => absurd (by decide) c_6) (fun c_6 => ?_)
    refine ex_bipush (v := (-2)) dX5_restore_9 (by decide) ?_
    refine ex_iret hQ rfl ⟨?_, rfl, ?_⟩ dX5_restore_11
    · unfold X_restore; rw [if_neg hs]
    · unfold X_restore; rw [if_neg hs]
      exact ⟨fs, fp, fl, fw, fd, S, r1, r2, r3, r4, r5, r6⟩

set_option maxRecDepth 20000 in
set_option maxHeartbeats 2000000 in
theorem m_put {G : GG} {l : Launch} {h0 : HP} {z m : Nat} {x : CX} (S0 : MP G h0 m x) {y : Int64} : Ct G l 1 0 0 yX5_put cX5_put 8 (some .int) [.ref m, .long y] h0 z (pM G (X_put x y) h0 z m) := by
  refine Ct.intro (lv := [(0, .ref m), (1, .long y)]) (by decide +kernel) (Nat.le_of_ble_eq_true rfl) rfl (fun X Q hQ hnm => ?_)
  obtain ⟨fs, fp, fl, fw, fd, S, s2⟩ := S0
  obtain ⟨A, k, L, V, len, c⟩ := x
  obtain ⟨r1, r2, r3, r4, r5, r6⟩ := s2
  have S : MA G h0 h0 m k len fs fp fl fw fd := S
  have r2 : ∀ j, j < k → AR fp (65 * j) (L j) := r2
  have k6 : k ≤ 6 := r3
  have r4 : ∀ i, i < 2 → mV fl fw i (V i) := r4
  have r5 : ∀ i, i < len → fd i = nI (c i) := r5
  have l60 : len ≤ 60 := r6
  have r1 : AR fs 0 A := r1
  have p8 : pcs y ≤ 8 := pcG_le 8 0
  refine ex_iconst (v := nI 0) dX5_put_0 (by decide) ?_
  refine ex_istore_n (lv' := [(3, .int (nI 0)), (0, .ref m), (1, .long y)]) dX5_put_1 rfl (by decide) rfl ?_
  refine ex_iconst (v := nI 1) dX5_put_2 (by decide) ?_
  refine ex_istore (lv' := [(4, .int (nI 1)), (3, .int (nI 0)), (0, .ref m), (1, .long y)]) dX5_put_3 (by decide) rfl ?_
  refine ex_iconst (v := nI 0) dX5_put_5 (by decide) ?_
  refine ex_istore (lv' := [(5, .int (nI 0)), (4, .int (nI 1)), (3, .int (nI 0)), (0, .ref m), (1, .long y)]) dX5_put_6 (by decide) rfl ?_
  refine ex_iconst (v := nI 0) dX5_put_8 (by decide) ?_
  refine ex_istore (lv' := [(6, .int (nI 0)), (5, .int (nI 0)), (4, .int (nI 1)), (3, .int (nI 0)), (0, .ref m), (1, .long y)]) dX5_put_9 (by decide) rfl ?_
  suffices H : ∀ (k2 i many : Nat) (r e : Bool), i + k2 = 8 → many ≤ i → pcJ y i many r e → ex G l X Q 1 0 0 0 0 cX5_put yX5_put.cls 8 (some .int) h0 z 11 [(6, .int (nI i)), (5, .int (bI e)), (4, .int (bI r)), (3, .int (nI many)), (0, .ref m), (1, .long y)] [] from by
    have e2 := H 8 0 0 true false (by omega) (by omega) pcJ_0
    refine ex_lv (lv2 := [(6, .int (nI 0)), (5, .int (bI false)), (4, .int (bI true)), (3, .int (nI 0)), (0, .ref m), (1, .long y)]) [0, 1, 2, 3, 4, 5] rfl ?_
    exact e2
  intro k2
  induction k2 with
  | zero =>
    intro i many r e hi hm hJ
    obtain rfl : i = 8 := by omega
    have hp := pcJ_8 hJ
    rcases r with _ | _
    · have hp : pcs y = 0 := hp
      refine ex_iload 0 dX5_put_11 rfl ?_
      refine ex_bipush (v := nI 8) dX5_put_13 (by decide) ?_
      refine ex_icmp_ge (tgt := 105) dX5_put_15 (by decide) (fun c_15 => ?_) (fun c_15 => absurd ((nI_leI (by omega) (by omega)).mpr (by omega)) c_15)
      refine ex_iload 2 dX5_put_105 rfl ?_
      refine ex_if_eq (tgt := 114) dX5_put_107 (by decide) (fun c_107 => ?_) (fun c_107 => absurd (by decide) c_107)
      refine ex_bipush (v := (-2)) dX5_put_114 (by decide) ?_
      refine ex_iret hQ rfl ⟨?_, rfl, ?_⟩ dX5_put_116
      · unfold X_put; rw [if_pos (hp)]
      · unfold X_put; rw [if_pos (hp)]
        exact ⟨fs, fp, fl, fw, fd, S, r1, r2, r3, r4, r5, r6⟩
    · have hp : pcs y = many := hp
      subst hp
      refine ex_iload 0 dX5_put_11 rfl ?_
      refine ex_bipush (v := nI 8) dX5_put_13 (by decide) ?_
      refine ex_icmp_ge (tgt := 105) dX5_put_15 (by decide) (fun c_15 => ?_) (fun c_15 => absurd ((nI_leI (by omega) (by omega)).mpr (by omega)) c_15)
      refine ex_iload 2 dX5_put_105 rfl ?_
      refine ex_if_eq (tgt := 114) dX5_put_107 (by decide) (fun c_107 => absurd c_107 (by decide)) (fun c_107 => ?_)
      refine ex_iload_n 3 dX5_put_110 rfl rfl ?_
      refine ex_if_ne (tgt := 117) dX5_put_111 (by decide) (fun c_111 => ?_) (fun c_111 => ?_)
      · have n_111 : ¬ ((pcs y) = 0) := fun q9 => c_111 ((nI_eq (b := 0) (by omega) (by omega)).mpr q9)
        refine ex_aload_n 4 dX5_put_117 rfl rfl ?_
        refine ex_get (v := .int (nI len)) fl_X5_109 S.1 rfl dX5_put_118 ?_
        refine ex_iload_n 3 dX5_put_121 rfl rfl ?_
        refine ex_iaddN dX5_put_122 ?_
        refine ex_bipush (v := nI 60) dX5_put_123 (by decide) ?_
        refine ex_icmp_le (tgt := 131) dX5_put_125 (by decide) (fun c_125 => ?_) (fun c_125 => ?_)
        · have n_125 : (len + (pcs y)) ≤ 60 := (nI_leI (by omega) (by omega)).mp c_125
          refine ex_iload_n 3 dX5_put_131 rfl rfl ?_
          refine ex_iconst (v := nI 1) dX5_put_132 (by decide) ?_
          refine ex_isub dX5_put_133 ?_
          refine ex_istore (lv' := [(6, .int ((nI (pcs y)) - (nI 1))), (5, .int (bI e)), (4, .int (nI 1)), (3, .int (nI (pcs y))), (0, .ref m), (1, .long y)]) dX5_put_134 (by decide) rfl ?_
          suffices H : ∀ (mm : Nat) (v : Int32) (h : HP) (f : Nat → Int32), mm ≤ pcs y → v = nI mm - nI 1 → MA G h0 h m k (len + (pcs y - mm)) fs fp fl fw f → (∀ i, i < len + (pcs y - mm) → f i = nI (putC len c y (pcs y) i)) → ex G l X Q 1 0 0 0 0 cX5_put yX5_put.cls 8 (some .int) h z 136 [(6, .int v), (5, .int (bI e)), (4, .int (nI 1)), (3, .int (nI (pcs y))), (0, .ref m), (1, .long y)] [] from by
            have e2 := H (pcs y) _ h0 fd (Nat.le_refl _) rfl (by rw [Nat.sub_self]; exact S) (fun i hi => by rw [r5 i (by omega)]; unfold putC; rw [if_pos (by omega)])
            refine ex_lv (lv2 := [(6, .int ((nI (pcs y)) - (nI 1))), (5, .int (bI e)), (4, .int (nI 1)), (3, .int (nI (pcs y))), (0, .ref m), (1, .long y)]) [0, 1, 2, 3, 4, 5] rfl ?_
            exact e2
          intro mm
          induction mm with
          | zero =>
            intro v h f hm2 hv S hf
            refine ex_iload 0 dX5_put_136 rfl ?_
            refine ex_if_lt (tgt := 178) dX5_put_138 (by decide) (fun c_138 => ?_) (fun c_138 => absurd (by rw [hv]; decide) c_138)
            refine ex_aload_n 4 dX5_put_178 rfl rfl ?_
            refine ex_get (v := .int (nI (len + (pcs y - 0)))) fl_X5_109 S.1 rfl dX5_put_179 ?_
            refine ex_iret hQ rfl ⟨?_, rfl, ?_⟩ dX5_put_182
            · unfold X_put; rw [if_neg n_111, if_pos n_125]; rfl
            · unfold X_put; rw [if_neg n_111, if_pos n_125]
              exact ⟨fs, fp, fl, fw, f, S, r1, r2, r3, r4, hf, n_125⟩
          | succ mm ih =>
            intro v h f hm2 hv S hf
            obtain rfl : v = nI mm := by rw [hv]; exact nI_p1 (by omega)
            refine ex_iload 0 dX5_put_136 rfl ?_
            refine ex_if_lt (tgt := 178) dX5_put_138 (by decide) (fun c_138 => absurd c_138 (nI_pos (by omega))) (fun c_138 => ?_)
            refine ex_aload_n 4 dX5_put_141 rfl rfl ?_
            refine ex_get (v := .ref (m + 5)) fl_X5_23 S.1 rfl dX5_put_142 ?_
            refine ex_aload_n 4 dX5_put_145 rfl rfl ?_
            refine ex_get (v := .int (nI (len + (pcs y - (mm + 1))))) fl_X5_109 S.1 rfl dX5_put_146 ?_
            refine ex_lload_n 5 dX5_put_149 rfl rfl ?_
            refine ex_bipush (v := nI 8) dX5_put_150 (by decide) ?_
            refine ex_iload 0 dX5_put_152 rfl ?_
            refine ex_imulN dX5_put_154 ?_
            refine ex_lshr (v := (y >>> ((nI (8 * mm)).toInt64 &&& 63))) dX5_put_155 (rfl) ?_
            refine ex_ldc2 (v := 255) dX5_put_156 kl_X5_115 ?_
            refine ex_land dX5_put_159 ?_
            rw [sar_and (by omega)]
            refine ex_l2i (v := nI (cdN y mm)) dX5_put_160 (cI_int _ cdN_lt) ?_
            refine exA_st5 (j := len + (pcs y - (mm + 1))) S rfl (by omega) dX5_put_161 (fun h S => ?_)
            refine ex_aload_n 4 dX5_put_162 rfl rfl ?_
            refine ex_dup dX5_put_163 rfl ?_
            refine ex_get (v := .int (nI (len + (pcs y - (mm + 1))))) fl_X5_109 S.1 rfl dX5_put_164 ?_
            refine ex_iconst (v := nI 1) dX5_put_167 (by decide) ?_
            refine ex_iaddN dX5_put_168 ?_
            refine exA_pl (l2 := len + (pcs y - (mm + 1)) + 1) S fl_X5_109 rfl dX5_put_169 (fun h S => ?_)
            refine ex_iinc (v := (nI mm) + (-1)) (lv' := [(6, .int ((nI mm) + (-1))), (5, .int (bI e)), (4, .int (nI 1)), (3, .int (nI (pcs y))), (0, .ref m), (1, .long y)]) 0 dX5_put_172 rfl rfl (by decide) rfl ?_
            refine ex_goto (tgt := 136) dX5_put_175 (by decide) ?_
            have e3 : len + (pcs y - mm) = len + (pcs y - (mm + 1)) + 1 := by omega
            have e2 := ih _ h _ (by omega) rfl (by rw [e3]; exact S) (fun i hi => by
              by_cases ei : i = len + (pcs y - (mm + 1))
              · rw [ei, upd_s]
                unfold putC
                rw [if_neg (by omega), show pcs y - 1 - (len + (pcs y - (mm + 1)) - len) = mm by omega]
              · rw [upd_n ei]
                exact hf i (by omega))
            rw [show nI mm - nI 1 = nI mm + (-1) from (by rw [Int32.sub_eq_add_neg]; rfl)] at e2
            refine ex_lv (lv2 := [(6, .int ((nI mm) + (-1))), (5, .int (bI e)), (4, .int (nI 1)), (3, .int (nI (pcs y))), (0, .ref m), (1, .long y)]) [0, 1, 2, 3, 4, 5] rfl ?_
            exact e2
        · have n_125 : ¬ ((len + (pcs y)) ≤ 60) := fun q9 => c_125 ((nI_leI (by omega) (by omega)).mpr q9)
          refine ex_bipush (v := (-4)) dX5_put_128 (by decide) ?_
          refine ex_iret hQ rfl ⟨?_, rfl, ?_⟩ dX5_put_130
          · unfold X_put; rw [if_neg n_111, if_neg n_125]
          · unfold X_put; rw [if_neg n_111, if_neg n_125]
            exact ⟨fs, fp, fl, fw, fd, S, r1, r2, r3, r4, r5, r6⟩
      · have n_111 : (pcs y) = 0 := (nI_eq (b := 0) (by omega) (by omega)).mp c_111
        refine ex_bipush (v := (-2)) dX5_put_114 (by decide) ?_
        refine ex_iret hQ rfl ⟨?_, rfl, ?_⟩ dX5_put_116
        · unfold X_put; rw [if_pos (n_111)]
        · unfold X_put; rw [if_pos (n_111)]
          exact ⟨fs, fp, fl, fw, fd, S, r1, r2, r3, r4, r5, r6⟩
  | succ k2 ih =>
    intro i many r e hi hm hJ
    refine ex_iload 0 dX5_put_11 rfl ?_
    refine ex_bipush (v := nI 8) dX5_put_13 (by decide) ?_
    refine ex_icmp_ge (tgt := 105) dX5_put_15 (by decide) (fun c_15 => absurd c_15 (fun q9 => absurd ((nI_leI (by omega) (by omega)).mp q9) (by omega))) (fun c_15 => ?_)
    refine ex_lload_n 5 dX5_put_18 rfl rfl ?_
    refine ex_bipush (v := nI 8) dX5_put_19 (by decide) ?_
    refine ex_iload 0 dX5_put_21 rfl ?_
    refine ex_imulN dX5_put_23 ?_
    refine ex_lshr (v := (y >>> ((nI (8 * i)).toInt64 &&& 63))) dX5_put_24 (rfl) ?_
    refine ex_ldc2 (v := 255) dX5_put_25 kl_X5_115 ?_
    refine ex_land dX5_put_28 ?_
    rw [sar_and (by omega)]
    refine ex_l2i (v := nI (cdN y i)) dX5_put_29 (cI_int _ cdN_lt) ?_
    refine ex_istore (lv' := [(7, .int (nI (cdN y i))), (6, .int (nI i)), (5, .int (bI e)), (4, .int (bI r)), (3, .int (nI many)), (0, .ref m), (1, .long y)]) dX5_put_30 (by decide) rfl ?_
    have h256 : cdN y i < 256 := cdN_lt
    rcases e with _ | _ <;> rcases r with _ | _
    · refine ex_iload 2 dX5_put_32 rfl ?_
      refine ex_if_ne (tgt := 42) dX5_put_34 (by decide) (fun c_34 => absurd (by decide) c_34) (fun c_34 => ?_)
      refine ex_iload 0 dX5_put_37 rfl ?_
      refine ex_if_ne (tgt := 46) dX5_put_39 (by decide) (fun c_39 => ?_) (fun c_39 => ?_)
      · have n_39 : ¬ ((cdN y i) = 0) := fun q9 => c_39 ((nI_eq (b := 0) (by omega) (by omega)).mpr q9)
        refine ex_iconst (v := nI 0) dX5_put_46 (by decide) ?_
        refine ex_istore (lv' := [(5, .int (nI 0)), (7, .int (nI (cdN y i))), (6, .int (nI i)), (4, .int (nI 0)), (3, .int (nI many)), (0, .ref m), (1, .long y)]) dX5_put_47 (by decide) rfl ?_
        refine ex_iload 3 dX5_put_49 rfl ?_
        refine ex_if_eq (tgt := 83) dX5_put_51 (by decide) (fun c_51 => ?_) (fun c_51 => absurd (by decide) c_51)
        refine ex_iconst (v := nI 0) dX5_put_83 (by decide) ?_
        refine ex_istore (lv' := [(4, .int (nI 0)), (5, .int (nI 0)), (7, .int (nI (cdN y i))), (6, .int (nI i)), (3, .int (nI many)), (0, .ref m), (1, .long y)]) dX5_put_84 (by decide) rfl ?_
        refine ex_iload_n 4 dX5_put_86 rfl rfl ?_
        refine ex_iload 1 dX5_put_87 rfl ?_
        refine ex_if_eq (tgt := 96) dX5_put_89 (by decide) (fun c_89 => ?_) (fun c_89 => absurd (by decide) c_89)
        refine ex_iconst (v := nI 1) dX5_put_96 (by decide) ?_
        refine ex_iaddN dX5_put_97 ?_
        refine ex_istore_n (lv' := [(3, .int (nI (many + 1))), (4, .int (nI 0)), (5, .int (nI 0)), (7, .int (nI (cdN y i))), (6, .int (nI i)), (0, .ref m), (1, .long y)]) dX5_put_98 rfl (by decide) rfl ?_
        refine ex_iinc (v := nI (i + 1)) (lv' := [(6, .int (nI (i + 1))), (3, .int (nI (many + 1))), (4, .int (nI 0)), (5, .int (nI 0)), (7, .int (nI (cdN y i))), (0, .ref m), (1, .long y)]) 4 dX5_put_99 rfl (nI_1 i) (by decide) rfl ?_
        refine ex_goto (tgt := 11) dX5_put_102 (by decide) ?_
        have hJ2 : pcJ y (i + 1) (many + 1) false false := by
          exact pcJ_n hJ
        have e9 := ih (i + 1) (many + 1) false false (by omega) (by omega) hJ2
        refine ex_lv (lv2 := [(6, .int (nI (i + 1))), (5, .int (bI false)), (4, .int (bI false)), (3, .int (nI (many + 1))), (0, .ref m), (1, .long y)]) [0, 3, 2, 1, 5, 6] rfl ?_
        exact e9
      · have n_39 : (cdN y i) = 0 := (nI_eq (b := 0) (by omega) (by omega)).mp c_39
        refine ex_iconst (v := nI 1) dX5_put_42 (by decide) ?_
        refine ex_goto (tgt := 47) dX5_put_43 (by decide) ?_
        refine ex_istore (lv' := [(5, .int (nI 1)), (7, .int (nI (cdN y i))), (6, .int (nI i)), (4, .int (nI 0)), (3, .int (nI many)), (0, .ref m), (1, .long y)]) dX5_put_47 (by decide) rfl ?_
        refine ex_iload 3 dX5_put_49 rfl ?_
        refine ex_if_eq (tgt := 83) dX5_put_51 (by decide) (fun c_51 => ?_) (fun c_51 => absurd (by decide) c_51)
        refine ex_iconst (v := nI 0) dX5_put_83 (by decide) ?_
        refine ex_istore (lv' := [(4, .int (nI 0)), (5, .int (nI 1)), (7, .int (nI (cdN y i))), (6, .int (nI i)), (3, .int (nI many)), (0, .ref m), (1, .long y)]) dX5_put_84 (by decide) rfl ?_
        refine ex_iload_n 4 dX5_put_86 rfl rfl ?_
        refine ex_iload 1 dX5_put_87 rfl ?_
        refine ex_if_eq (tgt := 96) dX5_put_89 (by decide) (fun c_89 => absurd c_89 (by decide)) (fun c_89 => ?_)
        refine ex_iconst (v := nI 0) dX5_put_92 (by decide) ?_
        refine ex_goto (tgt := 97) dX5_put_93 (by decide) ?_
        refine ex_iaddN dX5_put_97 ?_
        refine ex_istore_n (lv' := [(3, .int (nI (many + 0))), (4, .int (nI 0)), (5, .int (nI 1)), (7, .int (nI (cdN y i))), (6, .int (nI i)), (0, .ref m), (1, .long y)]) dX5_put_98 rfl (by decide) rfl ?_
        refine ex_iinc (v := nI (i + 1)) (lv' := [(6, .int (nI (i + 1))), (3, .int (nI (many + 0))), (4, .int (nI 0)), (5, .int (nI 1)), (7, .int (nI (cdN y i))), (0, .ref m), (1, .long y)]) 4 dX5_put_99 rfl (nI_1 i) (by decide) rfl ?_
        refine ex_goto (tgt := 11) dX5_put_102 (by decide) ?_
        have hJ2 : pcJ y (i + 1) (many + 0) false true := by
          exact pcJ_n hJ
        have e9 := ih (i + 1) (many + 0) false true (by omega) (by omega) hJ2
        refine ex_lv (lv2 := [(6, .int (nI (i + 1))), (5, .int (bI true)), (4, .int (bI false)), (3, .int (nI (many + 0))), (0, .ref m), (1, .long y)]) [0, 3, 2, 1, 5, 6] rfl ?_
        exact e9
    · refine ex_iload 2 dX5_put_32 rfl ?_
      refine ex_if_ne (tgt := 42) dX5_put_34 (by decide) (fun c_34 => absurd (by decide) c_34) (fun c_34 => ?_)
      refine ex_iload 0 dX5_put_37 rfl ?_
      refine ex_if_ne (tgt := 46) dX5_put_39 (by decide) (fun c_39 => ?_) (fun c_39 => ?_)
      · have n_39 : ¬ ((cdN y i) = 0) := fun q9 => c_39 ((nI_eq (b := 0) (by omega) (by omega)).mpr q9)
        refine ex_iconst (v := nI 0) dX5_put_46 (by decide) ?_
        refine ex_istore (lv' := [(5, .int (nI 0)), (7, .int (nI (cdN y i))), (6, .int (nI i)), (4, .int (nI 1)), (3, .int (nI many)), (0, .ref m), (1, .long y)]) dX5_put_47 (by decide) rfl ?_
        refine ex_iload 3 dX5_put_49 rfl ?_
        refine ex_if_eq (tgt := 83) dX5_put_51 (by decide) (fun c_51 => absurd c_51 (by decide)) (fun c_51 => ?_)
        refine ex_iload 0 dX5_put_54 rfl ?_
        refine ex_if_eq (tgt := 67) dX5_put_56 (by decide) (fun c_56 => ?_) (fun c_56 => absurd (by decide) c_56)
        refine ex_iload 1 dX5_put_67 rfl ?_
        refine ex_bipush (v := nI 33) dX5_put_69 (by decide) ?_
        refine ex_bipush (v := nI 126) dX5_put_71 (by decide) ?_
        by_cases hr : 33 ≤ cdN y i ∧ cdN y i ≤ 126
        · refine ex_callS0 (As := [.int (nI (cdN y i)), .int (nI 33), .int (nI 126)]) (v := .int (nI 1)) vl_X5_26 (Ct.mono (by rw [show inV (nI (cdN y i)) (nI 33) (nI 126) = nI 1 from if_pos ⟨(nI_leI (by omega) (by omega)).mpr hr.1, (nI_leI (by omega) (by omega)).mpr hr.2⟩]) m_in) rfl (by decide) (Nat.le_of_ble_eq_true rfl) (Nat.le_refl _) (Nat.le_refl _) rfl dX5_put_73 ?_
          refine ex_if_eq (tgt := 83) dX5_put_76 (by decide) (fun c_76 => absurd c_76 (by decide)) (fun c_76 => ?_)
          refine ex_iconst (v := nI 1) dX5_put_79 (by decide) ?_
          refine ex_goto (tgt := 84) dX5_put_80 (by decide) ?_
          refine ex_istore (lv' := [(4, .int (nI 1)), (5, .int (nI 0)), (7, .int (nI (cdN y i))), (6, .int (nI i)), (3, .int (nI many)), (0, .ref m), (1, .long y)]) dX5_put_84 (by decide) rfl ?_
          refine ex_iload_n 4 dX5_put_86 rfl rfl ?_
          refine ex_iload 1 dX5_put_87 rfl ?_
          refine ex_if_eq (tgt := 96) dX5_put_89 (by decide) (fun c_89 => ?_) (fun c_89 => absurd (by decide) c_89)
          refine ex_iconst (v := nI 1) dX5_put_96 (by decide) ?_
          refine ex_iaddN dX5_put_97 ?_
          refine ex_istore_n (lv' := [(3, .int (nI (many + 1))), (4, .int (nI 1)), (5, .int (nI 0)), (7, .int (nI (cdN y i))), (6, .int (nI i)), (0, .ref m), (1, .long y)]) dX5_put_98 rfl (by decide) rfl ?_
          refine ex_iinc (v := nI (i + 1)) (lv' := [(6, .int (nI (i + 1))), (3, .int (nI (many + 1))), (4, .int (nI 1)), (5, .int (nI 0)), (7, .int (nI (cdN y i))), (0, .ref m), (1, .long y)]) 4 dX5_put_99 rfl (nI_1 i) (by decide) rfl ?_
          refine ex_goto (tgt := 11) dX5_put_102 (by decide) ?_
          have hJ2 : pcJ y (i + 1) (many + 1) true false := by
            first | exact pcJ_z (by omega) (by assumption) hJ | exact pcJ_g (by omega) (by assumption) (by assumption) hJ | exact pcJ_b (by omega) (by assumption) (by assumption) hJ | exact absurd n_39 n_61 | exact absurd n_61 n_39
          have e9 := ih (i + 1) (many + 1) true false (by omega) (by omega) hJ2
          refine ex_lv (lv2 := [(6, .int (nI (i + 1))), (5, .int (bI false)), (4, .int (bI true)), (3, .int (nI (many + 1))), (0, .ref m), (1, .long y)]) [0, 3, 2, 1, 5, 6] rfl ?_
          exact e9
        · refine ex_callS0 (As := [.int (nI (cdN y i)), .int (nI 33), .int (nI 126)]) (v := .int (nI 0)) vl_X5_26 (Ct.mono (by rw [show inV (nI (cdN y i)) (nI 33) (nI 126) = nI 0 from if_neg (fun q9 => hr ⟨(nI_leI (by omega) (by omega)).mp q9.1, (nI_leI (by omega) (by omega)).mp q9.2⟩)]) m_in) rfl (by decide) (Nat.le_of_ble_eq_true rfl) (Nat.le_refl _) (Nat.le_refl _) rfl dX5_put_73 ?_
          refine ex_if_eq (tgt := 83) dX5_put_76 (by decide) (fun c_76 => ?_) (fun c_76 => absurd (by decide) c_76)
          refine ex_iconst (v := nI 0) dX5_put_83 (by decide) ?_
          refine ex_istore (lv' := [(4, .int (nI 0)), (5, .int (nI 0)), (7, .int (nI (cdN y i))), (6, .int (nI i)), (3, .int (nI many)), (0, .ref m), (1, .long y)]) dX5_put_84 (by decide) rfl ?_
          refine ex_iload_n 4 dX5_put_86 rfl rfl ?_
          refine ex_iload 1 dX5_put_87 rfl ?_
          refine ex_if_eq (tgt := 96) dX5_put_89 (by decide) (fun c_89 => ?_) (fun c_89 => absurd (by decide) c_89)
          refine ex_iconst (v := nI 1) dX5_put_96 (by decide) ?_
          refine ex_iaddN dX5_put_97 ?_
          refine ex_istore_n (lv' := [(3, .int (nI (many + 1))), (4, .int (nI 0)), (5, .int (nI 0)), (7, .int (nI (cdN y i))), (6, .int (nI i)), (0, .ref m), (1, .long y)]) dX5_put_98 rfl (by decide) rfl ?_
          refine ex_iinc (v := nI (i + 1)) (lv' := [(6, .int (nI (i + 1))), (3, .int (nI (many + 1))), (4, .int (nI 0)), (5, .int (nI 0)), (7, .int (nI (cdN y i))), (0, .ref m), (1, .long y)]) 4 dX5_put_99 rfl (nI_1 i) (by decide) rfl ?_
          refine ex_goto (tgt := 11) dX5_put_102 (by decide) ?_
          have hJ2 : pcJ y (i + 1) (many + 1) false false := by
            first | exact pcJ_z (by omega) (by assumption) hJ | exact pcJ_g (by omega) (by assumption) (by assumption) hJ | exact pcJ_b (by omega) (by assumption) (by assumption) hJ | exact absurd n_39 n_61 | exact absurd n_61 n_39
          have e9 := ih (i + 1) (many + 1) false false (by omega) (by omega) hJ2
          refine ex_lv (lv2 := [(6, .int (nI (i + 1))), (5, .int (bI false)), (4, .int (bI false)), (3, .int (nI (many + 1))), (0, .ref m), (1, .long y)]) [0, 3, 2, 1, 5, 6] rfl ?_
          exact e9
      · have n_39 : (cdN y i) = 0 := (nI_eq (b := 0) (by omega) (by omega)).mp c_39
        refine ex_iconst (v := nI 1) dX5_put_42 (by decide) ?_
        refine ex_goto (tgt := 47) dX5_put_43 (by decide) ?_
        refine ex_istore (lv' := [(5, .int (nI 1)), (7, .int (nI (cdN y i))), (6, .int (nI i)), (4, .int (nI 1)), (3, .int (nI many)), (0, .ref m), (1, .long y)]) dX5_put_47 (by decide) rfl ?_
        refine ex_iload 3 dX5_put_49 rfl ?_
        refine ex_if_eq (tgt := 83) dX5_put_51 (by decide) (fun c_51 => absurd c_51 (by decide)) (fun c_51 => ?_)
        refine ex_iload 0 dX5_put_54 rfl ?_
        refine ex_if_eq (tgt := 67) dX5_put_56 (by decide) (fun c_56 => absurd c_56 (by decide)) (fun c_56 => ?_)
        refine ex_iload 1 dX5_put_59 rfl ?_
        refine ex_if_ne (tgt := 83) dX5_put_61 (by decide) (fun c_61 => ?_) (fun c_61 => ?_)
        · have n_61 : ¬ ((cdN y i) = 0) := fun q9 => c_61 ((nI_eq (b := 0) (by omega) (by omega)).mpr q9)
          refine ex_iconst (v := nI 0) dX5_put_83 (by decide) ?_
          refine ex_istore (lv' := [(4, .int (nI 0)), (5, .int (nI 1)), (7, .int (nI (cdN y i))), (6, .int (nI i)), (3, .int (nI many)), (0, .ref m), (1, .long y)]) dX5_put_84 (by decide) rfl ?_
          refine ex_iload_n 4 dX5_put_86 rfl rfl ?_
          refine ex_iload 1 dX5_put_87 rfl ?_
          refine ex_if_eq (tgt := 96) dX5_put_89 (by decide) (fun c_89 => absurd c_89 (by decide)) (fun c_89 => ?_)
          refine ex_iconst (v := nI 0) dX5_put_92 (by decide) ?_
          refine ex_goto (tgt := 97) dX5_put_93 (by decide) ?_
          refine ex_iaddN dX5_put_97 ?_
          refine ex_istore_n (lv' := [(3, .int (nI (many + 0))), (4, .int (nI 0)), (5, .int (nI 1)), (7, .int (nI (cdN y i))), (6, .int (nI i)), (0, .ref m), (1, .long y)]) dX5_put_98 rfl (by decide) rfl ?_
          refine ex_iinc (v := nI (i + 1)) (lv' := [(6, .int (nI (i + 1))), (3, .int (nI (many + 0))), (4, .int (nI 0)), (5, .int (nI 1)), (7, .int (nI (cdN y i))), (0, .ref m), (1, .long y)]) 4 dX5_put_99 rfl (nI_1 i) (by decide) rfl ?_
          refine ex_goto (tgt := 11) dX5_put_102 (by decide) ?_
          have hJ2 : pcJ y (i + 1) (many + 0) false true := by
            first | exact pcJ_z (by omega) (by assumption) hJ | exact pcJ_g (by omega) (by assumption) (by assumption) hJ | exact pcJ_b (by omega) (by assumption) (by assumption) hJ | exact absurd n_39 n_61 | exact absurd n_61 n_39
          have e9 := ih (i + 1) (many + 0) false true (by omega) (by omega) hJ2
          refine ex_lv (lv2 := [(6, .int (nI (i + 1))), (5, .int (bI true)), (4, .int (bI false)), (3, .int (nI (many + 0))), (0, .ref m), (1, .long y)]) [0, 3, 2, 1, 5, 6] rfl ?_
          exact e9
        · have n_61 : (cdN y i) = 0 := (nI_eq (b := 0) (by omega) (by omega)).mp c_61
          refine ex_goto (tgt := 79) dX5_put_64 (by decide) ?_
          refine ex_iconst (v := nI 1) dX5_put_79 (by decide) ?_
          refine ex_goto (tgt := 84) dX5_put_80 (by decide) ?_
          refine ex_istore (lv' := [(4, .int (nI 1)), (5, .int (nI 1)), (7, .int (nI (cdN y i))), (6, .int (nI i)), (3, .int (nI many)), (0, .ref m), (1, .long y)]) dX5_put_84 (by decide) rfl ?_
          refine ex_iload_n 4 dX5_put_86 rfl rfl ?_
          refine ex_iload 1 dX5_put_87 rfl ?_
          refine ex_if_eq (tgt := 96) dX5_put_89 (by decide) (fun c_89 => absurd c_89 (by decide)) (fun c_89 => ?_)
          refine ex_iconst (v := nI 0) dX5_put_92 (by decide) ?_
          refine ex_goto (tgt := 97) dX5_put_93 (by decide) ?_
          refine ex_iaddN dX5_put_97 ?_
          refine ex_istore_n (lv' := [(3, .int (nI (many + 0))), (4, .int (nI 1)), (5, .int (nI 1)), (7, .int (nI (cdN y i))), (6, .int (nI i)), (0, .ref m), (1, .long y)]) dX5_put_98 rfl (by decide) rfl ?_
          refine ex_iinc (v := nI (i + 1)) (lv' := [(6, .int (nI (i + 1))), (3, .int (nI (many + 0))), (4, .int (nI 1)), (5, .int (nI 1)), (7, .int (nI (cdN y i))), (0, .ref m), (1, .long y)]) 4 dX5_put_99 rfl (nI_1 i) (by decide) rfl ?_
          refine ex_goto (tgt := 11) dX5_put_102 (by decide) ?_
          have hJ2 : pcJ y (i + 1) (many + 0) true true := by
            first | exact pcJ_z (by omega) (by assumption) hJ | exact pcJ_g (by omega) (by assumption) (by assumption) hJ | exact pcJ_b (by omega) (by assumption) (by assumption) hJ | exact absurd n_39 n_61 | exact absurd n_61 n_39
          have e9 := ih (i + 1) (many + 0) true true (by omega) (by omega) hJ2
          refine ex_lv (lv2 := [(6, .int (nI (i + 1))), (5, .int (bI true)), (4, .int (bI true)), (3, .int (nI (many + 0))), (0, .ref m), (1, .long y)]) [0, 3, 2, 1, 5, 6] rfl ?_
          exact e9
    · refine ex_iload 2 dX5_put_32 rfl ?_
      refine ex_if_ne (tgt := 42) dX5_put_34 (by decide) (fun c_34 => ?_) (fun c_34 => absurd c_34 (by decide))
      refine ex_iconst (v := nI 1) dX5_put_42 (by decide) ?_
      refine ex_goto (tgt := 47) dX5_put_43 (by decide) ?_
      refine ex_istore (lv' := [(5, .int (nI 1)), (7, .int (nI (cdN y i))), (6, .int (nI i)), (4, .int (nI 0)), (3, .int (nI many)), (0, .ref m), (1, .long y)]) dX5_put_47 (by decide) rfl ?_
      refine ex_iload 3 dX5_put_49 rfl ?_
      refine ex_if_eq (tgt := 83) dX5_put_51 (by decide) (fun c_51 => ?_) (fun c_51 => absurd (by decide) c_51)
      refine ex_iconst (v := nI 0) dX5_put_83 (by decide) ?_
      refine ex_istore (lv' := [(4, .int (nI 0)), (5, .int (nI 1)), (7, .int (nI (cdN y i))), (6, .int (nI i)), (3, .int (nI many)), (0, .ref m), (1, .long y)]) dX5_put_84 (by decide) rfl ?_
      refine ex_iload_n 4 dX5_put_86 rfl rfl ?_
      refine ex_iload 1 dX5_put_87 rfl ?_
      refine ex_if_eq (tgt := 96) dX5_put_89 (by decide) (fun c_89 => absurd c_89 (by decide)) (fun c_89 => ?_)
      refine ex_iconst (v := nI 0) dX5_put_92 (by decide) ?_
      refine ex_goto (tgt := 97) dX5_put_93 (by decide) ?_
      refine ex_iaddN dX5_put_97 ?_
      refine ex_istore_n (lv' := [(3, .int (nI (many + 0))), (4, .int (nI 0)), (5, .int (nI 1)), (7, .int (nI (cdN y i))), (6, .int (nI i)), (0, .ref m), (1, .long y)]) dX5_put_98 rfl (by decide) rfl ?_
      refine ex_iinc (v := nI (i + 1)) (lv' := [(6, .int (nI (i + 1))), (3, .int (nI (many + 0))), (4, .int (nI 0)), (5, .int (nI 1)), (7, .int (nI (cdN y i))), (0, .ref m), (1, .long y)]) 4 dX5_put_99 rfl (nI_1 i) (by decide) rfl ?_
      refine ex_goto (tgt := 11) dX5_put_102 (by decide) ?_
      have hJ2 : pcJ y (i + 1) (many + 0) false true := by
        exact pcJ_n hJ
      have e9 := ih (i + 1) (many + 0) false true (by omega) (by omega) hJ2
      refine ex_lv (lv2 := [(6, .int (nI (i + 1))), (5, .int (bI true)), (4, .int (bI false)), (3, .int (nI (many + 0))), (0, .ref m), (1, .long y)]) [0, 3, 2, 1, 5, 6] rfl ?_
      exact e9
    · refine ex_iload 2 dX5_put_32 rfl ?_
      refine ex_if_ne (tgt := 42) dX5_put_34 (by decide) (fun c_34 => ?_) (fun c_34 => absurd c_34 (by decide))
      refine ex_iconst (v := nI 1) dX5_put_42 (by decide) ?_
      refine ex_goto (tgt := 47) dX5_put_43 (by decide) ?_
      refine ex_istore (lv' := [(5, .int (nI 1)), (7, .int (nI (cdN y i))), (6, .int (nI i)), (4, .int (nI 1)), (3, .int (nI many)), (0, .ref m), (1, .long y)]) dX5_put_47 (by decide) rfl ?_
      refine ex_iload 3 dX5_put_49 rfl ?_
      refine ex_if_eq (tgt := 83) dX5_put_51 (by decide) (fun c_51 => absurd c_51 (by decide)) (fun c_51 => ?_)
      refine ex_iload 0 dX5_put_54 rfl ?_
      refine ex_if_eq (tgt := 67) dX5_put_56 (by decide) (fun c_56 => absurd c_56 (by decide)) (fun c_56 => ?_)
      refine ex_iload 1 dX5_put_59 rfl ?_
      refine ex_if_ne (tgt := 83) dX5_put_61 (by decide) (fun c_61 => ?_) (fun c_61 => ?_)
      · have n_61 : ¬ ((cdN y i) = 0) := fun q9 => c_61 ((nI_eq (b := 0) (by omega) (by omega)).mpr q9)
        refine ex_iconst (v := nI 0) dX5_put_83 (by decide) ?_
        refine ex_istore (lv' := [(4, .int (nI 0)), (5, .int (nI 1)), (7, .int (nI (cdN y i))), (6, .int (nI i)), (3, .int (nI many)), (0, .ref m), (1, .long y)]) dX5_put_84 (by decide) rfl ?_
        refine ex_iload_n 4 dX5_put_86 rfl rfl ?_
        refine ex_iload 1 dX5_put_87 rfl ?_
        refine ex_if_eq (tgt := 96) dX5_put_89 (by decide) (fun c_89 => absurd c_89 (by decide)) (fun c_89 => ?_)
        refine ex_iconst (v := nI 0) dX5_put_92 (by decide) ?_
        refine ex_goto (tgt := 97) dX5_put_93 (by decide) ?_
        refine ex_iaddN dX5_put_97 ?_
        refine ex_istore_n (lv' := [(3, .int (nI (many + 0))), (4, .int (nI 0)), (5, .int (nI 1)), (7, .int (nI (cdN y i))), (6, .int (nI i)), (0, .ref m), (1, .long y)]) dX5_put_98 rfl (by decide) rfl ?_
        refine ex_iinc (v := nI (i + 1)) (lv' := [(6, .int (nI (i + 1))), (3, .int (nI (many + 0))), (4, .int (nI 0)), (5, .int (nI 1)), (7, .int (nI (cdN y i))), (0, .ref m), (1, .long y)]) 4 dX5_put_99 rfl (nI_1 i) (by decide) rfl ?_
        refine ex_goto (tgt := 11) dX5_put_102 (by decide) ?_
        have hJ2 : pcJ y (i + 1) (many + 0) false true := by
          first | exact pcJ_zz (by assumption) hJ | exact pcJ_zn (by assumption) hJ
        have e9 := ih (i + 1) (many + 0) false true (by omega) (by omega) hJ2
        refine ex_lv (lv2 := [(6, .int (nI (i + 1))), (5, .int (bI true)), (4, .int (bI false)), (3, .int (nI (many + 0))), (0, .ref m), (1, .long y)]) [0, 3, 2, 1, 5, 6] rfl ?_
        exact e9
      · have n_61 : (cdN y i) = 0 := (nI_eq (b := 0) (by omega) (by omega)).mp c_61
        refine ex_goto (tgt := 79) dX5_put_64 (by decide) ?_
        refine ex_iconst (v := nI 1) dX5_put_79 (by decide) ?_
        refine ex_goto (tgt := 84) dX5_put_80 (by decide) ?_
        refine ex_istore (lv' := [(4, .int (nI 1)), (5, .int (nI 1)), (7, .int (nI (cdN y i))), (6, .int (nI i)), (3, .int (nI many)), (0, .ref m), (1, .long y)]) dX5_put_84 (by decide) rfl ?_
        refine ex_iload_n 4 dX5_put_86 rfl rfl ?_
        refine ex_iload 1 dX5_put_87 rfl ?_
        refine ex_if_eq (tgt := 96) dX5_put_89 (by decide) (fun c_89 => absurd c_89 (by decide)) (fun c_89 => ?_)
        refine ex_iconst (v := nI 0) dX5_put_92 (by decide) ?_
        refine ex_goto (tgt := 97) dX5_put_93 (by decide) ?_
        refine ex_iaddN dX5_put_97 ?_
        refine ex_istore_n (lv' := [(3, .int (nI (many + 0))), (4, .int (nI 1)), (5, .int (nI 1)), (7, .int (nI (cdN y i))), (6, .int (nI i)), (0, .ref m), (1, .long y)]) dX5_put_98 rfl (by decide) rfl ?_
        refine ex_iinc (v := nI (i + 1)) (lv' := [(6, .int (nI (i + 1))), (3, .int (nI (many + 0))), (4, .int (nI 1)), (5, .int (nI 1)), (7, .int (nI (cdN y i))), (0, .ref m), (1, .long y)]) 4 dX5_put_99 rfl (nI_1 i) (by decide) rfl ?_
        refine ex_goto (tgt := 11) dX5_put_102 (by decide) ?_
        have hJ2 : pcJ y (i + 1) (many + 0) true true := by
          first | exact pcJ_zz (by assumption) hJ | exact pcJ_zn (by assumption) hJ
        have e9 := ih (i + 1) (many + 0) true true (by omega) (by omega) hJ2
        refine ex_lv (lv2 := [(6, .int (nI (i + 1))), (5, .int (bI true)), (4, .int (bI true)), (3, .int (nI (many + 0))), (0, .ref m), (1, .long y)]) [0, 3, 2, 1, 5, 6] rfl ?_
        exact e9

