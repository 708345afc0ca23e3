set_option maxRecDepth 20000 in
set_option maxHeartbeats 2000000 in
theorem c_restore {G : GG} {l : Launch} {h0 : HP} {z b : Nat} {n : Nat} {g : Option Nat} {t : Nat} {u : Nat → Int32} {q : Nat → Nat → Int32} {k len : Nat} {L : Nat → AS} {V : Nat → Option AS} {c : Nat → Nat} (S0 : PP G h0 z b ((n, g, t, u, q), k, L, V, len, c)) (n8 : n ≤ 8) {s : Int32} (nV : ∀ i B, V i = some B → B.1 ≤ 8) : Ct G l 3 0 0 yX4_restore cX4_restore 3 (some .int) [.ref b, .int s] h0 z (pX G (X_restore ((n, g, t, u, q), k, L, V, len, c) s) h0 z b) := by
  refine Ct.intro (lv := [(0, .ref b), (1, .int s)]) (by decide +kernel) (Nat.le_of_ble_eq_true rfl) rfl (fun X Q hQ hnm => ?_)
  have S := S0.xf
  rcases inR_or s 2 (by omega) with ⟨i, hs, rfl⟩ | hs
  · refine ex_iload_n 1 dX4_restore_0 rfl rfl ?_
    refine ex_callS0 (As := [.int (nI i)]) (v := .int (nI 1)) vl_X4_190 (c_isSlotT hs) rfl (by decide) (Nat.le_of_ble_eq_true rfl) (Nat.le_refl _) (Nat.le_refl _) rfl dX4_restore_1 ?_
    refine ex_if_ne (tgt := 10) dX4_restore_4 (by decide) (fun c_4 => ?_) (fun c_4 => absurd c_4 (by decide))
    refine ex_aload_n 0 dX4_restore_10 rfl rfl ?_
    refine ex_get (v := .ref (b + 91)) fl_X4_26 S.1.ob rfl dX4_restore_11 ?_
    refine ex_iload_n 1 dX4_restore_14 rfl rfl ?_
    refine exX_sl (i := i) S rfl hs dX4_restore_15 (fun r hr => ?_)
    change slA G h0 z b (V i) r at hr
    rcases hV : V i with _ | B
    · rw [hV] at hr
      obtain rfl : r = none := hr
      refine ex_astore_nN (lv' := [(2, .null), (0, .ref b), (1, .int (nI i))]) dX4_restore_16 rfl (by decide) rfl ?_
      refine ex_aload_nN 0 dX4_restore_17 rfl rfl ?_
      refine ex_ifnonnullN dX4_restore_18 ?_
      refine ex_bipush (v := (-5)) dX4_restore_21 (by decide) ?_
      exact ex_iret hQ rfl (by unfold X_restore; dsimp only; rw [if_pos (inR_nI hs (by decide)), ixn (by omega), hV]; exact ⟨rfl, rfl, S⟩) dX4_restore_23
    · rw [hV] at hr
      obtain ⟨a, π1, rfl, ha, ha2, hB⟩ := hr
      refine ex_astore_n (lv' := [(2, .ref a), (0, .ref b), (1, .int (nI i))]) dX4_restore_16 rfl (by decide) rfl ?_
      refine ex_aload_n 0 dX4_restore_17 rfl rfl ?_
      refine ex_ifnonnull (tgt := 24) dX4_restore_18 (by decide) ?_
      refine ex_aload_n 1 dX4_restore_24 rfl rfl ?_
      refine ex_get (v := .ref (b + 23)) fl_X4_22 S.1.ob rfl dX4_restore_25 ?_
      refine ex_aload_n 1 dX4_restore_28 rfl rfl ?_
      refine ex_get (v := .ref (b + 1)) fl_X4_10 S.1.ob rfl dX4_restore_29 ?_
      refine exX_rec2 vl_X4_48 S n8 (by decide) (Nat.le_of_ble_eq_true rfl) (Nat.le_refl _) (Nat.le_refl _) rfl dX4_restore_32 (fun h S fr => ?_)
      have S : XF G h0 h z b ((n, g, t, u, q), (if k < 6 then k + 1 else 6), (recR k L (n, g, t, u, q)), V, len, c) := S
      have hB := hB.kept (h1 := h) (fun y g1 g2 => fr y (by omega))
      refine ex_aload_n 1 dX4_restore_35 rfl rfl ?_
      refine ex_get (v := .ref (b + 1)) fl_X4_10 S.1.ob rfl dX4_restore_36 ?_
      refine ex_aload_n 0 dX4_restore_39 rfl rfl ?_
      refine exX_fromS vl_X4_167 S ⟨a, π1, rfl, ha, ha2, hB⟩ (nV i B hV) (by decide) (Nat.le_of_ble_eq_true rfl) (Nat.le_refl _) (Nat.le_refl _) rfl dX4_restore_40 (fun h S => ?_)
      have S : XF G h0 h z b (B, (if k < 6 then k + 1 else 6), (recR k L (n, g, t, u, q)), V, len, c) := S
      refine ex_aload_n 1 dX4_restore_43 rfl rfl ?_
      refine ex_get (v := .ref (b + 1)) fl_X4_10 S.1.ob rfl dX4_restore_44 ?_
      refine ex_get (v := .int ((B).2.2.2.1 6)) fl_X4_112 S.1.nob rfl dX4_restore_47 ?_
      exact ex_iret hQ rfl (by unfold X_restore; dsimp only; rw [if_pos (inR_nI hs (by decide)), ixn (by omega), hV]; exact ⟨rfl, rfl, S⟩) dX4_restore_50
  · refine ex_iload_n 1 dX4_restore_0 rfl rfl ?_
    refine ex_callS0 (As := [.int s]) (v := .int (nI 0)) vl_X4_190 (c_isSlotF hs) rfl (by decide) (Nat.le_of_ble_eq_true rfl) (Nat.le_refl _) (Nat.le_refl _) rfl dX4_restore_1 ?_
    refine ex_if_ne (tgt := 10) dX4_restore_4 (by decide) (fun c_4 => absurd (by decide) c_4) (fun c_4 => ?_)
    refine ex_bipush (v := (-2)) dX4_restore_7 (by decide) ?_
    exact ex_iret hQ rfl (by unfold X_restore; rw [if_neg hs]; exact ⟨rfl, rfl, S⟩) dX4_restore_9

set_option maxRecDepth 20000 in
set_option maxHeartbeats 2000000 in
theorem c_save {G : GG} {l : Launch} {h0 : HP} {z b : Nat} {n : Nat} {g : Option Nat} {t : Nat} {u : Nat → Int32} {q : Nat → Nat → Int32} {k len : Nat} {L : Nat → AS} {V : Nat → Option AS} {c : Nat → Nat} (S0 : PP G h0 z b ((n, g, t, u, q), k, L, V, len, c)) (n8 : n ≤ 8) {s : Int32} : Ct G l 3 11 75 yX4_save cX4_save 2 (some .int) [.ref b, .int s] h0 z (fun r h1 z1 => r = some (.int (X_save ((n, g, t, u, q), k, L, V, len, c) s).1) ∧ z ≤ z1 ∧ z1 ≤ z + 11 ∧ XF G h0 h1 z1 b (X_save ((n, g, t, u, q), k, L, V, len, c) s).2) := by
  refine Ct.intro (lv := [(0, .ref b), (1, .int s)]) (by decide +kernel) (Nat.le_of_ble_eq_true rfl) rfl (fun X Q hQ hnm => ?_)
  have S := S0.xf
  rcases inR_or s 2 (by omega) with ⟨i, hs, rfl⟩ | hs
  · refine ex_iload_n 1 dX4_save_0 rfl rfl ?_
    refine ex_callS0 (As := [.int (nI i)]) (v := .int (nI 1)) vl_X4_190 (c_isSlotT hs) rfl (by decide) (Nat.le_of_ble_eq_true rfl) (Nat.zero_le _) (Nat.zero_le _) rfl dX4_save_1 ?_
    refine ex_if_ne (tgt := 10) dX4_save_4 (by decide) (fun c_4 => ?_) (fun c_4 => absurd c_4 (by decide))
    refine ex_aload_n 0 dX4_save_10 rfl rfl ?_
    refine ex_get (v := .ref (b + 91)) fl_X4_26 S.1.ob rfl dX4_save_11 ?_
    refine ex_iload_n 1 dX4_save_14 rfl rfl ?_
    obtain ⟨r, s5, s5a, s5b⟩ := S.1.2.2.2.2.1
    have hr := s5a i hs
    change slA G h0 z b (V i) (r i) at hr
    refine ex_aald4 s5 rfl hs (by decide) dX4_save_15 ?_
    rcases hV : V i with _ | B
    · rw [hV] at hr
      have ea : r i = none := hr
      rw [ea]
      refine ex_ifnonnullN dX4_save_16 ?_
      refine ex_aload_n 0 dX4_save_19 rfl rfl ?_
      refine ex_get (v := .ref (b + 91)) fl_X4_26 S.1.ob rfl dX4_save_20 ?_
      refine ex_iload_n 1 dX4_save_23 rfl rfl ?_
      refine ex_new nl_X4_7 (by decide) (by decide) dX4_save_24 ?_
      refine ex_dup dX4_save_27 rfl ?_
      refine ex_callI (As := []) vl_X4_9 (c_Sinit hu_s) rfl (by decide) (Nat.le_of_ble_eq_true rfl) (by decide) (by decide) rfl dX4_save_28 (fun r1 h1 z1 hp => ?_)
      obtain ⟨rfl, rfl, S1⟩ := hp
      have zb : b + 94 ≤ z := S0.2.2.2.2.2.2
      refine ex_aast (t := 4) (ci := 3) (r := (RX3, TX3, 13)) (n := 2) (f := r) (j := i) rfl rfl (by rw [S1.2 _ (by omega), hu_n (by omega)]; exact s5) S1.ob rfl hs (by decide) dX4_save_31 ?_
      have S := S.newS s5 hs hV S1
      refine ex_aload_n 0 dX4_save_32 rfl rfl ?_
      refine ex_get (v := .ref (b + 91)) fl_X4_26 S.1.ob rfl dX4_save_33 ?_
      refine ex_iload_n 1 dX4_save_36 rfl rfl ?_
      refine ex_aald4 hu_s rfl hs (by decide) dX4_save_37 ?_
      rw [show va_up r i (some z) i = some z from if_pos rfl]
      refine ex_aload_n 0 dX4_save_38 rfl rfl ?_
      refine ex_get (v := .ref (b + 1)) fl_X4_10 S.1.ob rfl dX4_save_39 ?_
      refine exX_toS vl_X4_167 S hu_s hs (if_pos rfl) (if_pos rfl) n8 (by decide) (Nat.le_of_ble_eq_true rfl) (Nat.le_of_ble_eq_true rfl) (Nat.le_of_ble_eq_true rfl) rfl dX4_save_42 (fun h S => ?_)
      refine ex_aload_n 0 dX4_save_45 rfl rfl ?_
      refine ex_get (v := .ref (b + 1)) fl_X4_10 S.1.ob rfl dX4_save_46 ?_
      refine ex_get (v := .int (u 6)) fl_X4_112 S.1.nob rfl dX4_save_49 ?_
      exact ex_iret hQ rfl (by unfold X_save; rw [if_pos (inR_nI hs (by decide)), ixn (by omega)]; refine ⟨rfl, Nat.le_add_right _ _, Nat.le_refl _, ?_⟩; have eV : (fun j => if j = i then some (n, g, t, u, q) else (if j = i then some A0 else V j)) = (fun j => if j = i then some (n, g, t, u, q) else V j) := funext (fun j => by split <;> rfl); rw [← eV]; exact S) dX4_save_52
    · rw [hV] at hr
      obtain ⟨a, π1, ea, ha, ha2, hB⟩ := hr
      rw [ea]
      refine ex_ifnonnull (tgt := 32) dX4_save_16 (by decide) ?_
      refine ex_aload_n 0 dX4_save_32 rfl rfl ?_
      refine ex_get (v := .ref (b + 91)) fl_X4_26 S.1.ob rfl dX4_save_33 ?_
      refine ex_iload_n 1 dX4_save_36 rfl rfl ?_
      refine ex_aald4 s5 rfl hs (by decide) dX4_save_37 ?_
      rw [ea]
      refine ex_aload_n 0 dX4_save_38 rfl rfl ?_
      refine ex_get (v := .ref (b + 1)) fl_X4_10 S.1.ob rfl dX4_save_39 ?_
      refine exX_toS vl_X4_167 S s5 hs ea hV n8 (by decide) (Nat.le_of_ble_eq_true rfl) (Nat.zero_le _) (Nat.zero_le _) rfl dX4_save_42 (fun h S => ?_)
      refine ex_aload_n 0 dX4_save_45 rfl rfl ?_
      refine ex_get (v := .ref (b + 1)) fl_X4_10 S.1.ob rfl dX4_save_46 ?_
      refine ex_get (v := .int (u 6)) fl_X4_112 S.1.nob rfl dX4_save_49 ?_
      refine ex_widen (c2 := 11) (s2 := 75) (by decide) (by decide) ?_
      exact ex_iret hQ rfl (by unfold X_save; rw [if_pos (inR_nI hs (by decide)), ixn (by omega)]; exact ⟨rfl, Nat.le_refl _, Nat.le_add_right _ _, S⟩) dX4_save_52
  · refine ex_iload_n 1 dX4_save_0 rfl rfl ?_
    refine ex_callS0 (As := [.int s]) (v := .int (nI 0)) vl_X4_190 (c_isSlotF hs) rfl (by decide) (Nat.le_of_ble_eq_true rfl) (Nat.zero_le _) (Nat.zero_le _) rfl dX4_save_1 ?_
    refine ex_if_ne (tgt := 10) dX4_save_4 (by decide) (fun c_4 => absurd (by decide) c_4) (fun c_4 => ?_)
    refine ex_bipush (v := (-2)) dX4_save_7 (by decide) ?_
    refine ex_widen (c2 := 11) (s2 := 75) (by decide) (by decide) ?_
    exact ex_iret hQ rfl (by unfold X_save; rw [if_neg hs]; exact ⟨rfl, Nat.le_refl _, Nat.le_add_right _ _, S⟩) dX4_save_9
