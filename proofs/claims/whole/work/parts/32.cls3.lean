set_option maxRecDepth 20000 in
set_option maxHeartbeats 2000000 in
theorem c_codesIn {G : GG} {l : Launch} {h0 : HP} {z : Nat} {c : Int64} : Ct G l 0 0 0 yX4_codesIn cX4_codesIn 7 (some .int) [.long c] h0 z (p0 (.int (nI (pcs c))) h0 z) := by
  refine Ct.intro (lv := [(0, .long c)]) (by decide +kernel) (Nat.le_of_ble_eq_true rfl) rfl (fun X Q hQ hnm => ?_)
  refine ex_lload_n 0 dX4_codesIn_0 rfl rfl ?_
  refine ex_lstore_n (lv' := [(2, .long c), (0, .long c)]) dX4_codesIn_1 rfl (by decide) rfl ?_
  refine ex_iconst (v := nI 0) dX4_codesIn_2 (by decide) ?_
  refine ex_istore (lv' := [(4, .int (nI 0)), (2, .long c), (0, .long c)]) dX4_codesIn_3 (by decide) rfl ?_
  suffices H : ∀ (k2 i : Nat), i + k2 = 8 → pcG c k2 i = pcG c 8 0 → ex G l X Q 0 0 0 0 0 cX4_codesIn yX4_codesIn.cls 7 (some .int) h0 z 5 [(4, .int (nI i)), (2, .long (rI c i)), (0, .long c)] [] from by
    have e2 := H 8 0 (by omega) rfl
    rw [rI_0] at e2
    refine ex_lv (lv2 := [(4, .int (nI 0)), (2, .long c), (0, .long c)]) [0, 1, 2] rfl ?_
    exact e2
  intro k2
  induction k2 with
  | zero =>
    intro i hi hh
    obtain rfl : i = 8 := by omega
    rw [pcG] at hh
    refine ex_iload 0 dX4_codesIn_5 rfl ?_
    refine ex_bipush (v := nI 8) dX4_codesIn_7 (by decide) ?_
    refine ex_icmp_ge (tgt := 60) dX4_codesIn_9 (by decide) (fun c_9 => ?_) (fun c_9 => absurd ((nI_leI (by omega) (by omega)).mpr (by omega)) c_9)
    refine ex_lload_n 1 dX4_codesIn_60 rfl rfl ?_
    refine ex_lconst (v := 0) dX4_codesIn_61 (by decide) ?_
    refine ex_lcmp dX4_codesIn_62 ?_
    refine ex_if_ne (tgt := 71) dX4_codesIn_63 (by decide) (fun c_63 => ?_) (fun c_63 => ?_)
    · refine ex_iconst (v := nI 0) dX4_codesIn_71 (by decide) ?_
      exact ex_iret hQ rfl (by unfold pcs; rw [← hh]; first | (rw [if_pos (rI_z.mp c_63)]; exact ⟨rfl, rfl, rfl⟩) | (rw [if_neg (fun q9 => c_63 (rI_z.mpr q9))]; exact ⟨rfl, rfl, rfl⟩)) dX4_codesIn_72
    · refine ex_iload 0 dX4_codesIn_66 rfl ?_
      refine ex_goto (tgt := 72) dX4_codesIn_68 (by decide) ?_
      exact ex_iret hQ rfl (by unfold pcs; rw [← hh]; first | (rw [if_pos (rI_z.mp c_63)]; exact ⟨rfl, rfl, rfl⟩) | (rw [if_neg (fun q9 => c_63 (rI_z.mpr q9))]; exact ⟨rfl, rfl, rfl⟩)) dX4_codesIn_72
  | succ k2 ih =>
    intro i hi hh
    rw [pcG] at hh
    refine ex_iload 0 dX4_codesIn_5 rfl ?_
    refine ex_bipush (v := nI 8) dX4_codesIn_7 (by decide) ?_
    refine ex_icmp_ge (tgt := 60) dX4_codesIn_9 (by decide) (fun c_9 => absurd c_9 (fun q9 => absurd ((nI_leI (by omega) (by omega)).mp q9) (by omega))) (fun c_9 => ?_)
    refine ex_lload_n 1 dX4_codesIn_12 rfl rfl ?_
    refine ex_ldc2 (v := 255) dX4_codesIn_13 kl_X4_181 ?_
    refine ex_land dX4_codesIn_16 ?_
    rw [rI_and]
    refine ex_lconst (v := 0) dX4_codesIn_17 (by decide) ?_
    refine ex_lcmp dX4_codesIn_18 ?_
    refine ex_if_eq (tgt := 60) dX4_codesIn_19 (by decide) (fun c_19 => ?_) (fun c_19 => ?_)
    · have hz : cdN c i = 0 := (cI_z _ cdN_lt).mp c_19
      refine ex_lload_n 1 dX4_codesIn_60 rfl rfl ?_
      refine ex_lconst (v := 0) dX4_codesIn_61 (by decide) ?_
      refine ex_lcmp dX4_codesIn_62 ?_
      refine ex_if_ne (tgt := 71) dX4_codesIn_63 (by decide) (fun c_63 => ?_) (fun c_63 => ?_)
      · refine ex_iconst (v := nI 0) dX4_codesIn_71 (by decide) ?_
        exact ex_iret hQ rfl (by unfold pcs; rw [← hh, if_pos hz]; first | (rw [if_pos (rI_z.mp c_63)]; exact ⟨rfl, rfl, rfl⟩) | (rw [if_neg (fun q9 => c_63 (rI_z.mpr q9))]; exact ⟨rfl, rfl, rfl⟩)) dX4_codesIn_72
      · refine ex_iload 0 dX4_codesIn_66 rfl ?_
        refine ex_goto (tgt := 72) dX4_codesIn_68 (by decide) ?_
        exact ex_iret hQ rfl (by unfold pcs; rw [← hh, if_pos hz]; first | (rw [if_pos (rI_z.mp c_63)]; exact ⟨rfl, rfl, rfl⟩) | (rw [if_neg (fun q9 => c_63 (rI_z.mpr q9))]; exact ⟨rfl, rfl, rfl⟩)) dX4_codesIn_72
    · have hz : ¬ cdN c i = 0 := fun q9 => c_19 ((cI_z _ cdN_lt).mpr q9)
      refine ex_lload_n 1 dX4_codesIn_22 rfl rfl ?_
      refine ex_ldc2 (v := 255) dX4_codesIn_23 kl_X4_181 ?_
      refine ex_land dX4_codesIn_26 ?_
      rw [rI_and]
      refine ex_lstore (lv' := [(5, .long (cI (cdN c i))), (4, .int (nI i)), (2, .long (rI c i)), (0, .long c)]) dX4_codesIn_27 (by decide) rfl ?_
      refine ex_lload 0 dX4_codesIn_29 rfl ?_
      refine ex_ldc2 (v := 33) dX4_codesIn_31 kl_X4_196 ?_
      refine ex_lcmp dX4_codesIn_34 ?_
      refine ex_if_lt (tgt := 47) dX4_codesIn_35 (by decide) (fun c_35 => ?_) (fun c_35 => ?_)
      · refine ex_iconst (v := nI 0) dX4_codesIn_47 (by decide) ?_
        exact ex_iret hQ rfl (by unfold pcs; rw [← hh, if_neg hz, if_pos (by first | exact Or.inl ((cI_33 _ cdN_lt).mp c_35) | exact Or.inr (Nat.not_le.mp (fun q9 => c_44 ((cI_126 _ cdN_lt).mpr q9))))]; exact ⟨rfl, rfl, rfl⟩) dX4_codesIn_48
      · refine ex_lload 0 dX4_codesIn_38 rfl ?_
        refine ex_ldc2 (v := 126) dX4_codesIn_40 kl_X4_198 ?_
        refine ex_lcmp dX4_codesIn_43 ?_
        refine ex_if_le (tgt := 49) dX4_codesIn_44 (by decide) (fun c_44 => ?_) (fun c_44 => ?_)
        · refine ex_lload_n 2 dX4_codesIn_49 rfl rfl ?_
          refine ex_bipush (v := nI 8) dX4_codesIn_50 (by decide) ?_
          refine ex_lushr (v := rI c (i + 1)) dX4_codesIn_52 (rI_next) ?_
          refine ex_lstore_n (lv' := [(2, .long (rI c (i + 1))), (5, .long (cI (cdN c i))), (4, .int (nI i)), (0, .long c)]) dX4_codesIn_53 rfl (by decide) rfl ?_
          refine ex_iinc (v := nI (i + 1)) (lv' := [(4, .int (nI (i + 1))), (2, .long (rI c (i + 1))), (5, .long (cI (cdN c i))), (0, .long c)]) 2 dX4_codesIn_54 rfl (nI_1 i) (by decide) rfl ?_
          refine ex_goto (tgt := 5) dX4_codesIn_57 (by decide) ?_
          have e2 := ih (i + 1) (by omega) (by rw [← hh, if_neg hz, if_neg (fun q9 => q9.elim (fun q9 => c_35 ((cI_33 _ cdN_lt).mpr q9)) (fun q9 => absurd ((cI_126 _ cdN_lt).mp c_44) (Nat.not_le.mpr q9)))])
          refine ex_lv (lv2 := [(4, .int (nI (i + 1))), (2, .long (rI c (i + 1))), (0, .long c)]) [0, 1, 3] rfl ?_
          exact e2
        · refine ex_iconst (v := nI 0) dX4_codesIn_47 (by decide) ?_
          exact ex_iret hQ rfl (by unfold pcs; rw [← hh, if_neg hz, if_pos (by first | exact Or.inl ((cI_33 _ cdN_lt).mp c_35) | exact Or.inr (Nat.not_le.mp (fun q9 => c_44 ((cI_126 _ cdN_lt).mpr q9))))]; exact ⟨rfl, rfl, rfl⟩) dX4_codesIn_48

set_option maxRecDepth 20000 in
set_option maxHeartbeats 2000000 in
theorem c_put {G : GG} {l : Launch} {h0 : HP} {z b : Nat} {n : Nat} {g : Option Nat} {t : Nat} {u : Nat → Int32} {q : Nat → Nat → Int32} {k len : Nat} {L : Nat → AS} {V : Nat → Option AS} {c : Nat → Nat} (S0 : PP G h0 z b ((n, g, t, u, q), k, L, V, len, c)) {y : Int64} : Ct G l 1 0 0 yX4_put cX4_put 5 (some .int) [.ref b, .long y] h0 z (pX G (X_put ((n, g, t, u, q), k, L, V, len, c) y) h0 z b) := by
  refine Ct.intro (lv := [(0, .ref b), (1, .long y)]) (by decide +kernel) (Nat.le_of_ble_eq_true rfl) rfl (fun X Q hQ hnm => ?_)
  have S := S0.xf
  have l60 : len ≤ 60 := S0.2.2.2.2.2.1.2.2.1
  have p8 : pcs y ≤ 8 := pcG_le 8 0
  refine ex_lload_n 1 dX4_put_0 rfl rfl ?_
  refine ex_callS0 (As := [.long y]) (v := .int (nI (pcs y))) vl_X4_177 (c_codesIn) rfl (by decide) (Nat.le_of_ble_eq_true rfl) (Nat.le_refl _) (Nat.le_refl _) rfl dX4_put_1 ?_
  refine ex_istore_n (lv' := [(3, .int (nI (pcs y))), (0, .ref b), (1, .long y)]) dX4_put_4 rfl (by decide) rfl ?_
  refine ex_iload_n 0 dX4_put_5 rfl rfl ?_
  refine ex_if_ne (tgt := 12) dX4_put_6 (by decide) (fun c_6 => ?_) (fun c_6 => ?_)
  · have n_6 : ¬ ((pcs y) = 0) := fun q9 => c_6 ((nI_eq (b := 0) (by omega) (by omega)).mpr q9)
    have hz : ¬ pcs y = 0 := n_6
    refine ex_aload_n 1 dX4_put_12 rfl rfl ?_
    refine ex_get (v := .ref (b + 92)) fl_X4_33 S.1.ob rfl dX4_put_13 ?_
    refine ex_get (v := .int (nI len)) fl_X4_73 S.1.pob rfl dX4_put_16 ?_
    refine ex_iload_n 0 dX4_put_19 rfl rfl ?_
    refine ex_iaddN dX4_put_20 ?_
    refine ex_bipush (v := nI 60) dX4_put_21 (by decide) ?_
    refine ex_icmp_le (tgt := 29) dX4_put_23 (by decide) (fun c_23 => ?_) (fun c_23 => ?_)
    · have n_23 : (len + (pcs y)) ≤ 60 := (nI_leI (by omega) (by omega)).mp c_23
      refine ex_iload_n 0 dX4_put_29 rfl rfl ?_
      refine ex_iconst (v := nI 1) dX4_put_30 (by decide) ?_
      refine ex_isub dX4_put_31 ?_
      refine ex_istore (lv' := [(4, .int ((nI (pcs y)) - (nI 1))), (3, .int (nI (pcs y))), (0, .ref b), (1, .long y)]) dX4_put_32 (by decide) rfl ?_
      suffices H : ∀ (m : Nat) (v : Int32) (h : HP), m ≤ pcs y → v = nI m - nI 1 → XF G h0 h z b ((n, g, t, u, q), k, L, V, len + (pcs y - m), putC len c y (pcs y)) → ex G l X Q 1 0 0 0 0 cX4_put yX4_put.cls 5 (some .int) h z 34 [(4, .int v), (3, .int (nI (pcs y))), (1, .long y), (0, .ref b)] [] from by
        have S1 : XF G h0 h0 z b ((n, g, t, u, q), k, L, V, len + (pcs y - pcs y), putC len c y (pcs y)) := by
          rw [Nat.sub_self]
          exact S.pad (S.1.2.2.2.2.2.1.congr (fun i (hi : i < len + 0) => by unfold putC; rw [if_pos (by omega)]))
        have e2 := H (pcs y) _ h0 (Nat.le_refl _) rfl S1
        refine ex_lv (lv2 := [(4, .int ((nI (pcs y)) - (nI 1))), (3, .int (nI (pcs y))), (1, .long y), (0, .ref b)]) [0, 1, 3, 2] rfl ?_
        exact e2
      intro m
      induction m with
      | zero =>
        intro v h hm hv S
        refine ex_iload 0 dX4_put_34 rfl ?_
        refine ex_if_lt (tgt := 65) dX4_put_36 (by decide) (fun c_36 => ?_) (fun c_36 => absurd (by rw [hv]; decide) c_36)
        refine ex_aload_n 3 dX4_put_65 rfl rfl ?_
        refine ex_get (v := .ref (b + 92)) fl_X4_33 S.1.ob rfl dX4_put_66 ?_
        refine ex_get (v := .int (nI (len + (pcs y - 0)))) fl_X4_73 S.1.pob rfl dX4_put_69 ?_
        exact ex_iret hQ rfl (by unfold X_put; rw [if_neg hz, if_pos n_23]; exact ⟨rfl, rfl, S⟩) dX4_put_72
      | succ m ih =>
        intro v h hm hv S
        obtain rfl : v = nI m := by rw [hv]; exact nI_p1 (by omega)
        refine ex_iload 0 dX4_put_34 rfl ?_
        refine ex_if_lt (tgt := 65) dX4_put_36 (by decide) (fun c_36 => absurd c_36 (nI_pos (by omega))) (fun c_36 => ?_)
        refine ex_aload_n 3 dX4_put_39 rfl rfl ?_
        refine ex_get (v := .ref (b + 92)) fl_X4_33 S.1.ob rfl dX4_put_40 ?_
        refine ex_lload_n 2 dX4_put_43 rfl rfl ?_
        refine ex_bipush (v := nI 8) dX4_put_44 (by decide) ?_
        refine ex_iload 0 dX4_put_46 rfl ?_
        refine ex_imulN dX4_put_48 ?_
        refine ex_lushr (v := rI y m) dX4_put_49 (rI_sh (by omega)) ?_
        refine ex_ldc2 (v := 255) dX4_put_50 kl_X4_181 ?_
        refine ex_land dX4_put_53 ?_
        rw [rI_and]
        refine ex_l2i (v := nI (cdN y m)) dX4_put_54 (cI_int _ cdN_lt) ?_
        refine ex_i2c (v := nI (cdN y m)) dX4_put_55 (cI_chr _ cdN_lt) ?_
        refine exX_pad (As := [.int (nI (cdN y m))]) vl_X4_183 rfl S (fun hP => c_append hP (Nat.lt_trans cdN_lt (by decide)) (show len + (pcs y - (m + 1)) < 60 by omega)) rfl (by decide) (Nat.le_of_ble_eq_true rfl) (Nat.le_refl _) (Nat.le_refl _) rfl dX4_put_56 (fun h S => ?_)
        refine ex_iinc (v := (nI m) + (-1)) (lv' := [(4, .int ((nI m) + (-1))), (3, .int (nI (pcs y))), (1, .long y), (0, .ref b)]) 0 dX4_put_59 rfl rfl (by decide) rfl ?_
        refine ex_goto (tgt := 34) dX4_put_62 (by decide) ?_
        have S1 : XF G h0 h z b ((n, g, t, u, q), k, L, V, len + (pcs y - m), putC len c y (pcs y)) := by
          have e : len + (pcs y - m) = len + (pcs y - (m + 1)) + 1 := by omega
          rw [e]
          refine S.pad (S.1.2.2.2.2.2.1.congr (fun i hi => ?_))
          have hi2 : i < len + (pcs y - (m + 1)) + 1 := hi
          show putC len c y (pcs y) i = if i = len + (pcs y - (m + 1)) then cdN y m else putC len c y (pcs y) i
          split
          · rename_i ei
            unfold putC
            rw [if_neg (by omega), show pcs y - 1 - (i - len) = m by omega]
          · rfl
        have e2 := ih _ h (by omega) rfl S1
        rw [show nI m - nI 1 = nI m + (-1) from (by rw [Int32.sub_eq_add_neg]; rfl)] at e2
        refine ex_lv (lv2 := [(4, .int ((nI m) + (-1))), (3, .int (nI (pcs y))), (1, .long y), (0, .ref b)]) [0, 1, 2, 3] rfl ?_
        exact e2
    · have n_23 : ¬ ((len + (pcs y)) ≤ 60) := fun q9 => c_23 ((nI_leI (by omega) (by omega)).mpr q9)
      refine ex_bipush (v := (-4)) dX4_put_26 (by decide) ?_
      exact ex_iret hQ rfl (by unfold X_put; rw [if_neg hz, if_neg n_23]; exact ⟨rfl, rfl, S⟩) dX4_put_28
  · have n_6 : (pcs y) = 0 := (nI_eq (b := 0) (by omega) (by omega)).mp c_6
    refine ex_bipush (v := (-2)) dX4_put_9 (by decide) ?_
    exact ex_iret hQ rfl (by unfold X_put; rw [if_pos n_6]; exact ⟨rfl, rfl, S⟩) dX4_put_11

set_option maxRecDepth 20000 in
set_option maxHeartbeats 2000000 in
theorem c_restore {G : GG} {l : Launch} {h0 : HP} {z b : Nat} {n : Nat} {g : Option Nat} {t : Nat} {u : Nat → Int32} {q : Nat → Nat → Int32} {k len : Nat} {L : Nat → AS} {V : Nat → Option AS} {c : Nat → Nat} (S0 : PP G h0 z b ((n, g, t, u, q), k, L, V, len, c)) (n8 : n ≤ 8) {s : Int32} (nV : ∀ i B, V i = some B → B.1 ≤ 8) : Ct G l 3 0 0 yX4_restore cX4_restore 3 (some .int) [.ref b, .int s] h0 z (pX G (X_restore ((n, g, t, u, q), k, L, V, len, c) s) h0 z b) := by
  refine Ct.intro (lv := [(0, .ref b), (1, .int s)]) (by decide +kernel) (Nat.le_of_ble_eq_true rfl) rfl (fun X Q hQ hnm => ?_)
  have S := S0.xf
  rcases inR_or s 2 (by omega) with ⟨i, hs, rfl⟩ | hs
  · refine ex_iload_n 1 dX4_restore_0 rfl rfl ?_
    refine ex_callS0 (As := [.int (nI i)]) (v := .int (nI 1)) vl_X4_190 (c_isSlotT hs) rfl (by decide) (Nat.le_of_ble_eq_true rfl) (Nat.le_refl _) (Nat.le_refl _) rfl dX4_restore_1 ?_
    refine ex_if_ne (tgt := 10) dX4_restore_4 (by decide) (fun c_4 => ?_) (fun c_4 => absurd c_4 (by decide))
    refine ex_aload_n 0 dX4_restore_10 rfl rfl ?_
    refine ex_get (v := .ref (b + 91)) fl_X4_26 S.1.ob rfl dX4_restore_11 ?_
    refine ex_iload_n 1 dX4_restore_14 rfl rfl ?_
    refine exX_sl (i := i) S rfl hs dX4_restore_15 (fun r hr => ?_)
    change slA G h0 z b (V i) r at hr
    rcases hV : V i with _ | B
    · rw [hV] at hr
      obtain rfl : r = none := hr
      refine ex_astore_nN (lv' := [(2, .null), (0, .ref b), (1, .int (nI i))]) dX4_restore_16 rfl (by decide) rfl ?_
      refine ex_aload_nN 0 dX4_restore_17 rfl rfl ?_
      refine ex_ifnonnullN dX4_restore_18 ?_
      refine ex_bipush (v := (-5)) dX4_restore_21 (by decide) ?_
      exact ex_iret hQ rfl (by unfold X_restore; dsimp only; rw [if_pos (inR_nI hs (by decide)), ixn (by omega), hV]; exact ⟨rfl, rfl, S⟩) dX4_restore_23
    · rw [hV] at hr
      obtain ⟨a, π1, rfl, ha, ha2, hB⟩ := hr
      refine ex_astore_n (lv' := [(2, .ref a), (0, .ref b), (1, .int (nI i))]) dX4_restore_16 rfl (by decide) rfl ?_
      refine ex_aload_n 0 dX4_restore_17 rfl rfl ?_
      refine ex_ifnonnull (tgt := 24) dX4_restore_18 (by decide) ?_
      refine ex_aload_n 1 dX4_restore_24 rfl rfl ?_
      refine ex_get (v := .ref (b + 23)) fl_X4_22 S.1.ob rfl dX4_restore_25 ?_
      refine ex_aload_n 1 dX4_restore_28 rfl rfl ?_
      refine ex_get (v := .ref (b + 1)) fl_X4_10 S.1.ob rfl dX4_restore_29 ?_
      refine exX_rec2 vl_X4_48 S n8 (by decide) (Nat.le_of_ble_eq_true rfl) (Nat.le_refl _) (Nat.le_refl _) rfl dX4_restore_32 (fun h S fr => ?_)
      have S : XF G h0 h z b ((n, g, t, u, q), (if k < 6 then k + 1 else 6), (recR k L (n, g, t, u, q)), V, len, c) := S
      have hB := hB.kept (h1 := h) (fun y g1 g2 => fr y (by omega))
      refine ex_aload_n 1 dX4_restore_35 rfl rfl ?_
      refine ex_get (v := .ref (b + 1)) fl_X4_10 S.1.ob rfl dX4_restore_36 ?_
      refine ex_aload_n 0 dX4_restore_39 rfl rfl ?_
      refine exX_fromS vl_X4_167 S ⟨a, π1, rfl, ha, ha2, hB⟩ (nV i B hV) (by decide) (Nat.le_of_ble_eq_true rfl) (Nat.le_refl _) (Nat.le_refl _) rfl dX4_restore_40 (fun h S => ?_)
      have S : XF G h0 h z b (B, (if k < 6 then k + 1 else 6), (recR k L (n, g, t, u, q)), V, len, c) := S
      refine ex_aload_n 1 dX4_restore_43 rfl rfl ?_
      refine ex_get (v := .ref (b + 1)) fl_X4_10 S.1.ob rfl dX4_restore_44 ?_
      refine ex_get (v := .int ((B).2.2.2.1 6)) fl_X4_112 S.1.nob rfl dX4_restore_47 ?_
      exact ex_iret hQ rfl (by unfold X_restore; dsimp only; rw [if_pos (inR_nI hs (by decide)), ixn (by omega), hV]; exact ⟨rfl, rfl, S⟩) dX4_restore_50
  · refine ex_iload_n 1 dX4_restore_0 rfl rfl ?_
    refine ex_callS0 (As := [.int s]) (v := .int (nI 0)) vl_X4_190 (c_isSlotF hs) rfl (by decide) (Nat.le_of_ble_eq_true rfl) (Nat.le_refl _) (Nat.le_refl _) rfl dX4_restore_1 ?_
    refine ex_if_ne (tgt := 10) dX4_restore_4 (by decide) (fun c_4 => absurd (by decide) c_4) (fun c_4 => ?_)
    refine ex_bipush (v := (-2)) dX4_restore_7 (by decide) ?_
    exact ex_iret hQ rfl (by unfold X_restore; rw [if_neg hs]; exact ⟨rfl, rfl, S⟩) dX4_restore_9

set_option maxRecDepth 20000 in
set_option maxHeartbeats 2000000 in
theorem c_save {G : GG} {l : Launch} {h0 : HP} {z b : Nat} {n : Nat} {g : Option Nat} {t : Nat} {u : Nat → Int32} {q : Nat → Nat → Int32} {k len : Nat} {L : Nat → AS} {V : Nat → Option AS} {c : Nat → Nat} (S0 : PP G h0 z b ((n, g, t, u, q), k, L, V, len, c)) (n8 : n ≤ 8) {s : Int32} : Ct G l 3 11 75 yX4_save cX4_save 2 (some .int) [.ref b, .int s] h0 z (fun r h1 z1 => r = some (.int (X_save ((n, g, t, u, q), k, L, V, len, c) s).1) ∧ z ≤ z1 ∧ z1 ≤ z + 11 ∧ XF G h0 h1 z1 b (X_save ((n, g, t, u, q), k, L, V, len, c) s).2) := by
  refine Ct.intro (lv := [(0, .ref b), (1, .int s)]) (by decide +kernel) (Nat.le_of_ble_eq_true rfl) rfl (fun X Q hQ hnm => ?_)
  have S := S0.xf
  rcases inR_or s 2 (by omega) with ⟨i, hs, rfl⟩ | hs
  · refine ex_iload_n 1 dX4_save_0 rfl rfl ?_
    refine ex_callS0 (As := [.int (nI i)]) (v := .int (nI 1)) vl_X4_190 (c_isSlotT hs) rfl (by decide) (Nat.le_of_ble_eq_true rfl) (Nat.zero_le _) (Nat.zero_le _) rfl dX4_save_1 ?_
    refine ex_if_ne (tgt := 10) dX4_save_4 (by decide) (fun c_4 => ?_) (fun c_4 => absurd c_4 (by decide))
    refine ex_aload_n 0 dX4_save_10 rfl rfl ?_
    refine ex_get (v := .ref (b + 91)) fl_X4_26 S.1.ob rfl dX4_save_11 ?_
    refine ex_iload_n 1 dX4_save_14 rfl rfl ?_
    obtain ⟨r, s5, s5a, s5b⟩ := S.1.2.2.2.2.1
    have hr := s5a i hs
    change slA G h0 z b (V i) (r i) at hr
    refine ex_aald4 s5 rfl hs (by decide) dX4_save_15 ?_
    rcases hV : V i with _ | B
    · rw [hV] at hr
      have ea : r i = none := hr
      rw [ea]
      refine ex_ifnonnullN dX4_save_16 ?_
      refine ex_aload_n 0 dX4_save_19 rfl rfl ?_
      refine ex_get (v := .ref (b + 91)) fl_X4_26 S.1.ob rfl dX4_save_20 ?_
      refine ex_iload_n 1 dX4_save_23 rfl rfl ?_
      refine ex_new nl_X4_7 (by decide) (by decide) dX4_save_24 ?_
      refine ex_dup dX4_save_27 rfl ?_
      refine ex_callI (As := []) vl_X4_9 (c_Sinit hu_s) rfl (by decide) (Nat.le_of_ble_eq_true rfl) (by decide) (by decide) rfl dX4_save_28 (fun r1 h1 z1 hp => ?_)
      obtain ⟨rfl, rfl, S1⟩ := hp
      have zb : b + 100 ≤ z := S0.2.2.2.2.2.2
      refine ex_aast (t := 4) (ci := 3) (r := (RX3, TX3, 13)) (n := 2) (f := r) (j := i) rfl rfl (by rw [S1.2 _ (by omega), hu_n (by omega)]; exact s5) S1.ob rfl hs (by decide) dX4_save_31 ?_
      have S := S.newS s5 hs hV S1
      refine ex_aload_n 0 dX4_save_32 rfl rfl ?_
      refine ex_get (v := .ref (b + 91)) fl_X4_26 S.1.ob rfl dX4_save_33 ?_
      refine ex_iload_n 1 dX4_save_36 rfl rfl ?_
      refine ex_aald4 hu_s rfl hs (by decide) dX4_save_37 ?_
      rw [show va_up r i (some z) i = some z from if_pos rfl]
      refine ex_aload_n 0 dX4_save_38 rfl rfl ?_
      refine ex_get (v := .ref (b + 1)) fl_X4_10 S.1.ob rfl dX4_save_39 ?_
      refine exX_toS vl_X4_167 S hu_s hs (if_pos rfl) (if_pos rfl) n8 (by decide) (Nat.le_of_ble_eq_true rfl) (Nat.le_of_ble_eq_true rfl) (Nat.le_of_ble_eq_true rfl) rfl dX4_save_42 (fun h S => ?_)
      refine ex_aload_n 0 dX4_save_45 rfl rfl ?_
      refine ex_get (v := .ref (b + 1)) fl_X4_10 S.1.ob rfl dX4_save_46 ?_
      refine ex_get (v := .int (u 6)) fl_X4_112 S.1.nob rfl dX4_save_49 ?_
      exact ex_iret hQ rfl (by unfold X_save; rw [if_pos (inR_nI hs (by decide)), ixn (by omega)]; refine ⟨rfl, Nat.le_add_right _ _, Nat.le_refl _, ?_⟩; have eV : (fun j => if j = i then some (n, g, t, u, q) else (if j = i then some A0 else V j)) = (fun j => if j = i then some (n, g, t, u, q) else V j) := funext (fun j => by split <;> rfl); rw [← eV]; exact S) dX4_save_52
    · rw [hV] at hr
      obtain ⟨a, π1, ea, ha, ha2, hB⟩ := hr
      rw [ea]
      refine ex_ifnonnull (tgt := 32) dX4_save_16 (by decide) ?_
      refine ex_aload_n 0 dX4_save_32 rfl rfl ?_
      refine ex_get (v := .ref (b + 91)) fl_X4_26 S.1.ob rfl dX4_save_33 ?_
      refine ex_iload_n 1 dX4_save_36 rfl rfl ?_
      refine ex_aald4 s5 rfl hs (by decide) dX4_save_37 ?_
      rw [ea]
      refine ex_aload_n 0 dX4_save_38 rfl rfl ?_
      refine ex_get (v := .ref (b + 1)) fl_X4_10 S.1.ob rfl dX4_save_39 ?_
      refine exX_toS vl_X4_167 S s5 hs ea hV n8 (by decide) (Nat.le_of_ble_eq_true rfl) (Nat.zero_le _) (Nat.zero_le _) rfl dX4_save_42 (fun h S => ?_)
      refine ex_aload_n 0 dX4_save_45 rfl rfl ?_
      refine ex_get (v := .ref (b + 1)) fl_X4_10 S.1.ob rfl dX4_save_46 ?_
      refine ex_get (v := .int (u 6)) fl_X4_112 S.1.nob rfl dX4_save_49 ?_
      refine ex_widen (c2 := 11) (s2 := 75) (by decide) (by decide) ?_
      exact ex_iret hQ rfl (by unfold X_save; rw [if_pos (inR_nI hs (by decide)), ixn (by omega)]; exact ⟨rfl, Nat.le_refl _, Nat.le_add_right _ _, S⟩) dX4_save_52
  · refine ex_iload_n 1 dX4_save_0 rfl rfl ?_
    refine ex_callS0 (As := [.int s]) (v := .int (nI 0)) vl_X4_190 (c_isSlotF hs) rfl (by decide) (Nat.le_of_ble_eq_true rfl) (Nat.zero_le _) (Nat.zero_le _) rfl dX4_save_1 ?_
    refine ex_if_ne (tgt := 10) dX4_save_4 (by decide) (fun c_4 => absurd (by decide) c_4) (fun c_4 => ?_)
    refine ex_bipush (v := (-2)) dX4_save_7 (by decide) ?_
    refine ex_widen (c2 := 11) (s2 := 75) (by decide) (by decide) ?_
    exact ex_iret hQ rfl (by unfold X_save; rw [if_neg hs]; exact ⟨rfl, Nat.le_refl _, Nat.le_add_right _ _, S⟩) dX4_save_9

