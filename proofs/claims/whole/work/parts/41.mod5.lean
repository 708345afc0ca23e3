theorem updx {f : Nat → Int32} {j i : Nat} {v : Int32} (h : i ≠ j) : upd f j v i = f i := upd_n h

theorem recL {A : AS} {L : Nat → AS} {k j : Nat} (n8 : A.1 ≤ 8) (nL : ∀ j, j < k → (L j).1 ≤ 8) (hj : j < (if k < 6 then k + 1 else 6) ∧ k ≤ 6) : (recR k L A j).1 ≤ 8 := by
  obtain ⟨hj, k6⟩ := hj
  unfold recR
  split
  · rename_i c
    rw [if_pos c] at hj
    split
    · exact n8
    · exact nL j (by omega)
  · rename_i c
    rw [if_neg c] at hj
    split
    · exact n8
    · exact nL (j + 1) (by omega)

set_option maxRecDepth 20000 in
set_option maxHeartbeats 2000000 in
theorem m_rem {G : GG} {l : Launch} {h0 : HP} {z m : Nat} {x : CX} (S0 : MP G h0 m x) (n8 : x.1.1 ≤ 8) (nL : ∀ j, j < x.2.1 → (x.2.2.1 j).1 ≤ 8) : Ct G l 0 0 0 yX5_remembers cX5_remembers 2 none [.ref m] h0 z (fun r h1 z1 => r = none ∧ z1 = z ∧ MF G h0 h1 m (recX x x.1)) := by
  refine Ct.intro (lv := [(0, .ref m)]) (by decide +kernel) (Nat.le_of_ble_eq_true rfl) rfl (fun X Q hQ hnm => ?_)
  obtain ⟨fs, fp, fl, fw, fd, S, s2⟩ := S0
  obtain ⟨A, k, L, V, len, c⟩ := x
  obtain ⟨r1, r2, r3, r4, r5, r6⟩ := s2
  have S : MA G h0 h0 m k len fs fp fl fw fd := S
  have r2 : ∀ j, j < k → AR fp (65 * j) (L j) := r2
  have k6 : k ≤ 6 := r3
  have TL : ∀ (h : HP) (k1 : Nat) (f1 : Nat → Int32), k1 < 6 → MA G h0 h m k1 len fs f1 fl fw fd → (if k < 6 then k + 1 else 6) = k1 + 1 → (∀ j, j < k1 → AR f1 (65 * j) (recR k L A j)) → recR k L A k1 = A → ∀ (b2 b : Nat) (h : HP) (f : Nat → Int32), b + b2 = 65 → MA G h0 h m k1 len fs f fl fw fd → ((∀ i, i < b → f (65 * k1 + i) = fs i) ∧ ∀ i, i < 65 * k1 → f i = f1 i) → ex G l X Q 0 0 0 0 0 cX5_remembers yX5_remembers.cls 2 none h z 51 [(1, .int (nI b)), (0, .ref m)] [] := by
    intro h9 k1 f1 hk1 S9 ek hL hA b2
    induction b2 with
    | zero =>
      intro b h f hb S hf
      obtain rfl : b = 65 := hb
      refine ex_iload_n 0 dX5_remembers_51 rfl rfl ?_
      refine ex_bipush (v := nI 65) dX5_remembers_52 (by decide) ?_
      refine ex_icmp_ge (tgt := 83) dX5_remembers_54 (by decide) (fun c_54 => ?_) (fun c_54 => absurd ((nI_leI (by omega) (by omega)).mpr (by omega)) c_54)
      refine ex_aload_n 1 dX5_remembers_83 rfl rfl ?_
      refine ex_dup dX5_remembers_84 rfl ?_
      refine ex_get (v := .int (nI k1)) fl_X5_30 S.1 rfl dX5_remembers_85 ?_
      refine ex_iconst (v := nI 1) dX5_remembers_88 (by decide) ?_
      refine ex_iaddN dX5_remembers_89 ?_
      refine exA_pk (k2 := k1 + 1) S fl_X5_30 rfl dX5_remembers_90 (fun h S => ?_)
      refine ex_vret hQ rfl ⟨rfl, rfl, fs, f, fl, fw, fd, ?_, r1, fun j hj => ?_, ?_, r4, r5, r6⟩ dX5_remembers_93
      · show MA G h0 h m (if k < 6 then k + 1 else 6) len fs f fl fw fd
        rw [ek]
        exact S
      · have hj2 : j < (if k < 6 then k + 1 else 6) := hj
        rw [ek] at hj2
        show AR f (65 * j) (recR k L A j)
        by_cases e : j = k1
        · subst e
          rw [hA]
          exact r1.kept n8 (fun i hi => by rw [hf.1 i hi, Nat.zero_add])
        · exact (hL j (by omega)).kept (recL n8 nL ⟨by omega, by omega⟩) (fun i hi => hf.2 _ (by omega))
      · show (if k < 6 then k + 1 else 6) ≤ 6
        split <;> omega
    | succ b2 ih =>
      intro b h f hb S hf
      refine ex_iload_n 0 dX5_remembers_51 rfl rfl ?_
      refine ex_bipush (v := nI 65) dX5_remembers_52 (by decide) ?_
      refine ex_icmp_ge (tgt := 83) dX5_remembers_54 (by decide) (fun c_54 => absurd c_54 (fun q9 => absurd ((nI_leI (by omega) (by omega)).mp q9) (by omega))) (fun c_54 => ?_)
      refine ex_aload_n 1 dX5_remembers_57 rfl rfl ?_
      refine ex_get (v := .ref (m + 2)) fl_X5_13 S.1 rfl dX5_remembers_58 ?_
      refine ex_bipush (v := nI 65) dX5_remembers_61 (by decide) ?_
      refine ex_aload_n 1 dX5_remembers_63 rfl rfl ?_
      refine ex_get (v := .int (nI k1)) fl_X5_30 S.1 rfl dX5_remembers_64 ?_
      refine ex_imulN dX5_remembers_67 ?_
      refine ex_iload_n 0 dX5_remembers_68 rfl rfl ?_
      refine ex_iaddN dX5_remembers_69 ?_
      refine ex_aload_n 1 dX5_remembers_70 rfl rfl ?_
      refine ex_get (v := .ref (m + 1)) fl_X5_7 S.1 rfl dX5_remembers_71 ?_
      refine ex_iload_n 0 dX5_remembers_74 rfl rfl ?_
      refine ex_iald (j := b) S.2.1 rfl (by omega) (by decide) dX5_remembers_75 ?_
      refine exA_st2 (j := 65 * k1 + b) S rfl (by omega) dX5_remembers_76 (fun h S => ?_)
      refine ex_iinc (v := nI (b + 1)) (lv' := [(1, .int (nI (b + 1))), (0, .ref m)]) 0 dX5_remembers_77 rfl (nI_1 b) (by decide) rfl ?_
      refine ex_goto (tgt := 51) dX5_remembers_80 (by decide) ?_
      have e2 := ih (b + 1) h _ (by omega) S ⟨fun i hi => by
              by_cases e : i = b
              · rw [e, upd_s]
              · rw [upd_n (by omega)]; exact hf.1 i (by omega), fun i hi => by rw [upd_n (by omega)]; exact hf.2 i hi⟩
      refine ex_lv (lv2 := [(1, .int (nI (b + 1))), (0, .ref m)]) [0, 1] rfl ?_
      exact e2
  rcases (show k = 6 ∨ k < 6 by omega) with rfl | hk
  · refine ex_aload_n 0 dX5_remembers_0 rfl rfl ?_
    refine ex_get (v := .int (nI 6)) fl_X5_30 S.1 rfl dX5_remembers_1 ?_
    refine ex_bipush (v := nI 6) dX5_remembers_4 (by decide) ?_
    refine ex_icmp_ne (tgt := 49) dX5_remembers_6 (by decide) (fun c_6 => absurd (rfl) c_6) (fun c_6 => ?_)
    refine ex_iconst (v := nI 0) dX5_remembers_9 (by decide) ?_
    refine ex_istore_n (lv' := [(1, .int (nI 0)), (0, .ref m)]) dX5_remembers_10 rfl (by decide) rfl ?_
    suffices H : ∀ (b2 b : Nat) (h : HP) (f : Nat → Int32), b + b2 = 325 → MA G h0 h m 6 len fs f fl fw fd → ((∀ i, i < b → f i = fp (65 + i)) ∧ ∀ i, b ≤ i → f i = fp i) → ex G l X Q 0 0 0 0 0 cX5_remembers yX5_remembers.cls 2 none h z 11 [(1, .int (nI b)), (0, .ref m)] [] from by
      have e2 := H 325 0 h0 fp (by omega) S ⟨fun i hi => absurd hi (Nat.not_lt_zero _), fun i hi => rfl⟩
      refine ex_lv (lv2 := [(1, .int (nI 0)), (0, .ref m)]) [0, 1] rfl ?_
      exact e2
    intro b2
    induction b2 with
    | zero =>
      intro b h f hb S hf
      obtain rfl : b = 325 := hb
      refine ex_iload_n 0 dX5_remembers_11 rfl rfl ?_
      refine ex_sipush (v := nI 325) dX5_remembers_12 (by decide) ?_
      refine ex_icmp_ge (tgt := 39) dX5_remembers_15 (by decide) (fun c_15 => ?_) (fun c_15 => absurd ((nI_leI (by omega) (by omega)).mpr (by omega)) c_15)
      refine ex_aload_n 1 dX5_remembers_39 rfl rfl ?_
      refine ex_dup dX5_remembers_40 rfl ?_
      refine ex_get (v := .int (nI 6)) fl_X5_30 S.1 rfl dX5_remembers_41 ?_
      refine ex_iconst (v := nI 1) dX5_remembers_44 (by decide) ?_
      refine ex_isubN dX5_remembers_45 (by omega) ?_
      refine exA_pk (k2 := 6 - 1) S fl_X5_30 rfl dX5_remembers_46 (fun h S => ?_)
      refine ex_iconst (v := nI 0) dX5_remembers_49 (by decide) ?_
      refine ex_istore_n (lv' := [(1, .int (nI 0)), (0, .ref m)]) dX5_remembers_50 rfl (by decide) rfl ?_
      refine TL h 5 f (by omega) S rfl (fun j hj => ?_) rfl 65 0 h f rfl S ⟨fun i hi => absurd hi (Nat.not_lt_zero _), fun i hi => rfl⟩
      show AR f (65 * j) (recR 6 L A j)
      rw [show recR 6 L A j = L (j + 1) from by unfold recR; rw [if_neg (by omega), if_neg (by omega)]]
      exact (r2 (j + 1) (by omega)).kept (nL (j + 1) (show j + 1 < 6 by omega)) (fun i hi => by rw [hf.1 _ (by omega)]; congr 1; omega)
    | succ b2 ih =>
      intro b h f hb S hf
      refine ex_iload_n 0 dX5_remembers_11 rfl rfl ?_
      refine ex_sipush (v := nI 325) dX5_remembers_12 (by decide) ?_
      refine ex_icmp_ge (tgt := 39) dX5_remembers_15 (by decide) (fun c_15 => absurd c_15 (fun q9 => absurd ((nI_leI (by omega) (by omega)).mp q9) (by omega))) (fun c_15 => ?_)
      refine ex_aload_n 1 dX5_remembers_18 rfl rfl ?_
      refine ex_get (v := .ref (m + 2)) fl_X5_13 S.1 rfl dX5_remembers_19 ?_
      refine ex_iload_n 0 dX5_remembers_22 rfl rfl ?_
      refine ex_aload_n 1 dX5_remembers_23 rfl rfl ?_
      refine ex_get (v := .ref (m + 2)) fl_X5_13 S.1 rfl dX5_remembers_24 ?_
      refine ex_bipush (v := nI 65) dX5_remembers_27 (by decide) ?_
      refine ex_iload_n 0 dX5_remembers_29 rfl rfl ?_
      refine ex_iaddN dX5_remembers_30 ?_
      refine ex_iald (j := 65 + b) S.2.2.1 rfl (by omega) (by decide) dX5_remembers_31 ?_
      refine exA_st2 (j := b) S rfl (by omega) dX5_remembers_32 (fun h S => ?_)
      refine ex_iinc (v := nI (b + 1)) (lv' := [(1, .int (nI (b + 1))), (0, .ref m)]) 0 dX5_remembers_33 rfl (nI_1 b) (by decide) rfl ?_
      refine ex_goto (tgt := 11) dX5_remembers_36 (by decide) ?_
      have e2 := ih (b + 1) h _ (by omega) S ⟨fun i hi => by
              by_cases e : i = b
              · rw [e, upd_s]; exact hf.2 _ (by omega)
              · rw [upd_n (by omega)]; exact hf.1 i (by omega), fun i hi => by rw [upd_n (by omega)]; exact hf.2 i (by omega)⟩
      refine ex_lv (lv2 := [(1, .int (nI (b + 1))), (0, .ref m)]) [0, 1] rfl ?_
      exact e2
  · refine ex_aload_n 0 dX5_remembers_0 rfl rfl ?_
    refine ex_get (v := .int (nI k)) fl_X5_30 S.1 rfl dX5_remembers_1 ?_
    refine ex_bipush (v := nI 6) dX5_remembers_4 (by decide) ?_
    refine ex_icmp_ne (tgt := 49) dX5_remembers_6 (by decide) (fun c_6 => ?_) (fun c_6 => absurd c_6 (fun q9 => absurd ((nI_eq (by omega) (by omega)).mp q9) (by omega)))
    refine ex_iconst (v := nI 0) dX5_remembers_49 (by decide) ?_
    refine ex_istore_n (lv' := [(1, .int (nI 0)), (0, .ref m)]) dX5_remembers_50 rfl (by decide) rfl ?_
    refine TL h0 k fp hk S (if_pos hk) (fun j hj => ?_) ?_ 65 0 h0 fp rfl S ⟨fun i hi => absurd hi (Nat.not_lt_zero _), fun i hi => rfl⟩
    · rw [show recR k L A j = L j from by unfold recR; rw [if_pos hk, if_neg (by omega)]]
      exact r2 j hj
    · unfold recR
      rw [if_pos hk, if_pos rfl]

set_option maxRecDepth 20000 in
set_option maxHeartbeats 2000000 in
theorem m_copies {G : GG} {l : Launch} {h0 : HP} {z m : Nat} {x : CX} (S0 : MP G h0 m x) (n8 : x.1.1 ≤ 8) : Ct G l 0 0 0 yX5_copies cX5_copies 2 none [.ref m] h0 z (pR G none h0 z m x.2.1 x.2.2.2.2.1 65 x.1) := by
  refine Ct.intro (lv := [(0, .ref m)]) (by decide +kernel) (Nat.le_of_ble_eq_true rfl) rfl (fun X Q hQ hnm => ?_)
  obtain ⟨fs, fp, fl, fw, fd, s1, s2⟩ := S0
  obtain ⟨A, k, L, V, len, c⟩ := x
  have S : MA G h0 h0 m k len fs fp fl fw fd := s1
  have r1 : AR fs 0 A := s2.1
  refine ex_iconst (v := nI 0) dX5_copies_0 (by decide) ?_
  refine ex_istore_n (lv' := [(1, .int (nI 0)), (0, .ref m)]) dX5_copies_1 rfl (by decide) rfl ?_
  suffices H : ∀ (b2 b : Nat) (h : HP) (f : Nat → Int32), b + b2 = 65 → MA G h0 h m k len f fp fl fw fd → ((∀ i, i < b → f (65 + i) = fs i) ∧ ∀ i, (i < 65 ∨ 130 ≤ i) → f i = fs i) → (∀ a, a ≠ m + 1 → h a = h0 a) → ex G l X Q 0 0 0 0 0 cX5_copies yX5_copies.cls 2 none h z 2 [(1, .int (nI b)), (0, .ref m)] [] from by
    have e2 := H 65 0 h0 fs (by omega) S ⟨fun i hi => absurd hi (Nat.not_lt_zero _), fun i hi => rfl⟩ (fun _ _ => rfl)
    refine ex_lv (lv2 := [(1, .int (nI 0)), (0, .ref m)]) [0, 1] rfl ?_
    exact e2
  intro b2
  induction b2 with
  | zero =>
    intro b h f hb S hf hq
    obtain rfl : b = 65 := hb
    refine ex_iload_n 0 dX5_copies_2 rfl rfl ?_
    refine ex_bipush (v := nI 65) dX5_copies_3 (by decide) ?_
    refine ex_icmp_ge (tgt := 29) dX5_copies_5 (by decide) (fun c_5 => ?_) (fun c_5 => absurd ((nI_leI (by omega) (by omega)).mpr (by omega)) c_5)
    exact ex_vret hQ rfl ⟨rfl, rfl, S.1, ⟨fs, f, s1.2.1, S.2.1, r1.kept n8 (fun i hi => by rw [hf.1 i hi, Nat.zero_add]), fun i hi => hf.2 i (by omega)⟩, hq⟩ dX5_copies_29
  | succ b2 ih =>
    intro b h f hb S hf hq
    have S8 := S
    refine ex_iload_n 0 dX5_copies_2 rfl rfl ?_
    refine ex_bipush (v := nI 65) dX5_copies_3 (by decide) ?_
    refine ex_icmp_ge (tgt := 29) dX5_copies_5 (by decide) (fun c_5 => absurd c_5 (fun q9 => absurd ((nI_leI (by omega) (by omega)).mp q9) (by omega))) (fun c_5 => ?_)
    refine ex_aload_n 1 dX5_copies_8 rfl rfl ?_
    refine ex_get (v := .ref (m + 1)) fl_X5_7 S.1 rfl dX5_copies_9 ?_
    refine ex_bipush (v := nI 65) dX5_copies_12 (by decide) ?_
    refine ex_iload_n 0 dX5_copies_14 rfl rfl ?_
    refine ex_iaddN dX5_copies_15 ?_
    refine ex_aload_n 1 dX5_copies_16 rfl rfl ?_
    refine ex_get (v := .ref (m + 1)) fl_X5_7 S.1 rfl dX5_copies_17 ?_
    refine ex_iload_n 0 dX5_copies_20 rfl rfl ?_
    refine ex_iald (j := b) S.2.1 rfl (by omega) (by decide) dX5_copies_21 ?_
    refine ex_iast (j := 65 + b) S.2.1 rfl (by omega) (by decide) dX5_copies_22 ?_
    have S1 : MA G h0 (hu h (m + 1) (aA G 0 130 (upd f (65 + b) (f b)))) m k len (upd f (65 + b) (f b)) fp fl fw fd := by
      obtain ⟨s0, s1, s2, s3, s4, s5, s6⟩ := S
      exact ⟨by rw [hu_n (by omega)]; exact s0, hu_s, by rw [hu_n (by omega)]; exact s2, by rw [hu_n (by omega)]; exact s3, by rw [hu_n (by omega)]; exact s4, by rw [hu_n (by omega)]; exact s5, fun a ha => by rw [hu_n (by omega)]; exact s6 a ha⟩
    have hq1 : ∀ a, a ≠ m + 1 → (hu h (m + 1) (aA G 0 130 (upd f (65 + b) (f b)))) a = h0 a := fun a ha => by rw [hu_n ha]; exact hq a ha
    refine ex_iinc (v := nI (b + 1)) (lv' := [(1, .int (nI (b + 1))), (0, .ref m)]) 0 dX5_copies_23 rfl (nI_1 b) (by decide) rfl ?_
    refine ex_goto (tgt := 2) dX5_copies_26 (by decide) ?_
    have e2 := ih (b + 1) _ _ (by omega) S1 ⟨fun i hi => by
          by_cases e : i = b
          · rw [e, upd_s]; exact hf.2 b (by omega)
          · rw [upd_n (by omega)]; exact hf.1 i (by omega), fun i hi => by rw [upd_n (by omega)]; exact hf.2 i hi⟩ hq1
    refine ex_lv (lv2 := [(1, .int (nI (b + 1))), (0, .ref m)]) [0, 1] rfl ?_
    exact e2

