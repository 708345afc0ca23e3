set_option maxRecDepth 20000 in
set_option maxHeartbeats 2000000 in
theorem m_sign {G : GG} {l : Launch} {h0 : HP} {z m : Nat} {n : Nat} {g : Option Nat} {t : Nat} {u : Nat → Int32} {q : Nat → Nat → Int32} {k len : Nat} {L : Nat → AS} {V : Nat → Option AS} {c : Nat → Nat} (S0 : MP G h0 m ((n, g, t, u, q), k, L, V, len, c)) {i : Nat} (hi : i < 100) : Ct G l 0 0 0 yX5_sign cX5_sign 2 (some .int) [.ref m, .int (nI i)] h0 z (p0 (.int (sgI len c i)) h0 z) := by
  refine Ct.intro (lv := [(0, .ref m), (1, .int (nI i))]) (by decide +kernel) (Nat.le_of_ble_eq_true rfl) rfl (fun X Q hQ hnm => ?_)
  have S := S0
  have l60 : len ≤ 60 := by obtain ⟨fs, fp, fl, fw, fd, s1, s2⟩ := S0; exact s2.2.2.2.2.2
  refine ex_iload_n 1 dX5_sign_0 rfl rfl ?_
  refine ex_aload_n 0 dX5_sign_1 rfl rfl ?_
  refine ex_get (v := .int (nI len)) fl_X5_109 S.ob rfl dX5_sign_2 ?_
  refine ex_icmp_ge (tgt := 17) dX5_sign_5 (by decide) (fun c_5 => ?_) (fun c_5 => ?_)
  · have n_5 : len ≤ i := (nI_leI (by omega) (by omega)).mp c_5
    refine ex_iconst (v := (-1)) dX5_sign_17 (by decide) ?_
    exact ex_iret hQ rfl ⟨congrArg (fun x => some (Value.int x)) (by unfold sgI; first | rw [if_pos n_5] | rw [if_neg n_5] | rw [if_pos (by omega)] | rw [if_neg (by omega)]), rfl, rfl⟩ dX5_sign_18
  · have n_5 : ¬ (len ≤ i) := fun q9 => c_5 ((nI_leI (by omega) (by omega)).mpr q9)
    refine ex_aload_n 0 dX5_sign_8 rfl rfl ?_
    refine ex_get (v := .ref (m + 5)) fl_X5_23 S.ob rfl dX5_sign_9 ?_
    refine ex_iload_n 1 dX5_sign_12 rfl rfl ?_
    obtain ⟨fs, fp, fl, fw, fd, s1, s2⟩ := S
    refine ex_iald (j := i) s1.2.2.2.2.2.1 rfl (by have l60 : len ≤ 60 := s2.2.2.2.2.2; omega) (by decide) dX5_sign_13 ?_
    rw [s2.2.2.2.2.1 i (show i < len by omega)]
    refine ex_goto (tgt := 18) dX5_sign_14 (by decide) ?_
    exact ex_iret hQ rfl ⟨congrArg (fun x => some (Value.int x)) (by unfold sgI; first | rw [if_pos n_5] | rw [if_neg n_5] | rw [if_pos (by omega)] | rw [if_neg (by omega)]), rfl, rfl⟩ dX5_sign_18

theorem dgN_sg {len : Nat} {c : Nat → Nat} {i d : Nat} (h : dgN len c i = some d) : sgI len c i = nI (d + 48) := by
  obtain ⟨h1, h2, h3⟩ := dgN_s h
  unfold sgI
  rw [if_pos h1, h2]
theorem dgN_sn {len : Nat} {c : Nat → Nat} {i : Nat} (hc : ∀ i, i < len → c i < 65536) (h : dgN len c i = none) : ¬ (nI 48 ≤ sgI len c i ∧ sgI len c i ≤ nI 57) := fun q => by
  unfold sgI at q
  by_cases hi : i < len
  · rw [if_pos hi] at q
    have h0 := hc i hi
    exact dgN_n h hi ⟨(nI_leI (by omega) (by omega)).mp q.1, (nI_leI (by omega) (by omega)).mp q.2⟩
  · rw [if_neg hi] at q
    exact absurd q.1 (by decide)

set_option maxRecDepth 20000 in
set_option maxHeartbeats 2000000 in
theorem m_digit {G : GG} {l : Launch} {h0 : HP} {z m : Nat} {n : Nat} {g : Option Nat} {t : Nat} {u : Nat → Int32} {q : Nat → Nat → Int32} {k len : Nat} {L : Nat → AS} {V : Nat → Option AS} {c : Nat → Nat} (S0 : MP G h0 m ((n, g, t, u, q), k, L, V, len, c)) (hc : ∀ i, i < len → c i < 65536) {i : Nat} (hi : i < 100) : Ct G l 1 0 0 yX5_digit cX5_digit 2 (some .int) [.ref m, .int (nI i)] h0 z (p0 (.int (dgI (dgN len c i))) h0 z) := by
  refine Ct.intro (lv := [(0, .ref m), (1, .int (nI i))]) (by decide +kernel) (Nat.le_of_ble_eq_true rfl) rfl (fun X Q hQ hnm => ?_)
  have S := S0
  rcases hd : dgN len c i with _ | e
  · refine ex_aload_n 0 dX5_digit_0 rfl rfl ?_
    refine ex_iload_n 1 dX5_digit_1 rfl rfl ?_
    refine ex_call0 (As := [.int (nI i)]) (v := .int (sgI len c i)) (ci := 5) vl_X5_117 rfl (m_sign S (by omega)) S.ob rfl (by decide) (Nat.le_of_ble_eq_true rfl) (Nat.le_refl _) (Nat.le_refl _) rfl dX5_digit_2 ?_
    refine ex_bipush (v := nI 48) dX5_digit_5 (by decide) ?_
    refine ex_bipush (v := nI 57) dX5_digit_7 (by decide) ?_
    refine ex_callS0 (As := [.int (sgI len c i), .int (nI 48), .int (nI 57)]) (v := .int (nI 0)) vl_X5_26 (Ct.mono (by rw [show inV (sgI len c i) (nI 48) (nI 57) = nI 0 from if_neg (dgN_sn hc hd)]) m_in) rfl (by decide) (Nat.le_of_ble_eq_true rfl) (Nat.le_refl _) (Nat.le_refl _) rfl dX5_digit_9 ?_
    refine ex_if_eq (tgt := 26) dX5_digit_12 (by decide) (fun c_12 => ?_) (fun c_12 => absurd (by decide) c_12)
    refine ex_iconst (v := (-1)) dX5_digit_26 (by decide) ?_
    exact ex_iret hQ rfl ⟨by rw [hd]; rfl, rfl, rfl⟩ dX5_digit_27
  · have hs := dgN_sg hd
    have h9 := (dgN_s hd).2.2
    refine ex_aload_n 0 dX5_digit_0 rfl rfl ?_
    refine ex_iload_n 1 dX5_digit_1 rfl rfl ?_
    refine ex_call0 (As := [.int (nI i)]) (v := .int (sgI len c i)) (ci := 5) vl_X5_117 rfl (m_sign S (by omega)) S.ob rfl (by decide) (Nat.le_of_ble_eq_true rfl) (Nat.le_refl _) (Nat.le_refl _) rfl dX5_digit_2 ?_
    rw [hs]
    refine ex_bipush (v := nI 48) dX5_digit_5 (by decide) ?_
    refine ex_bipush (v := nI 57) dX5_digit_7 (by decide) ?_
    refine ex_callS0 (As := [.int (nI (e + 48)), .int (nI 48), .int (nI 57)]) (v := .int (nI 1)) vl_X5_26 (Ct.mono (by rw [show inV (nI (e + 48)) (nI 48) (nI 57) = nI 1 from if_pos ⟨(nI_leI (by omega) (by omega)).mpr (by omega), (nI_leI (by omega) (by omega)).mpr (by omega)⟩]) m_in) rfl (by decide) (Nat.le_of_ble_eq_true rfl) (Nat.le_refl _) (Nat.le_refl _) rfl dX5_digit_9 ?_
    refine ex_if_eq (tgt := 26) dX5_digit_12 (by decide) (fun c_12 => absurd c_12 (by decide)) (fun c_12 => ?_)
    refine ex_aload_n 0 dX5_digit_15 rfl rfl ?_
    refine ex_iload_n 1 dX5_digit_16 rfl rfl ?_
    refine ex_call0 (As := [.int (nI i)]) (v := .int (sgI len c i)) (ci := 5) vl_X5_117 rfl (m_sign S (by omega)) S.ob rfl (by decide) (Nat.le_of_ble_eq_true rfl) (Nat.le_refl _) (Nat.le_refl _) rfl dX5_digit_17 ?_
    rw [hs]
    refine ex_bipush (v := nI 48) dX5_digit_20 (by decide) ?_
    refine ex_isubN dX5_digit_22 (by omega) ?_
    refine ex_goto (tgt := 27) dX5_digit_23 (by decide) ?_
    exact ex_iret hQ rfl ⟨by rw [hd, Nat.add_sub_cancel]; rfl, rfl, rfl⟩ dX5_digit_27

set_option maxRecDepth 20000 in
set_option maxHeartbeats 2000000 in
theorem m_shareEnd {G : GG} {l : Launch} {h0 : HP} {z m p : Nat} {n : Nat} {g : Option Nat} {t : Nat} {u : Nat → Int32} {q : Nat → Nat → Int32} {k len : Nat} {L : Nat → AS} {V : Nat → Option AS} {c : Nat → Nat} (S0 : MP G h0 m ((n, g, t, u, q), k, L, V, len, c)) (hc : ∀ i, i < len → c i < 65536) (hp : p ≤ 63) : Ct G l 2 0 0 yX5_shareEnd cX5_shareEnd 3 (some .int) [.ref m, .int (nI p)] h0 z (p0 (.int (rsI (seN len c p))) h0 z) := by
  refine Ct.intro (lv := [(0, .ref m), (1, .int (nI p))]) (by decide +kernel) (Nat.le_of_ble_eq_true rfl) rfl (fun X Q hQ hnm => ?_)
  have S := S0
  rcases hd : dgN len c p with _ | d0
  · refine ex_aload_n 0 dX5_shareEnd_0 rfl rfl ?_
    refine ex_iload_n 1 dX5_shareEnd_1 rfl rfl ?_
    refine ex_call0 (As := [.int (nI p)]) (v := .int (dgI (dgN len c p))) (ci := 5) vl_X5_120 rfl (m_digit S hc (by omega)) S.ob rfl (by decide) (Nat.le_of_ble_eq_true rfl) (Nat.le_refl _) (Nat.le_refl _) rfl dX5_shareEnd_2 ?_
    rw [hd]
    refine ex_if_ge (tgt := 12) dX5_shareEnd_5 (by decide) (fun c_5 => absurd c_5 (by decide)) (fun c_5 => ?_)
    refine ex_iconst (v := (-1)) dX5_shareEnd_8 (by decide) ?_
    refine ex_iload_n 1 dX5_shareEnd_9 rfl rfl ?_
    refine ex_isub dX5_shareEnd_10 ?_
    have es : seN len c p = (false, p) := by
      unfold seN
      rw [hd]
    exact ex_iret hQ rfl ⟨by rw [es]; rfl, rfl, rfl⟩ dX5_shareEnd_11
  · have q0 := dgN_s hd
    rcases hd1 : dgN len c (p + 1) with _ | d1
    · refine ex_aload_n 0 dX5_shareEnd_0 rfl rfl ?_
      refine ex_iload_n 1 dX5_shareEnd_1 rfl rfl ?_
      refine ex_call0 (As := [.int (nI p)]) (v := .int (dgI (dgN len c p))) (ci := 5) vl_X5_120 rfl (m_digit S hc (by omega)) S.ob rfl (by decide) (Nat.le_of_ble_eq_true rfl) (Nat.le_refl _) (Nat.le_refl _) rfl dX5_shareEnd_2 ?_
      rw [hd]
      refine ex_if_ge (tgt := 12) dX5_shareEnd_5 (by decide) (fun c_5 => ?_) (fun c_5 => absurd (nI_pos' (by omega)) c_5)
      refine ex_aload_n 0 dX5_shareEnd_12 rfl rfl ?_
      refine ex_iload_n 1 dX5_shareEnd_13 rfl rfl ?_
      refine ex_call0 (As := [.int (nI p)]) (v := .int (dgI (dgN len c p))) (ci := 5) vl_X5_120 rfl (m_digit S hc (by omega)) S.ob rfl (by decide) (Nat.le_of_ble_eq_true rfl) (Nat.le_refl _) (Nat.le_refl _) rfl dX5_shareEnd_14 ?_
      rw [hd]
      refine ex_if_eq (tgt := 30) dX5_shareEnd_17 (by decide) (fun c_17 => ?_) (fun c_17 => ?_)
      · have n_17 : d0 = 0 := (nI_eq (b := 0) (by omega) (by omega)).mp c_17
        refine ex_iload_n 1 dX5_shareEnd_30 rfl rfl ?_
        refine ex_iconst (v := nI 1) dX5_shareEnd_31 (by decide) ?_
        refine ex_iaddN dX5_shareEnd_32 ?_
        have es : seN len c p = (true, p + 1) := by
          unfold seN
          rw [hd]
          dsimp only
          rw [if_pos (Or.inr hd1)]
        exact ex_iret hQ rfl ⟨by rw [es]; rfl, rfl, rfl⟩ dX5_shareEnd_33
      · have n_17 : ¬ (d0 = 0) := fun q9 => c_17 ((nI_eq (b := 0) (by omega) (by omega)).mpr q9)
        refine ex_aload_n 0 dX5_shareEnd_20 rfl rfl ?_
        refine ex_iload_n 1 dX5_shareEnd_21 rfl rfl ?_
        refine ex_iconst (v := nI 1) dX5_shareEnd_22 (by decide) ?_
        refine ex_iaddN dX5_shareEnd_23 ?_
        refine ex_call0 (As := [.int (nI (p + 1))]) (v := .int (dgI (dgN len c (p + 1)))) (ci := 5) vl_X5_120 rfl (m_digit S hc (by omega)) S.ob rfl (by decide) (Nat.le_of_ble_eq_true rfl) (Nat.le_refl _) (Nat.le_refl _) rfl dX5_shareEnd_24 ?_
        rw [hd1]
        refine ex_if_ge (tgt := 34) dX5_shareEnd_27 (by decide) (fun c_27 => absurd c_27 (by decide)) (fun c_27 => ?_)
        refine ex_iload_n 1 dX5_shareEnd_30 rfl rfl ?_
        refine ex_iconst (v := nI 1) dX5_shareEnd_31 (by decide) ?_
        refine ex_iaddN dX5_shareEnd_32 ?_
        have es : seN len c p = (true, p + 1) := by
          unfold seN
          rw [hd]
          dsimp only
          rw [if_pos (Or.inr hd1)]
        exact ex_iret hQ rfl ⟨by rw [es]; rfl, rfl, rfl⟩ dX5_shareEnd_33
    · have q1 := dgN_s hd1
      have es0 : d0 = 0 → seN len c p = (true, p + 1) := fun z => by
        unfold seN
        rw [hd]
        dsimp only
        rw [if_pos (Or.inl z)]
      have es1 : d0 ≠ 0 → seN len c p = if d0 = 1 ∧ dgN len c (p + 1) = some 0 ∧ dgN len c (p + 2) = some 0 then (true, p + 3) else (true, p + 2) := fun z => by
        unfold seN
        rw [hd]
        dsimp only
        rw [if_neg (fun q9 => q9.elim z (fun q9 => by rw [hd1] at q9; cases q9))]
      rcases hd2 : dgN len c (p + 2) with _ | d2
      · refine ex_aload_n 0 dX5_shareEnd_0 rfl rfl ?_
        refine ex_iload_n 1 dX5_shareEnd_1 rfl rfl ?_
        refine ex_call0 (As := [.int (nI p)]) (v := .int (dgI (dgN len c p))) (ci := 5) vl_X5_120 rfl (m_digit S hc (by omega)) S.ob rfl (by decide) (Nat.le_of_ble_eq_true rfl) (Nat.le_refl _) (Nat.le_refl _) rfl dX5_shareEnd_2 ?_
        rw [hd]
        refine ex_if_ge (tgt := 12) dX5_shareEnd_5 (by decide) (fun c_5 => ?_) (fun c_5 => absurd (nI_pos' (by omega)) c_5)
        refine ex_aload_n 0 dX5_shareEnd_12 rfl rfl ?_
        refine ex_iload_n 1 dX5_shareEnd_13 rfl rfl ?_
        refine ex_call0 (As := [.int (nI p)]) (v := .int (dgI (dgN len c p))) (ci := 5) vl_X5_120 rfl (m_digit S hc (by omega)) S.ob rfl (by decide) (Nat.le_of_ble_eq_true rfl) (Nat.le_refl _) (Nat.le_refl _) rfl dX5_shareEnd_14 ?_
        rw [hd]
        refine ex_if_eq (tgt := 30) dX5_shareEnd_17 (by decide) (fun c_17 => ?_) (fun c_17 => ?_)
        · have n_17 : d0 = 0 := (nI_eq (b := 0) (by omega) (by omega)).mp c_17
          refine ex_iload_n 1 dX5_shareEnd_30 rfl rfl ?_
          refine ex_iconst (v := nI 1) dX5_shareEnd_31 (by decide) ?_
          refine ex_iaddN dX5_shareEnd_32 ?_
          exact ex_iret hQ rfl ⟨by rw [es0 n_17]; rfl, rfl, rfl⟩ dX5_shareEnd_33
        · have n_17 : ¬ (d0 = 0) := fun q9 => c_17 ((nI_eq (b := 0) (by omega) (by omega)).mpr q9)
          refine ex_aload_n 0 dX5_shareEnd_20 rfl rfl ?_
          refine ex_iload_n 1 dX5_shareEnd_21 rfl rfl ?_
          refine ex_iconst (v := nI 1) dX5_shareEnd_22 (by decide) ?_
          refine ex_iaddN dX5_shareEnd_23 ?_
          refine ex_call0 (As := [.int (nI (p + 1))]) (v := .int (dgI (dgN len c (p + 1)))) (ci := 5) vl_X5_120 rfl (m_digit S hc (by omega)) S.ob rfl (by decide) (Nat.le_of_ble_eq_true rfl) (Nat.le_refl _) (Nat.le_refl _) rfl dX5_shareEnd_24 ?_
          rw [hd1]
          refine ex_if_ge (tgt := 34) dX5_shareEnd_27 (by decide) (fun c_27 => ?_) (fun c_27 => absurd (nI_pos' (by omega)) c_27)
          refine ex_aload_n 0 dX5_shareEnd_34 rfl rfl ?_
          refine ex_iload_n 1 dX5_shareEnd_35 rfl rfl ?_
          refine ex_call0 (As := [.int (nI p)]) (v := .int (dgI (dgN len c p))) (ci := 5) vl_X5_120 rfl (m_digit S hc (by omega)) S.ob rfl (by decide) (Nat.le_of_ble_eq_true rfl) (Nat.le_refl _) (Nat.le_refl _) rfl dX5_shareEnd_36 ?_
          rw [hd]
          refine ex_iconst (v := nI 1) dX5_shareEnd_39 (by decide) ?_
          refine ex_icmp_ne (tgt := 67) dX5_shareEnd_40 (by decide) (fun c_40 => ?_) (fun c_40 => ?_)
          · have n_40 : ¬ (d0 = 1) := fun q9 => c_40 ((nI_eq (by omega) (by omega)).mpr q9)
            refine ex_iconst (v := nI 0) dX5_shareEnd_67 (by decide) ?_
            refine ex_istore_n (lv' := [(2, .int (nI 0)), (0, .ref m), (1, .int (nI p))]) dX5_shareEnd_68 rfl (by decide) rfl ?_
            refine ex_iload_n 0 dX5_shareEnd_69 rfl rfl ?_
            refine ex_if_eq (tgt := 79) dX5_shareEnd_70 (by decide) (fun c_70 => ?_) (fun c_70 => absurd (by decide) c_70)
            refine ex_iload_n 2 dX5_shareEnd_79 rfl rfl ?_
            refine ex_iconst (v := nI 2) dX5_shareEnd_80 (by decide) ?_
            refine ex_iaddN dX5_shareEnd_81 ?_
            exact ex_iret hQ rfl ⟨by rw [es1 n_17, if_neg (fun q9 => by first | exact n_40 q9.1 | (have z := q9.2.1; rw [hd1] at z; exact n_50 (Option.some.inj z)) | (have z := q9.2.2; rw [hd2] at z; exact n_60 (Option.some.inj z)) | (have z := q9.2.2; rw [hd2] at z; cases z))]; rfl, rfl, rfl⟩ dX5_shareEnd_82
          · have n_40 : d0 = 1 := (nI_eq (by omega) (by omega)).mp c_40
            refine ex_aload_n 0 dX5_shareEnd_43 rfl rfl ?_
            refine ex_iload_n 1 dX5_shareEnd_44 rfl rfl ?_
            refine ex_iconst (v := nI 1) dX5_shareEnd_45 (by decide) ?_
            refine ex_iaddN dX5_shareEnd_46 ?_
            refine ex_call0 (As := [.int (nI (p + 1))]) (v := .int (dgI (dgN len c (p + 1)))) (ci := 5) vl_X5_120 rfl (m_digit S hc (by omega)) S.ob rfl (by decide) (Nat.le_of_ble_eq_true rfl) (Nat.le_refl _) (Nat.le_refl _) rfl dX5_shareEnd_47 ?_
            rw [hd1]
            refine ex_if_ne (tgt := 67) dX5_shareEnd_50 (by decide) (fun c_50 => ?_) (fun c_50 => ?_)
            · have n_50 : ¬ (d1 = 0) := fun q9 => c_50 ((nI_eq (b := 0) (by omega) (by omega)).mpr q9)
              refine ex_iconst (v := nI 0) dX5_shareEnd_67 (by decide) ?_
              refine ex_istore_n (lv' := [(2, .int (nI 0)), (0, .ref m), (1, .int (nI p))]) dX5_shareEnd_68 rfl (by decide) rfl ?_
              refine ex_iload_n 0 dX5_shareEnd_69 rfl rfl ?_
              refine ex_if_eq (tgt := 79) dX5_shareEnd_70 (by decide) (fun c_70 => ?_) (fun c_70 => absurd (by decide) c_70)
              refine ex_iload_n 2 dX5_shareEnd_79 rfl rfl ?_
              refine ex_iconst (v := nI 2) dX5_shareEnd_80 (by decide) ?_
              refine ex_iaddN dX5_shareEnd_81 ?_
              exact ex_iret hQ rfl ⟨by rw [es1 n_17, if_neg (fun q9 => by first | exact n_40 q9.1 | (have z := q9.2.1; rw [hd1] at z; exact n_50 (Option.some.inj z)) | (have z := q9.2.2; rw [hd2] at z; exact n_60 (Option.some.inj z)) | (have z := q9.2.2; rw [hd2] at z; cases z))]; rfl, rfl, rfl⟩ dX5_shareEnd_82
            · have n_50 : d1 = 0 := (nI_eq (b := 0) (by omega) (by omega)).mp c_50
              refine ex_aload_n 0 dX5_shareEnd_53 rfl rfl ?_
              refine ex_iload_n 1 dX5_shareEnd_54 rfl rfl ?_
              refine ex_iconst (v := nI 2) dX5_shareEnd_55 (by decide) ?_
              refine ex_iaddN dX5_shareEnd_56 ?_
              refine ex_call0 (As := [.int (nI (p + 2))]) (v := .int (dgI (dgN len c (p + 2)))) (ci := 5) vl_X5_120 rfl (m_digit S hc (by omega)) S.ob rfl (by decide) (Nat.le_of_ble_eq_true rfl) (Nat.le_refl _) (Nat.le_refl _) rfl dX5_shareEnd_57 ?_
              rw [hd2]
              refine ex_if_ne (tgt := 67) dX5_shareEnd_60 (by decide) (fun c_60 => ?_) (fun c_60 => absurd c_60 (by decide))
              refine ex_iconst (v := nI 0) dX5_shareEnd_67 (by decide) ?_
              refine ex_istore_n (lv' := [(2, .int (nI 0)), (0, .ref m), (1, .int (nI p))]) dX5_shareEnd_68 rfl (by decide) rfl ?_
              refine ex_iload_n 0 dX5_shareEnd_69 rfl rfl ?_
              refine ex_if_eq (tgt := 79) dX5_shareEnd_70 (by decide) (fun c_70 => ?_) (fun c_70 => absurd (by decide) c_70)
              refine ex_iload_n 2 dX5_shareEnd_79 rfl rfl ?_
              refine ex_iconst (v := nI 2) dX5_shareEnd_80 (by decide) ?_
              refine ex_iaddN dX5_shareEnd_81 ?_
              exact ex_iret hQ rfl ⟨by rw [es1 n_17, if_neg (fun q9 => by first | exact n_40 q9.1 | (have z := q9.2.1; rw [hd1] at z; exact n_50 (Option.some.inj z)) | (have z := q9.2.2; rw [hd2] at z; exact n_60 (Option.some.inj z)) | (have z := q9.2.2; rw [hd2] at z; cases z))]; rfl, rfl, rfl⟩ dX5_shareEnd_82
      · have q2 := dgN_s hd2
        refine ex_aload_n 0 dX5_shareEnd_0 rfl rfl ?_
        refine ex_iload_n 1 dX5_shareEnd_1 rfl rfl ?_
        refine ex_call0 (As := [.int (nI p)]) (v := .int (dgI (dgN len c p))) (ci := 5) vl_X5_120 rfl (m_digit S hc (by omega)) S.ob rfl (by decide) (Nat.le_of_ble_eq_true rfl) (Nat.le_refl _) (Nat.le_refl _) rfl dX5_shareEnd_2 ?_
        rw [hd]
        refine ex_if_ge (tgt := 12) dX5_shareEnd_5 (by decide) (fun c_5 => ?_) (fun c_5 => absurd (nI_pos' (by omega)) c_5)
        refine ex_aload_n 0 dX5_shareEnd_12 rfl rfl ?_
        refine ex_iload_n 1 dX5_shareEnd_13 rfl rfl ?_
        refine ex_call0 (As := [.int (nI p)]) (v := .int (dgI (dgN len c p))) (ci := 5) vl_X5_120 rfl (m_digit S hc (by omega)) S.ob rfl (by decide) (Nat.le_of_ble_eq_true rfl) (Nat.le_refl _) (Nat.le_refl _) rfl dX5_shareEnd_14 ?_
        rw [hd]
        refine ex_if_eq (tgt := 30) dX5_shareEnd_17 (by decide) (fun c_17 => ?_) (fun c_17 => ?_)
        · have n_17 : d0 = 0 := (nI_eq (b := 0) (by omega) (by omega)).mp c_17
          refine ex_iload_n 1 dX5_shareEnd_30 rfl rfl ?_
          refine ex_iconst (v := nI 1) dX5_shareEnd_31 (by decide) ?_
          refine ex_iaddN dX5_shareEnd_32 ?_
          exact ex_iret hQ rfl ⟨by rw [es0 n_17]; rfl, rfl, rfl⟩ dX5_shareEnd_33
        · have n_17 : ¬ (d0 = 0) := fun q9 => c_17 ((nI_eq (b := 0) (by omega) (by omega)).mpr q9)
          refine ex_aload_n 0 dX5_shareEnd_20 rfl rfl ?_
          refine ex_iload_n 1 dX5_shareEnd_21 rfl rfl ?_
          refine ex_iconst (v := nI 1) dX5_shareEnd_22 (by decide) ?_
          refine ex_iaddN dX5_shareEnd_23 ?_
          refine ex_call0 (As := [.int (nI (p + 1))]) (v := .int (dgI (dgN len c (p + 1)))) (ci := 5) vl_X5_120 rfl (m_digit S hc (by omega)) S.ob rfl (by decide) (Nat.le_of_ble_eq_true rfl) (Nat.le_refl _) (Nat.le_refl _) rfl dX5_shareEnd_24 ?_
          rw [hd1]
          refine ex_if_ge (tgt := 34) dX5_shareEnd_27 (by decide) (fun c_27 => ?_) (fun c_27 => absurd (nI_pos' (by omega)) c_27)
          refine ex_aload_n 0 dX5_shareEnd_34 rfl rfl ?_
          refine ex_iload_n 1 dX5_shareEnd_35 rfl rfl ?_
          refine ex_call0 (As := [.int (nI p)]) (v := .int (dgI (dgN len c p))) (ci := 5) vl_X5_120 rfl (m_digit S hc (by omega)) S.ob rfl (by decide) (Nat.le_of_ble_eq_true rfl) (Nat.le_refl _) (Nat.le_refl _) rfl dX5_shareEnd_36 ?_
          rw [hd]
          refine ex_iconst (v := nI 1) dX5_shareEnd_39 (by decide) ?_
          refine ex_icmp_ne (tgt := 67) dX5_shareEnd_40 (by decide) (fun c_40 => ?_) (fun c_40 => ?_)
          · have n_40 : ¬ (d0 = 1) := fun q9 => c_40 ((nI_eq (by omega) (by omega)).mpr q9)
            refine ex_iconst (v := nI 0) dX5_shareEnd_67 (by decide) ?_
            refine ex_istore_n (lv' := [(2, .int (nI 0)), (0, .ref m), (1, .int (nI p))]) dX5_shareEnd_68 rfl (by decide) rfl ?_
            refine ex_iload_n 0 dX5_shareEnd_69 rfl rfl ?_
            refine ex_if_eq (tgt := 79) dX5_shareEnd_70 (by decide) (fun c_70 => ?_) (fun c_70 => absurd (by decide) c_70)
            refine ex_iload_n 2 dX5_shareEnd_79 rfl rfl ?_
            refine ex_iconst (v := nI 2) dX5_shareEnd_80 (by decide) ?_
            refine ex_iaddN dX5_shareEnd_81 ?_
            exact ex_iret hQ rfl ⟨by rw [es1 n_17, if_neg (fun q9 => by first | exact n_40 q9.1 | (have z := q9.2.1; rw [hd1] at z; exact n_50 (Option.some.inj z)) | (have z := q9.2.2; rw [hd2] at z; exact n_60 (Option.some.inj z)) | (have z := q9.2.2; rw [hd2] at z; cases z))]; rfl, rfl, rfl⟩ dX5_shareEnd_82
          · have n_40 : d0 = 1 := (nI_eq (by omega) (by omega)).mp c_40
            refine ex_aload_n 0 dX5_shareEnd_43 rfl rfl ?_
            refine ex_iload_n 1 dX5_shareEnd_44 rfl rfl ?_
            refine ex_iconst (v := nI 1) dX5_shareEnd_45 (by decide) ?_
            refine ex_iaddN dX5_shareEnd_46 ?_
            refine ex_call0 (As := [.int (nI (p + 1))]) (v := .int (dgI (dgN len c (p + 1)))) (ci := 5) vl_X5_120 rfl (m_digit S hc (by omega)) S.ob rfl (by decide) (Nat.le_of_ble_eq_true rfl) (Nat.le_refl _) (Nat.le_refl _) rfl dX5_shareEnd_47 ?_
            rw [hd1]
            refine ex_if_ne (tgt := 67) dX5_shareEnd_50 (by decide) (fun c_50 => ?_) (fun c_50 => ?_)
            · have n_50 : ¬ (d1 = 0) := fun q9 => c_50 ((nI_eq (b := 0) (by omega) (by omega)).mpr q9)
              refine ex_iconst (v := nI 0) dX5_shareEnd_67 (by decide) ?_
              refine ex_istore_n (lv' := [(2, .int (nI 0)), (0, .ref m), (1, .int (nI p))]) dX5_shareEnd_68 rfl (by decide) rfl ?_
              refine ex_iload_n 0 dX5_shareEnd_69 rfl rfl ?_
              refine ex_if_eq (tgt := 79) dX5_shareEnd_70 (by decide) (fun c_70 => ?_) (fun c_70 => absurd (by decide) c_70)
              refine ex_iload_n 2 dX5_shareEnd_79 rfl rfl ?_
              refine ex_iconst (v := nI 2) dX5_shareEnd_80 (by decide) ?_
              refine ex_iaddN dX5_shareEnd_81 ?_
              exact ex_iret hQ rfl ⟨by rw [es1 n_17, if_neg (fun q9 => by first | exact n_40 q9.1 | (have z := q9.2.1; rw [hd1] at z; exact n_50 (Option.some.inj z)) | (have z := q9.2.2; rw [hd2] at z; exact n_60 (Option.some.inj z)) | (have z := q9.2.2; rw [hd2] at z; cases z))]; rfl, rfl, rfl⟩ dX5_shareEnd_82
            · have n_50 : d1 = 0 := (nI_eq (b := 0) (by omega) (by omega)).mp c_50
              refine ex_aload_n 0 dX5_shareEnd_53 rfl rfl ?_
              refine ex_iload_n 1 dX5_shareEnd_54 rfl rfl ?_
              refine ex_iconst (v := nI 2) dX5_shareEnd_55 (by decide) ?_
              refine ex_iaddN dX5_shareEnd_56 ?_
              refine ex_call0 (As := [.int (nI (p + 2))]) (v := .int (dgI (dgN len c (p + 2)))) (ci := 5) vl_X5_120 rfl (m_digit S hc (by omega)) S.ob rfl (by decide) (Nat.le_of_ble_eq_true rfl) (Nat.le_refl _) (Nat.le_refl _) rfl dX5_shareEnd_57 ?_
              rw [hd2]
              refine ex_if_ne (tgt := 67) dX5_shareEnd_60 (by decide) (fun c_60 => ?_) (fun c_60 => ?_)
              · have n_60 : ¬ (d2 = 0) := fun q9 => c_60 ((nI_eq (b := 0) (by omega) (by omega)).mpr q9)
                refine ex_iconst (v := nI 0) dX5_shareEnd_67 (by decide) ?_
                refine ex_istore_n (lv' := [(2, .int (nI 0)), (0, .ref m), (1, .int (nI p))]) dX5_shareEnd_68 rfl (by decide) rfl ?_
                refine ex_iload_n 0 dX5_shareEnd_69 rfl rfl ?_
                refine ex_if_eq (tgt := 79) dX5_shareEnd_70 (by decide) (fun c_70 => ?_) (fun c_70 => absurd (by decide) c_70)
                refine ex_iload_n 2 dX5_shareEnd_79 rfl rfl ?_
                refine ex_iconst (v := nI 2) dX5_shareEnd_80 (by decide) ?_
                refine ex_iaddN dX5_shareEnd_81 ?_
                exact ex_iret hQ rfl ⟨by rw [es1 n_17, if_neg (fun q9 => by first | exact n_40 q9.1 | (have z := q9.2.1; rw [hd1] at z; exact n_50 (Option.some.inj z)) | (have z := q9.2.2; rw [hd2] at z; exact n_60 (Option.some.inj z)) | (have z := q9.2.2; rw [hd2] at z; cases z))]; rfl, rfl, rfl⟩ dX5_shareEnd_82
              · have n_60 : d2 = 0 := (nI_eq (b := 0) (by omega) (by omega)).mp c_60
                refine ex_iconst (v := nI 1) dX5_shareEnd_63 (by decide) ?_
                refine ex_goto (tgt := 68) dX5_shareEnd_64 (by decide) ?_
                refine ex_istore_n (lv' := [(2, .int (nI 1)), (0, .ref m), (1, .int (nI p))]) dX5_shareEnd_68 rfl (by decide) rfl ?_
                refine ex_iload_n 0 dX5_shareEnd_69 rfl rfl ?_
                refine ex_if_eq (tgt := 79) dX5_shareEnd_70 (by decide) (fun c_70 => absurd c_70 (by decide)) (fun c_70 => ?_)
                refine ex_iload_n 2 dX5_shareEnd_73 rfl rfl ?_
                refine ex_iconst (v := nI 3) dX5_shareEnd_74 (by decide) ?_
                refine ex_iaddN dX5_shareEnd_75 ?_
                refine ex_goto (tgt := 82) dX5_shareEnd_76 (by decide) ?_
                exact ex_iret hQ rfl ⟨by rw [es1 n_17, if_pos ⟨n_40, by rw [hd1, n_50], by rw [hd2, n_60]⟩]; rfl, rfl, rfl⟩ dX5_shareEnd_82

set_option maxRecDepth 20000 in
set_option maxHeartbeats 2000000 in
theorem m_shareAt {G : GG} {l : Launch} {h0 : HP} {z m p : Nat} {n : Nat} {g : Option Nat} {t : Nat} {u : Nat → Int32} {q : Nat → Nat → Int32} {k len : Nat} {L : Nat → AS} {V : Nat → Option AS} {c : Nat → Nat} (S0 : MP G h0 m ((n, g, t, u, q), k, L, V, len, c)) (hc : ∀ i, i < len → c i < 65536) (hp : p ≤ 63) {e : Nat} (hs : seN len c p = (true, e)) : Ct G l 3 0 0 yX5_shareAt cX5_shareAt 4 (some .int) [.ref m, .int (nI p)] h0 z (p0 (.int (nI (shV c p (e - p)))) h0 z) := by
  refine Ct.intro (lv := [(0, .ref m), (1, .int (nI p))]) (by decide +kernel) (Nat.le_of_ble_eq_true rfl) rfl (fun X Q hQ hnm => ?_)
  have S := S0
  obtain ⟨h1, h2, h3⟩ := seN_t hs
  refine ex_iconst (v := nI 0) dX5_shareAt_0 (by decide) ?_
  refine ex_istore_n (lv' := [(2, .int (nI 0)), (0, .ref m), (1, .int (nI p))]) dX5_shareAt_1 rfl (by decide) rfl ?_
  refine ex_iload_n 2 dX5_shareAt_2 rfl rfl ?_
  refine ex_istore_n (lv' := [(3, .int (nI p)), (2, .int (nI 0)), (0, .ref m), (1, .int (nI p))]) dX5_shareAt_3 rfl (by decide) rfl ?_
  suffices H : ∀ (k2 r : Nat), p + r + k2 = e → ex G l X Q 3 0 0 0 0 cX5_shareAt yX5_shareAt.cls 4 (some .int) h0 z 4 [(3, .int (nI (p + r))), (2, .int (nI (shV c p r))), (0, .ref m), (1, .int (nI p))] [] from by
    have e2 := H (e - p) 0 (by omega)
    refine ex_lv (lv2 := [(3, .int (nI (p + 0))), (2, .int (nI (shV c p 0))), (0, .ref m), (1, .int (nI p))]) [0, 1, 2, 3] rfl ?_
    exact e2
  intro k2
  induction k2 with
  | zero =>
    intro r hr
    refine ex_iload_n 0 dX5_shareAt_4 rfl rfl ?_
    refine ex_aload_n 2 dX5_shareAt_5 rfl rfl ?_
    refine ex_iload_n 3 dX5_shareAt_6 rfl rfl ?_
    refine ex_call0 (As := [.int (nI p)]) (v := .int (rsI (seN len c p))) (ci := 5) vl_X5_123 rfl (m_shareEnd S hc hp) S.ob rfl (by decide) (Nat.le_of_ble_eq_true rfl) (Nat.le_refl _) (Nat.le_refl _) rfl dX5_shareAt_7 ?_
    rw [hs]
    have eR : rsI (true, e) = nI e := rfl
    rw [eR]
    refine ex_icmp_ge (tgt := 30) dX5_shareAt_10 (by decide) (fun c_10 => ?_) (fun c_10 => absurd ((nI_leI (by omega) (by omega)).mpr (by omega)) c_10)
    refine ex_iload_n 1 dX5_shareAt_30 rfl rfl ?_
    exact ex_iret hQ rfl ⟨by rw [show r = e - p by omega], rfl, rfl⟩ dX5_shareAt_31
  | succ k2 ih =>
    intro r hr
    have hq := h3 (p + r) (by omega) (by omega)
    have hdr : dgN len c (p + r) = some (c (p + r) - 48) := if_pos hq
    refine ex_iload_n 0 dX5_shareAt_4 rfl rfl ?_
    refine ex_aload_n 2 dX5_shareAt_5 rfl rfl ?_
    refine ex_iload_n 3 dX5_shareAt_6 rfl rfl ?_
    refine ex_call0 (As := [.int (nI p)]) (v := .int (rsI (seN len c p))) (ci := 5) vl_X5_123 rfl (m_shareEnd S hc hp) S.ob rfl (by decide) (Nat.le_of_ble_eq_true rfl) (Nat.le_refl _) (Nat.le_refl _) rfl dX5_shareAt_7 ?_
    rw [hs]
    have eR : rsI (true, e) = nI e := rfl
    rw [eR]
    refine ex_icmp_ge (tgt := 30) dX5_shareAt_10 (by decide) (fun c_10 => absurd c_10 (fun q9 => absurd ((nI_leI (by omega) (by omega)).mp q9) (by omega))) (fun c_10 => ?_)
    refine ex_bipush (v := nI 10) dX5_shareAt_13 (by decide) ?_
    refine ex_iload_n 1 dX5_shareAt_15 rfl rfl ?_
    refine ex_imulN dX5_shareAt_16 ?_
    refine ex_aload_n 2 dX5_shareAt_17 rfl rfl ?_
    refine ex_iload_n 0 dX5_shareAt_18 rfl rfl ?_
    refine ex_call0 (As := [.int (nI (p + r))]) (v := .int (dgI (dgN len c (p + r)))) (ci := 5) vl_X5_120 rfl (m_digit S hc (by omega)) S.ob rfl (by decide) (Nat.le_of_ble_eq_true rfl) (Nat.le_refl _) (Nat.le_refl _) rfl dX5_shareAt_19 ?_
    rw [hdr]
    refine ex_iaddN dX5_shareAt_22 ?_
    refine ex_istore_n (lv' := [(2, .int (nI (10 * (shV c p r) + (c (p + r) - 48)))), (3, .int (nI (p + r))), (0, .ref m), (1, .int (nI p))]) dX5_shareAt_23 rfl (by decide) rfl ?_
    refine ex_iinc (v := nI (p + r + 1)) (lv' := [(3, .int (nI (p + r + 1))), (2, .int (nI (10 * (shV c p r) + (c (p + r) - 48)))), (0, .ref m), (1, .int (nI p))]) 1 dX5_shareAt_24 rfl (nI_1 (p + r)) (by decide) rfl ?_
    refine ex_goto (tgt := 4) dX5_shareAt_27 (by decide) ?_
    have e2 := ih (r + 1) (by omega)
    refine ex_lv (lv2 := [(3, .int (nI (p + (r + 1)))), (2, .int (nI (shV c p (r + 1)))), (0, .ref m), (1, .int (nI p))]) [0, 1, 2, 3] rfl ?_
    exact e2

