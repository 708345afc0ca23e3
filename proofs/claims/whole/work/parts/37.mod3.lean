theorem RF.to {G : GG} {h0 h : HP} {m k len p : Nat} {A B : AS} (S : RF G h0 h m k len p A) (e : ∀ k, k < 17 → mu B k = mu A k) (e1 : B.1 ≤ A.1) (eq : ∀ j k, j < B.1 → k < 6 → B.2.2.2.2 j k = A.2.2.2.2 j k) : RF G h0 h m k len p B := by
  obtain ⟨s1, ⟨f0, f, a1, a2, a3, a4⟩, a5⟩ := S
  exact ⟨s1, ⟨f0, f, a1, a2, a3.to e e1 eq, a4⟩, a5⟩
theorem cp50 {x : Int32} : (x < nI 50 → cpI (nI 50) x = nI 1) ∧ (¬ x < nI 50 → nI 50 < x → cpI (nI 50) x = (-1)) ∧ (¬ x < nI 50 → ¬ nI 50 < x → cpI (nI 50) x = nI 0) := by
  unfold cpI
  refine ⟨fun h => ?_, fun h h2 => by rw [if_pos h2], fun h h2 => ?_⟩
  · have h1 : ¬ nI 50 < x := Int32.not_lt.mpr (Int32.le_of_lt h)
    have h2 : ¬ nI 50 = x := fun q => Int32.lt_irrefl (q ▸ h : x < x)
    rw [if_neg h1, if_neg h2]
  · rw [if_neg h2, if_pos (Int32.le_antisymm (Int32.not_lt.mp h) (Int32.not_lt.mp h2))]
theorem nI_m1 {k : Nat} (h : 1 ≤ k) : nI k + (-1) = nI (k - 1) := by
  rw [← nI_sub h, Int32.sub_eq_add_neg]
  rfl

theorem hB_n {r : Option Nat} : narrow .boolean (.int (hB r)) = .int (hB r) := by
  cases r
  · decide
  · exact (by decide : narrow .boolean (.int (nI 1)) = .int (nI 1))

set_option maxRecDepth 20000 in
set_option maxHeartbeats 2000000 in
theorem m_passesOne {G : GG} {l : Launch} {h0 : HP} {z m kk len p : Nat} {n : Nat} {g : Option Nat} {t : Nat} {u : Nat → Int32} {q : Nat → Nat → Int32} (S0 : RP G h0 m kk len p (n, g, t, u, q)) (hp : p ≤ 65) (wf : wfA (n, g, t, u, q)) (m3 : 0 < u 3) (hm : 0 ≤ u 8) : Ct G l 4 0 0 yX5_passesOne cX5_passesOne 3 (some .boolean) [.ref m, .int (nI p)] h0 z (pR G (some (.int (hB (dayR (n, g, t, u, q))))) h0 z m kk len p (dayA (n, g, t, u, q))) := by
  refine Ct.intro (lv := [(0, .ref m), (1, .int (nI p))]) (by decide +kernel) (Nat.le_of_ble_eq_true rfl) rfl (fun X Q hQ hnm => ?_)
  have S := S0.rf
  have n8 : n ≤ 8 := wf.1
  have gw : ∀ i, g = some i → i < n := wf.2.1
  have TL : ∀ (h : HP) (g2 : Option Nat) (t2 : Nat) (u2 : Nat → Int32) (q2 : Nat → Nat → Int32), RF G h0 h m kk len p (n, g2, t2, u2, q2) → (∀ i, g2 = some i → i < n) → eA (n, g2, t2, u2, q2) = dayA (n, g, t, u, q) → ex G l X Q 4 0 0 0 0 cX5_passesOne yX5_passesOne.cls 3 (some .boolean) h z 45 [(2, .int (hB (dayR (n, g, t, u, q)))), (0, .ref m), (1, .int (nI p))] [] := by
    intro h g2 t2 u2 q2 S gw2 hE2
    refine ex_aload_n 1 dX5_passesOne_45 rfl rfl ?_
    refine ex_get (v := .ref (m + 1)) fl_X5_7 S.1 rfl dX5_passesOne_46 ?_
    refine ex_iload_n 2 dX5_passesOne_49 rfl rfl ?_
    refine ex_bipush (v := nI 8) dX5_passesOne_50 (by decide) ?_
    refine ex_iaddN dX5_passesOne_52 ?_
    refine ex_dup2 dX5_passesOne_53 rfl rfl ?_
    refine exM_ld (p := p) (i := 8) (v := u2 8) S hp rfl (by decide) rfl dX5_passesOne_54 ?_
    refine ex_aload_n 1 dX5_passesOne_55 rfl rfl ?_
    refine ex_get (v := .ref (m + 1)) fl_X5_7 S.1 rfl dX5_passesOne_56 ?_
    refine ex_iload_n 2 dX5_passesOne_59 rfl rfl ?_
    refine ex_bipush (v := nI 8) dX5_passesOne_60 (by decide) ?_
    refine ex_iaddN dX5_passesOne_62 ?_
    refine exM_ld (p := p) (i := 8) (v := u2 8) S hp rfl (by decide) rfl dX5_passesOne_63 ?_
    refine ex_bipush (v := nI 50) dX5_passesOne_64 (by decide) ?_
    refine ex_icmp_ge (tgt := 73) dX5_passesOne_66 (by decide) (fun c_66 => ?_) (fun c_66 => ?_)
    · refine ex_aload_n 1 dX5_passesOne_73 rfl rfl ?_
      refine ex_get (v := .ref (m + 1)) fl_X5_7 S.1 rfl dX5_passesOne_74 ?_
      refine ex_iload_n 2 dX5_passesOne_77 rfl rfl ?_
      refine ex_bipush (v := nI 8) dX5_passesOne_78 (by decide) ?_
      refine ex_iaddN dX5_passesOne_80 ?_
      refine exM_ld (p := p) (i := 8) (v := u2 8) S hp rfl (by decide) rfl dX5_passesOne_81 ?_
      refine ex_bipush (v := nI 50) dX5_passesOne_82 (by decide) ?_
      refine ex_icmp_le (tgt := 91) dX5_passesOne_84 (by decide) (fun c_84 => ?_) (fun c_84 => ?_)
      · refine ex_iconst (v := nI 0) dX5_passesOne_91 (by decide) ?_
        have ec : cpI (nI 50) (u2 8) = nI 0 := cp50.2.2 (Int32.not_lt.mpr c_66) (Int32.not_lt.mpr c_84)
        refine ex_iadd dX5_passesOne_92 ?_
        refine exM_stU (p := p) (i := 8) S hp rfl (by decide) (by decide) dX5_passesOne_93 (fun h S => ?_)
        rcases g2 with _ | i
        · refine ex_aload_n 1 dX5_passesOne_94 rfl rfl ?_
          refine ex_get (v := .ref (m + 1)) fl_X5_7 S.1 rfl dX5_passesOne_95 ?_
          refine ex_iload_n 2 dX5_passesOne_98 rfl rfl ?_
          refine ex_bipush (v := nI 9) dX5_passesOne_99 (by decide) ?_
          refine ex_iaddN dX5_passesOne_101 ?_
          refine exM_ld (p := p) (i := 9) (v := (-1)) S hp rfl (by decide) rfl dX5_passesOne_102 ?_
          refine ex_if_lt (tgt := 130) dX5_passesOne_103 (by decide) (fun c_103 => ?_) (fun c_103 => absurd (by decide) c_103)
          refine ex_iload_n 0 dX5_passesOne_130 rfl rfl ?_
          exact ex_zret hQ rfl hB_n (by rw [← hE2, show eA (n, none, t2, u2, q2) = (n, none, t2, (upd u2 8 ((u2 8) + (nI 0))), q2) from by unfold eA; dsimp only; rw [ec]]; exact ⟨rfl, rfl, S⟩) dX5_passesOne_131
        · have hj : i < n := gw2 i rfl
          refine ex_aload_n 1 dX5_passesOne_94 rfl rfl ?_
          refine ex_get (v := .ref (m + 1)) fl_X5_7 S.1 rfl dX5_passesOne_95 ?_
          refine ex_iload_n 2 dX5_passesOne_98 rfl rfl ?_
          refine ex_bipush (v := nI 9) dX5_passesOne_99 (by decide) ?_
          refine ex_iaddN dX5_passesOne_101 ?_
          refine exM_ld (p := p) (i := 9) (v := nI i) S hp rfl (by decide) rfl dX5_passesOne_102 ?_
          refine ex_if_lt (tgt := 130) dX5_passesOne_103 (by decide) (fun c_103 => absurd c_103 (nI_pos (by omega))) (fun c_103 => ?_)
          refine ex_aload_n 1 dX5_passesOne_106 rfl rfl ?_
          refine ex_get (v := .ref (m + 1)) fl_X5_7 S.1 rfl dX5_passesOne_107 ?_
          refine ex_iload_n 2 dX5_passesOne_110 rfl rfl ?_
          refine ex_aload_n 1 dX5_passesOne_111 rfl rfl ?_
          refine ex_get (v := .ref (m + 1)) fl_X5_7 S.1 rfl dX5_passesOne_112 ?_
          refine ex_iload_n 2 dX5_passesOne_115 rfl rfl ?_
          refine ex_bipush (v := nI 9) dX5_passesOne_116 (by decide) ?_
          refine ex_iaddN dX5_passesOne_118 ?_
          refine exM_ld (p := p) (i := 9) (v := nI i) S hp rfl (by decide) rfl dX5_passesOne_119 ?_
          refine ex_callS0 (As := [.int (nI p), .int (nI i)]) (v := .int (nI (p + 17 + 6 * i))) vl_X5_34 (m_at) rfl (by decide) (Nat.le_of_ble_eq_true rfl) (Nat.le_refl _) (Nat.le_refl _) rfl dX5_passesOne_120 ?_
          refine ex_iconst (v := nI 5) dX5_passesOne_123 (by decide) ?_
          refine ex_iaddN dX5_passesOne_124 ?_
          refine ex_dup2 dX5_passesOne_125 rfl rfl ?_
          refine exM_ldq (p := p) (j := i) (b := 5) (v := q2 i 5) S hp rfl hj (by omega) (by decide) rfl dX5_passesOne_126 ?_
          refine ex_iconst (v := nI 1) dX5_passesOne_127 (by decide) ?_
          refine ex_iadd dX5_passesOne_128 ?_
          refine exM_stQ (p := p) (j := i) (b := 5) S hp rfl (by omega) (by decide) dX5_passesOne_129 (fun h S => ?_)
          refine ex_iload_n 0 dX5_passesOne_130 rfl rfl ?_
          exact ex_zret hQ rfl hB_n (by rw [← hE2, show eA (n, some i, t2, u2, q2) = (n, (some i), t2, (upd u2 8 ((u2 8) + (nI 0))), (uq q2 i 5 ((q2 i 5) + (nI 1)))) from by unfold eA; dsimp only; rw [ec]]; exact ⟨rfl, rfl, S⟩) dX5_passesOne_131
      · refine ex_iconst (v := (-1)) dX5_passesOne_87 (by decide) ?_
        refine ex_goto (tgt := 92) dX5_passesOne_88 (by decide) ?_
        have ec : cpI (nI 50) (u2 8) = (-1) := cp50.2.1 (Int32.not_lt.mpr c_66) (Int32.not_le.mp c_84)
        refine ex_iadd dX5_passesOne_92 ?_
        refine exM_stU (p := p) (i := 8) S hp rfl (by decide) (by decide) dX5_passesOne_93 (fun h S => ?_)
        rcases g2 with _ | i
        · refine ex_aload_n 1 dX5_passesOne_94 rfl rfl ?_
          refine ex_get (v := .ref (m + 1)) fl_X5_7 S.1 rfl dX5_passesOne_95 ?_
          refine ex_iload_n 2 dX5_passesOne_98 rfl rfl ?_
          refine ex_bipush (v := nI 9) dX5_passesOne_99 (by decide) ?_
          refine ex_iaddN dX5_passesOne_101 ?_
          refine exM_ld (p := p) (i := 9) (v := (-1)) S hp rfl (by decide) rfl dX5_passesOne_102 ?_
          refine ex_if_lt (tgt := 130) dX5_passesOne_103 (by decide) (fun c_103 => ?_) (fun c_103 => absurd (by decide) c_103)
          refine ex_iload_n 0 dX5_passesOne_130 rfl rfl ?_
          exact ex_zret hQ rfl hB_n (by rw [← hE2, show eA (n, none, t2, u2, q2) = (n, none, t2, (upd u2 8 ((u2 8) + (-1))), q2) from by unfold eA; dsimp only; rw [ec]]; exact ⟨rfl, rfl, S⟩) dX5_passesOne_131
        · have hj : i < n := gw2 i rfl
          refine ex_aload_n 1 dX5_passesOne_94 rfl rfl ?_
          refine ex_get (v := .ref (m + 1)) fl_X5_7 S.1 rfl dX5_passesOne_95 ?_
          refine ex_iload_n 2 dX5_passesOne_98 rfl rfl ?_
          refine ex_bipush (v := nI 9) dX5_passesOne_99 (by decide) ?_
          refine ex_iaddN dX5_passesOne_101 ?_
          refine exM_ld (p := p) (i := 9) (v := nI i) S hp rfl (by decide) rfl dX5_passesOne_102 ?_
          refine ex_if_lt (tgt := 130) dX5_passesOne_103 (by decide) (fun c_103 => absurd c_103 (nI_pos (by omega))) (fun c_103 => ?_)
          refine ex_aload_n 1 dX5_passesOne_106 rfl rfl ?_
          refine ex_get (v := .ref (m + 1)) fl_X5_7 S.1 rfl dX5_passesOne_107 ?_
          refine ex_iload_n 2 dX5_passesOne_110 rfl rfl ?_
          refine ex_aload_n 1 dX5_passesOne_111 rfl rfl ?_
          refine ex_get (v := .ref (m + 1)) fl_X5_7 S.1 rfl dX5_passesOne_112 ?_
          refine ex_iload_n 2 dX5_passesOne_115 rfl rfl ?_
          refine ex_bipush (v := nI 9) dX5_passesOne_116 (by decide) ?_
          refine ex_iaddN dX5_passesOne_118 ?_
          refine exM_ld (p := p) (i := 9) (v := nI i) S hp rfl (by decide) rfl dX5_passesOne_119 ?_
          refine ex_callS0 (As := [.int (nI p), .int (nI i)]) (v := .int (nI (p + 17 + 6 * i))) vl_X5_34 (m_at) rfl (by decide) (Nat.le_of_ble_eq_true rfl) (Nat.le_refl _) (Nat.le_refl _) rfl dX5_passesOne_120 ?_
          refine ex_iconst (v := nI 5) dX5_passesOne_123 (by decide) ?_
          refine ex_iaddN dX5_passesOne_124 ?_
          refine ex_dup2 dX5_passesOne_125 rfl rfl ?_
          refine exM_ldq (p := p) (j := i) (b := 5) (v := q2 i 5) S hp rfl hj (by omega) (by decide) rfl dX5_passesOne_126 ?_
          refine ex_iconst (v := nI 1) dX5_passesOne_127 (by decide) ?_
          refine ex_iadd dX5_passesOne_128 ?_
          refine exM_stQ (p := p) (j := i) (b := 5) S hp rfl (by omega) (by decide) dX5_passesOne_129 (fun h S => ?_)
          refine ex_iload_n 0 dX5_passesOne_130 rfl rfl ?_
          exact ex_zret hQ rfl hB_n (by rw [← hE2, show eA (n, some i, t2, u2, q2) = (n, (some i), t2, (upd u2 8 ((u2 8) + (-1))), (uq q2 i 5 ((q2 i 5) + (nI 1)))) from by unfold eA; dsimp only; rw [ec]]; exact ⟨rfl, rfl, S⟩) dX5_passesOne_131
    · refine ex_iconst (v := nI 1) dX5_passesOne_69 (by decide) ?_
      refine ex_goto (tgt := 92) dX5_passesOne_70 (by decide) ?_
      have ec : cpI (nI 50) (u2 8) = nI 1 := cp50.1 (Int32.not_le.mp c_66)
      refine ex_iadd dX5_passesOne_92 ?_
      refine exM_stU (p := p) (i := 8) S hp rfl (by decide) (by decide) dX5_passesOne_93 (fun h S => ?_)
      rcases g2 with _ | i
      · refine ex_aload_n 1 dX5_passesOne_94 rfl rfl ?_
        refine ex_get (v := .ref (m + 1)) fl_X5_7 S.1 rfl dX5_passesOne_95 ?_
        refine ex_iload_n 2 dX5_passesOne_98 rfl rfl ?_
        refine ex_bipush (v := nI 9) dX5_passesOne_99 (by decide) ?_
        refine ex_iaddN dX5_passesOne_101 ?_
        refine exM_ld (p := p) (i := 9) (v := (-1)) S hp rfl (by decide) rfl dX5_passesOne_102 ?_
        refine ex_if_lt (tgt := 130) dX5_passesOne_103 (by decide) (fun c_103 => ?_) (fun c_103 => absurd (by decide) c_103)
        refine ex_iload_n 0 dX5_passesOne_130 rfl rfl ?_
        exact ex_zret hQ rfl hB_n (by rw [← hE2, show eA (n, none, t2, u2, q2) = (n, none, t2, (upd u2 8 ((u2 8) + (nI 1))), q2) from by unfold eA; dsimp only; rw [ec]]; exact ⟨rfl, rfl, S⟩) dX5_passesOne_131
      · have hj : i < n := gw2 i rfl
        refine ex_aload_n 1 dX5_passesOne_94 rfl rfl ?_
        refine ex_get (v := .ref (m + 1)) fl_X5_7 S.1 rfl dX5_passesOne_95 ?_
        refine ex_iload_n 2 dX5_passesOne_98 rfl rfl ?_
        refine ex_bipush (v := nI 9) dX5_passesOne_99 (by decide) ?_
        refine ex_iaddN dX5_passesOne_101 ?_
        refine exM_ld (p := p) (i := 9) (v := nI i) S hp rfl (by decide) rfl dX5_passesOne_102 ?_
        refine ex_if_lt (tgt := 130) dX5_passesOne_103 (by decide) (fun c_103 => absurd c_103 (nI_pos (by omega))) (fun c_103 => ?_)
        refine ex_aload_n 1 dX5_passesOne_106 rfl rfl ?_
        refine ex_get (v := .ref (m + 1)) fl_X5_7 S.1 rfl dX5_passesOne_107 ?_
        refine ex_iload_n 2 dX5_passesOne_110 rfl rfl ?_
        refine ex_aload_n 1 dX5_passesOne_111 rfl rfl ?_
        refine ex_get (v := .ref (m + 1)) fl_X5_7 S.1 rfl dX5_passesOne_112 ?_
        refine ex_iload_n 2 dX5_passesOne_115 rfl rfl ?_
        refine ex_bipush (v := nI 9) dX5_passesOne_116 (by decide) ?_
        refine ex_iaddN dX5_passesOne_118 ?_
        refine exM_ld (p := p) (i := 9) (v := nI i) S hp rfl (by decide) rfl dX5_passesOne_119 ?_
        refine ex_callS0 (As := [.int (nI p), .int (nI i)]) (v := .int (nI (p + 17 + 6 * i))) vl_X5_34 (m_at) rfl (by decide) (Nat.le_of_ble_eq_true rfl) (Nat.le_refl _) (Nat.le_refl _) rfl dX5_passesOne_120 ?_
        refine ex_iconst (v := nI 5) dX5_passesOne_123 (by decide) ?_
        refine ex_iaddN dX5_passesOne_124 ?_
        refine ex_dup2 dX5_passesOne_125 rfl rfl ?_
        refine exM_ldq (p := p) (j := i) (b := 5) (v := q2 i 5) S hp rfl hj (by omega) (by decide) rfl dX5_passesOne_126 ?_
        refine ex_iconst (v := nI 1) dX5_passesOne_127 (by decide) ?_
        refine ex_iadd dX5_passesOne_128 ?_
        refine exM_stQ (p := p) (j := i) (b := 5) S hp rfl (by omega) (by decide) dX5_passesOne_129 (fun h S => ?_)
        refine ex_iload_n 0 dX5_passesOne_130 rfl rfl ?_
        exact ex_zret hQ rfl hB_n (by rw [← hE2, show eA (n, some i, t2, u2, q2) = (n, (some i), t2, (upd u2 8 ((u2 8) + (nI 1))), (uq q2 i 5 ((q2 i 5) + (nI 1)))) from by unfold eA; dsimp only; rw [ec]]; exact ⟨rfl, rfl, S⟩) dX5_passesOne_131
  refine ex_aload_n 0 dX5_passesOne_0 rfl rfl ?_
  refine ex_get (v := .ref (m + 1)) fl_X5_7 S.1 rfl dX5_passesOne_1 ?_
  refine ex_iload_n 1 dX5_passesOne_4 rfl rfl ?_
  refine ex_bipush (v := nI 6) dX5_passesOne_5 (by decide) ?_
  refine ex_iaddN dX5_passesOne_7 ?_
  refine ex_dup2 dX5_passesOne_8 rfl rfl ?_
  refine exM_ld (p := p) (i := 6) (v := u 6) S hp rfl (by decide) rfl dX5_passesOne_9 ?_
  refine ex_iconst (v := nI 1) dX5_passesOne_10 (by decide) ?_
  refine ex_iadd dX5_passesOne_11 ?_
  refine exM_stU (p := p) (i := 6) S hp rfl (by decide) (by decide) dX5_passesOne_12 (fun h S => ?_)
  refine ex_aload_n 0 dX5_passesOne_13 rfl rfl ?_
  refine ex_iload_n 1 dX5_passesOne_14 rfl rfl ?_
  refine exM_call (As := [.int (nI p)]) (r0 := (some (.int (hB (dayR (n, g, t, u, q)))))) (B := (hA (nA (n, g, t, u, q))).1) vl_X5_62 rfl S (fun S1 => m_purrs S1 hp n8 gw wf.2.2 hm) rfl (by decide) (Nat.le_of_ble_eq_true rfl) (Nat.le_refl _) (Nat.le_refl _) rfl dX5_passesOne_15 (fun h S => ?_)
  refine ex_istore_n (lv' := [(2, .int (hB (dayR (n, g, t, u, q)))), (0, .ref m), (1, .int (nI p))]) dX5_passesOne_18 rfl (by decide) rfl ?_
  have hw := hA_wf (nA_wf wf)
  have h1 : (hA (nA (n, g, t, u, q))).1.1 = n := hA_1
  have h3 : (hA (nA (n, g, t, u, q))).1.2.2.2.1 3 = u 3 := hA_u (A := nA (n, g, t, u, q)) (by decide)
  have hE : dayA (n, g, t, u, q) = eA (mA (hA (nA (n, g, t, u, q))).1) := rfl
  obtain ⟨C, hC⟩ : ∃ C : AS, C = (hA (nA (n, g, t, u, q))).1 := ⟨_, rfl⟩
  rw [← hC] at S hw h1 h3 hE
  obtain ⟨n1, g1, t1, u1, q1⟩ := C
  have h1 : n1 = n := h1
  rw [h1] at S hw hE
  have h3 : u1 3 = u 3 := h3
  have gw1 : ∀ i, g1 = some i → i < n := hw.2.1
  refine ex_aload_n 1 dX5_passesOne_19 rfl rfl ?_
  refine ex_get (v := .ref (m + 1)) fl_X5_7 S.1 rfl dX5_passesOne_20 ?_
  refine ex_iload_n 2 dX5_passesOne_23 rfl rfl ?_
  refine ex_bipush (v := nI 6) dX5_passesOne_24 (by decide) ?_
  refine ex_iaddN dX5_passesOne_26 ?_
  refine exM_ld (p := p) (i := 6) (v := u1 6) S hp rfl (by decide) rfl dX5_passesOne_27 ?_
  refine ex_aload_n 1 dX5_passesOne_28 rfl rfl ?_
  refine ex_get (v := .ref (m + 1)) fl_X5_7 S.1 rfl dX5_passesOne_29 ?_
  refine ex_iload_n 2 dX5_passesOne_32 rfl rfl ?_
  refine ex_iconst (v := nI 3) dX5_passesOne_33 (by decide) ?_
  refine ex_iaddN dX5_passesOne_34 ?_
  refine exM_ld (p := p) (i := 3) (v := u1 3) S hp rfl (by decide) rfl dX5_passesOne_35 ?_
  refine ex_irem dX5_passesOne_36 (by rw [h3]; exact fun q9 => Int32.lt_irrefl (q9 ▸ m3 : (0 : Int32) < 0)) ?_
  refine ex_if_ne (tgt := 45) dX5_passesOne_37 (by decide) (fun c_37 => ?_) (fun c_37 => ?_)
  · have eM : mA (n, g1, t1, u1, q1) = (n, g1, t1, u1, q1) := by unfold mA; dsimp only; rw [if_neg c_37]
    rw [eM] at hE
    exact TL h g1 t1 u1 q1 S gw1 hE.symm
  · refine ex_aload_n 1 dX5_passesOne_40 rfl rfl ?_
    refine ex_iload_n 2 dX5_passesOne_41 rfl rfl ?_
    refine exM_call (As := [.int (nI p)]) (r0 := none) (B := monthA (n, g1, t1, u1, q1)) vl_X5_66 rfl S (fun S1 => m_pays S1 hp n8 gw1) rfl (by decide) (Nat.le_of_ble_eq_true rfl) (Nat.le_refl _) (Nat.le_refl _) rfl dX5_passesOne_42 (fun h S => ?_)
    have eM : mA (n, g1, t1, u1, q1) = monthA (n, g1, t1, u1, q1) := by unfold mA; dsimp only; rw [if_pos c_37]
    have hw2 := monthA_wf hw
    have h2 : (monthA (n, g1, t1, u1, q1)).1 = n := monthA_1
    rw [eM] at hE
    obtain ⟨C, hC2⟩ : ∃ C : AS, C = monthA (n, g1, t1, u1, q1) := ⟨_, rfl⟩
    rw [← hC2] at S hw2 h2 hE
    obtain ⟨n2, g2, t2, u2, q2⟩ := C
    have h2 : n2 = n := h2
    rw [h2] at S hw2 hE
    exact TL h g2 t2 u2 q2 S hw2.2.1 hE.symm

