theorem seN_f {len p f : Nat} {c : Nat → Nat} (h : seN len c p = (false, f)) : f = p := by
  unfold seN at h
  cases hd : dgN len c p with
  | none => rw [hd] at h; cases h; rfl
  | some d =>
    rw [hd] at h
    dsimp only at h
    split at h
    · cases h
    · split at h <;> cases h
theorem peN_f {len p f : Nat} {c : Nat → Nat} (h : peN len c p = (false, f)) : f ≤ p + 2 := by
  unfold peN at h
  cases hd : dgN len c p with
  | none => rw [hd] at h; cases h; omega
  | some d =>
    rw [hd] at h
    dsimp only at h
    split at h
    · cases h; omega
    · split at h
      · have := seN_f h
        omega
      · cases h; omega

set_option maxRecDepth 20000 in
set_option maxHeartbeats 2000000 in
theorem m_personEnd {G : GG} {l : Launch} {h0 : HP} {z m p : Nat} {n : Nat} {g : Option Nat} {t : Nat} {u : Nat → Int32} {q : Nat → Nat → Int32} {k len : Nat} {L : Nat → AS} {V : Nat → Option AS} {c : Nat → Nat} (S0 : MP G h0 m ((n, g, t, u, q), k, L, V, len, c)) (hc : ∀ i, i < len → c i < 65536) (hp : p ≤ 61) : Ct G l 3 0 0 yX5_personEnd cX5_personEnd 2 (some .int) [.ref m, .int (nI p)] h0 z (p0 (.int (rsI (peN len c p))) h0 z) := by
  refine Ct.intro (lv := [(0, .ref m), (1, .int (nI p))]) (by decide +kernel) (Nat.le_of_ble_eq_true rfl) rfl (fun X Q hQ hnm => ?_)
  have S := S0
  rcases hd : dgN len c p with _ | d0
  · refine ex_aload_n 0 dX5_personEnd_0 rfl rfl ?_
    refine ex_iload_n 1 dX5_personEnd_1 rfl rfl ?_
    refine ex_call0 (As := [.int (nI p)]) (v := .int (dgI (dgN len c p))) (ci := 5) vl_X5_120 rfl (m_digit S hc (by omega)) S.ob rfl (by decide) (Nat.le_of_ble_eq_true rfl) (Nat.le_refl _) (Nat.le_refl _) rfl dX5_personEnd_2 ?_
    rw [hd]
    refine ex_iconst (v := nI 1) dX5_personEnd_5 (by decide) ?_
    refine ex_icmp_ge (tgt := 13) dX5_personEnd_6 (by decide) (fun c_6 => absurd c_6 (by decide)) (fun c_6 => ?_)
    refine ex_iconst (v := (-1)) dX5_personEnd_9 (by decide) ?_
    refine ex_iload_n 1 dX5_personEnd_10 rfl rfl ?_
    refine ex_isub dX5_personEnd_11 ?_
    have ep : peN len c p = (false, p) := by
      unfold peN
      rw [hd]
    exact ex_iret hQ rfl ⟨by rw [ep]; rfl, rfl, rfl⟩ dX5_personEnd_12
  · have q0 := dgN_s hd
    by_cases z0 : d0 = 0
    · refine ex_aload_n 0 dX5_personEnd_0 rfl rfl ?_
      refine ex_iload_n 1 dX5_personEnd_1 rfl rfl ?_
      refine ex_call0 (As := [.int (nI p)]) (v := .int (dgI (dgN len c p))) (ci := 5) vl_X5_120 rfl (m_digit S hc (by omega)) S.ob rfl (by decide) (Nat.le_of_ble_eq_true rfl) (Nat.le_refl _) (Nat.le_refl _) rfl dX5_personEnd_2 ?_
      rw [hd]
      refine ex_iconst (v := nI 1) dX5_personEnd_5 (by decide) ?_
      refine ex_icmp_ge (tgt := 13) dX5_personEnd_6 (by decide) (fun c_6 => absurd c_6 (fun q9 => absurd ((nI_leI (by omega) (by omega)).mp q9) (by omega))) (fun c_6 => ?_)
      refine ex_iconst (v := (-1)) dX5_personEnd_9 (by decide) ?_
      refine ex_iload_n 1 dX5_personEnd_10 rfl rfl ?_
      refine ex_isub dX5_personEnd_11 ?_
      have ep : peN len c p = (false, p) := by
        unfold peN
        rw [hd]
        dsimp only
        rw [if_pos z0]
      exact ex_iret hQ rfl ⟨by rw [ep]; rfl, rfl, rfl⟩ dX5_personEnd_12
    · by_cases hf : p + 1 < len ∧ c (p + 1) = 102
      · have hs1 : sgI len c (p + 1) = nI 102 := by unfold sgI; rw [if_pos hf.1, hf.2]
        refine ex_aload_n 0 dX5_personEnd_0 rfl rfl ?_
        refine ex_iload_n 1 dX5_personEnd_1 rfl rfl ?_
        refine ex_call0 (As := [.int (nI p)]) (v := .int (dgI (dgN len c p))) (ci := 5) vl_X5_120 rfl (m_digit S hc (by omega)) S.ob rfl (by decide) (Nat.le_of_ble_eq_true rfl) (Nat.le_refl _) (Nat.le_refl _) rfl dX5_personEnd_2 ?_
        rw [hd]
        refine ex_iconst (v := nI 1) dX5_personEnd_5 (by decide) ?_
        refine ex_icmp_ge (tgt := 13) dX5_personEnd_6 (by decide) (fun c_6 => ?_) (fun c_6 => absurd ((nI_leI (by omega) (by omega)).mpr (by omega)) c_6)
        refine ex_aload_n 0 dX5_personEnd_13 rfl rfl ?_
        refine ex_iload_n 1 dX5_personEnd_14 rfl rfl ?_
        refine ex_iconst (v := nI 1) dX5_personEnd_15 (by decide) ?_
        refine ex_iaddN dX5_personEnd_16 ?_
        refine ex_call0 (As := [.int (nI (p + 1))]) (v := .int (sgI len c (p + 1))) (ci := 5) vl_X5_117 rfl (m_sign S (by omega)) S.ob rfl (by decide) (Nat.le_of_ble_eq_true rfl) (Nat.le_refl _) (Nat.le_refl _) rfl dX5_personEnd_17 ?_
        rw [hs1]
        refine ex_bipush (v := nI 102) dX5_personEnd_20 (by decide) ?_
        refine ex_icmp_ne (tgt := 35) dX5_personEnd_22 (by decide) (fun c_22 => absurd (by decide) c_22) (fun c_22 => ?_)
        refine ex_aload_n 0 dX5_personEnd_25 rfl rfl ?_
        refine ex_iload_n 1 dX5_personEnd_26 rfl rfl ?_
        refine ex_iconst (v := nI 2) dX5_personEnd_27 (by decide) ?_
        refine ex_iaddN dX5_personEnd_28 ?_
        refine ex_call0 (As := [.int (nI (p + 2))]) (v := .int (rsI (seN len c (p + 2)))) (ci := 5) vl_X5_123 rfl (m_shareEnd S hc (by omega)) S.ob rfl (by decide) (Nat.le_of_ble_eq_true rfl) (Nat.le_refl _) (Nat.le_refl _) rfl dX5_personEnd_29 ?_
        refine ex_goto (tgt := 39) dX5_personEnd_32 (by decide) ?_
        have ep : peN len c p = seN len c (p + 2) := by
          unfold peN
          rw [hd]
          dsimp only
          rw [if_neg z0, if_pos hf]
        exact ex_iret hQ rfl ⟨by rw [ep], rfl, rfl⟩ dX5_personEnd_39
      · have hs1 : ¬ sgI len c (p + 1) = nI 102 := fun q9 => by
          unfold sgI at q9
          split at q9
          · rename_i hi
            exact hf ⟨hi, (nI_eq (by have := hc _ hi; omega) (by decide)).mp q9⟩
          · exact absurd q9 (by decide)
        refine ex_aload_n 0 dX5_personEnd_0 rfl rfl ?_
        refine ex_iload_n 1 dX5_personEnd_1 rfl rfl ?_
        refine ex_call0 (As := [.int (nI p)]) (v := .int (dgI (dgN len c p))) (ci := 5) vl_X5_120 rfl (m_digit S hc (by omega)) S.ob rfl (by decide) (Nat.le_of_ble_eq_true rfl) (Nat.le_refl _) (Nat.le_refl _) rfl dX5_personEnd_2 ?_
        rw [hd]
        refine ex_iconst (v := nI 1) dX5_personEnd_5 (by decide) ?_
        refine ex_icmp_ge (tgt := 13) dX5_personEnd_6 (by decide) (fun c_6 => ?_) (fun c_6 => absurd ((nI_leI (by omega) (by omega)).mpr (by omega)) c_6)
        refine ex_aload_n 0 dX5_personEnd_13 rfl rfl ?_
        refine ex_iload_n 1 dX5_personEnd_14 rfl rfl ?_
        refine ex_iconst (v := nI 1) dX5_personEnd_15 (by decide) ?_
        refine ex_iaddN dX5_personEnd_16 ?_
        refine ex_call0 (As := [.int (nI (p + 1))]) (v := .int (sgI len c (p + 1))) (ci := 5) vl_X5_117 rfl (m_sign S (by omega)) S.ob rfl (by decide) (Nat.le_of_ble_eq_true rfl) (Nat.le_refl _) (Nat.le_refl _) rfl dX5_personEnd_17 ?_
        refine ex_bipush (v := nI 102) dX5_personEnd_20 (by decide) ?_
        refine ex_icmp_ne (tgt := 35) dX5_personEnd_22 (by decide) (fun c_22 => ?_) (fun c_22 => absurd c_22 (hs1))
        refine ex_bipush (v := (-2)) dX5_personEnd_35 (by decide) ?_
        refine ex_iload_n 1 dX5_personEnd_37 rfl rfl ?_
        refine ex_isub dX5_personEnd_38 ?_
        have ep : peN len c p = (false, p + 1) := by
          unfold peN
          rw [hd]
          dsimp only
          rw [if_neg z0, if_neg hf]
        exact ex_iret hQ rfl ⟨by rw [ep]; exact congrArg (fun x => some (Value.int x)) rsI_2, rfl, rfl⟩ dX5_personEnd_39

set_option maxRecDepth 20000 in
set_option maxHeartbeats 2000000 in
theorem m_faultR {G : GG} {l : Launch} {h0 : HP} {z m : Nat} {n : Nat} {g : Option Nat} {t : Nat} {u : Nat → Int32} {q : Nat → Nat → Int32} {k len : Nat} {L : Nat → AS} {V : Nat → Option AS} {c : Nat → Nat} (S0 : MP G h0 m ((n, g, t, u, q), k, L, V, len, c)) (hc : ∀ i, i < len → c i < 65536) : Ct G l 4 0 0 yX5_fault cX5_fault 4 (some .int) [.ref m] h0 z (p0 (.int (ffV (ffA len c))) h0 z) := by
  refine Ct.intro (lv := [(0, .ref m)]) (by decide +kernel) (Nat.le_of_ble_eq_true rfl) rfl (fun X Q hQ hnm => ?_)
  have S := S0
  have l60 : len ≤ 60 := by obtain ⟨fs, fp, fl, fw, fd, s1, s2⟩ := S0; exact s2.2.2.2.2.2
  refine ex_iconst (v := nI 0) dX5_fault_0 (by decide) ?_
  refine ex_istore_n (lv' := [(1, .int (nI 0)), (0, .ref m)]) dX5_fault_1 rfl (by decide) rfl ?_
  refine ex_iconst (v := nI 0) dX5_fault_2 (by decide) ?_
  refine ex_istore_n (lv' := [(2, .int (nI 0)), (1, .int (nI 0)), (0, .ref m)]) dX5_fault_3 rfl (by decide) rfl ?_
  suffices H : ∀ (F r p : Nat), len - p < F → p ≤ len → 4 * r ≤ p → ffG len c (len - p) p 0 (nI 0) = ffA len c → ex G l X Q 4 0 0 0 0 cX5_fault yX5_fault.cls 4 (some .int) h0 z 4 [(2, .int (nI r)), (1, .int (nI p)), (0, .ref m)] [] from by
    have e2 := H (len + 1) 0 0 (by omega) (by omega) (by omega) rfl
    refine ex_lv (lv2 := [(2, .int (nI 0)), (1, .int (nI 0)), (0, .ref m)]) [0, 1, 2] rfl ?_
    exact e2
  intro F
  induction F with
  | zero => intro r p hF; omega
  | succ F ih =>
    intro r p hF hp hr hh
    rw [ff_person (by omega)] at hh
    refine ex_iload_n 0 dX5_fault_4 rfl rfl ?_
    refine ex_bipush (v := nI 60) dX5_fault_5 (by decide) ?_
    refine ex_icmp_ge (tgt := 57) dX5_fault_7 (by decide) (fun c_7 => absurd c_7 (fun q9 => absurd ((nI_leI (by omega) (by omega)).mp q9) (by omega))) (fun c_7 => ?_)
    rcases hr2 : peN len c p with ⟨_ | _, e⟩
    · have hf := peN_f hr2
      rw [hr2] at hh
      refine ex_aload_n 2 dX5_fault_10 rfl rfl ?_
      refine ex_iload_n 1 dX5_fault_11 rfl rfl ?_
      refine ex_call0 (As := [.int (nI p)]) (v := .int (rsI (peN len c p))) (ci := 5) vl_X5_126 rfl (m_personEnd S hc (by omega)) S.ob rfl (by decide) (Nat.le_of_ble_eq_true rfl) (Nat.le_refl _) (Nat.le_refl _) rfl dX5_fault_12 ?_
      rw [hr2]
      refine ex_istore_n (lv' := [(3, .int (rsI (false, e))), (2, .int (nI r)), (1, .int (nI p)), (0, .ref m)]) dX5_fault_15 rfl (by decide) rfl ?_
      refine ex_iload_n 0 dX5_fault_16 rfl rfl ?_
      refine ex_if_ge (tgt := 24) dX5_fault_17 (by decide) (fun c_17 => absurd c_17 (Int32.not_le.mpr (rsI_f (by omega)))) (fun c_17 => ?_)
      refine ex_iconst (v := (-1)) dX5_fault_20 (by decide) ?_
      refine ex_iload_n 0 dX5_fault_21 rfl rfl ?_
      refine ex_isub dX5_fault_22 ?_
      exact ex_iret hQ rfl ⟨congrArg (fun x => some (Value.int x)) (by show (-1) - rsI (false, e) = ffV (ffA len c); rw [rsI_n, ← hh]; rfl), rfl, rfl⟩ dX5_fault_23
    · obtain ⟨g1, g2, g3⟩ := peN_c hr2
      rw [hr2] at hh
      have hh : tlN len c e = ffA len c := hh
      refine ex_aload_n 2 dX5_fault_10 rfl rfl ?_
      refine ex_iload_n 1 dX5_fault_11 rfl rfl ?_
      refine ex_call0 (As := [.int (nI p)]) (v := .int (rsI (peN len c p))) (ci := 5) vl_X5_126 rfl (m_personEnd S hc (by omega)) S.ob rfl (by decide) (Nat.le_of_ble_eq_true rfl) (Nat.le_refl _) (Nat.le_refl _) rfl dX5_fault_12 ?_
      rw [hr2]
      have eR : rsI (true, e) = nI e := rfl
      rw [eR]
      refine ex_istore_n (lv' := [(3, .int (nI e)), (2, .int (nI r)), (1, .int (nI p)), (0, .ref m)]) dX5_fault_15 rfl (by decide) rfl ?_
      refine ex_iload_n 0 dX5_fault_16 rfl rfl ?_
      refine ex_if_ge (tgt := 24) dX5_fault_17 (by decide) (fun c_17 => ?_) (fun c_17 => absurd (nI_pos' (by omega)) c_17)
      refine ex_iload_n 0 dX5_fault_24 rfl rfl ?_
      refine ex_aload_n 3 dX5_fault_25 rfl rfl ?_
      refine ex_get (v := .int (nI len)) fl_X5_109 S.ob rfl dX5_fault_26 ?_
      refine ex_icmp_ne (tgt := 35) dX5_fault_29 (by decide) (fun c_29 => ?_) (fun c_29 => ?_)
      · have n_29 : ¬ (e = len) := fun q9 => c_29 ((nI_eq (by omega) (by omega)).mpr q9)
        refine ex_aload_n 3 dX5_fault_35 rfl rfl ?_
        refine ex_iload_n 0 dX5_fault_36 rfl rfl ?_
        refine ex_call0 (As := [.int (nI e)]) (v := .int (sgI len c e)) (ci := 5) vl_X5_117 rfl (m_sign S (by omega)) S.ob rfl (by decide) (Nat.le_of_ble_eq_true rfl) (Nat.le_refl _) (Nat.le_refl _) rfl dX5_fault_37 ?_
        have hel : e < len := by omega
        have he65 := hc e hel
        rw [show sgI len c e = nI (c e) from if_pos hel]
        refine ex_bipush (v := nI 44) dX5_fault_40 (by decide) ?_
        refine ex_icmp_eq (tgt := 47) dX5_fault_42 (by decide) (fun c_42 => ?_) (fun c_42 => ?_)
        · have n_42 : (c e) = 44 := (nI_eq (by omega) (by omega)).mp c_42
          refine ex_iload_n 0 dX5_fault_47 rfl rfl ?_
          refine ex_iconst (v := nI 1) dX5_fault_48 (by decide) ?_
          refine ex_iaddN dX5_fault_49 ?_
          refine ex_istore_n (lv' := [(1, .int (nI (e + 1))), (3, .int (nI e)), (2, .int (nI r)), (0, .ref m)]) dX5_fault_50 rfl (by decide) rfl ?_
          refine ex_iinc (v := nI (r + 1)) (lv' := [(2, .int (nI (r + 1))), (1, .int (nI (e + 1))), (3, .int (nI e)), (0, .ref m)]) 2 dX5_fault_51 rfl (nI_1 r) (by decide) rfl ?_
          refine ex_goto (tgt := 4) dX5_fault_54 (by decide) ?_
          have e2 := ih (r + 1) (e + 1) (by omega) (by omega) (by omega) (by rw [← hh]; unfold tlN; rw [if_neg n_29, if_pos n_42])
          refine ex_lv (lv2 := [(2, .int (nI (r + 1))), (1, .int (nI (e + 1))), (0, .ref m)]) [0, 1, 3] rfl ?_
          exact e2
        · have n_42 : ¬ ((c e) = 44) := fun q9 => c_42 ((nI_eq (by omega) (by omega)).mpr q9)
          refine ex_iload_n 0 dX5_fault_45 rfl rfl ?_
          exact ex_iret hQ rfl ⟨congrArg (fun x => some (Value.int x)) (by show _ = ffV (ffA len c); rw [← hh]; unfold tlN; rw [if_neg n_29, if_neg n_42]; rfl), rfl, rfl⟩ dX5_fault_46
      · have n_29 : e = len := (nI_eq (by omega) (by omega)).mp c_29
        refine ex_bipush (v := (-6)) dX5_fault_32 (by decide) ?_
        exact ex_iret hQ rfl ⟨congrArg (fun x => some (Value.int x)) (by show _ = ffV (ffA len c); rw [← hh]; unfold tlN; rw [if_pos n_29]; rfl), rfl, rfl⟩ dX5_fault_34

set_option maxRecDepth 20000 in
set_option maxHeartbeats 2000000 in
theorem m_people {G : GG} {l : Launch} {h0 : HP} {z m : Nat} {n : Nat} {g : Option Nat} {t : Nat} {u : Nat → Int32} {q : Nat → Nat → Int32} {k len : Nat} {L : Nat → AS} {V : Nat → Option AS} {c : Nat → Nat} (S0 : MP G h0 m ((n, g, t, u, q), k, L, V, len, c)) (hc : ∀ i, i < len → c i < 65536) (hok : ffA len c = none) : Ct G l 4 0 0 yX5_peopleOfPad cX5_peopleOfPad 3 (some .int) [.ref m] h0 z (p0 (.int (nI (1 + cms c len))) h0 z) := by
  refine Ct.intro (lv := [(0, .ref m)]) (by decide +kernel) (Nat.le_of_ble_eq_true rfl) rfl (fun X Q hQ hnm => ?_)
  have S := S0
  have l60 : len ≤ 60 := by obtain ⟨fs, fp, fl, fw, fd, s1, s2⟩ := S0; exact s2.2.2.2.2.2
  refine ex_iconst (v := nI 0) dX5_peopleOfPad_0 (by decide) ?_
  refine ex_istore_n (lv' := [(1, .int (nI 0)), (0, .ref m)]) dX5_peopleOfPad_1 rfl (by decide) rfl ?_
  refine ex_iconst (v := nI 0) dX5_peopleOfPad_2 (by decide) ?_
  refine ex_istore_n (lv' := [(2, .int (nI 0)), (1, .int (nI 0)), (0, .ref m)]) dX5_peopleOfPad_3 rfl (by decide) rfl ?_
  suffices H : ∀ (F a p : Nat), len + 1 - p < F → ((p ≤ len ∧ ffG len c (len - p) p 0 (nI 0) = none ∧ a = cms c p) ∨ (p = len + 1 ∧ a = 1 + cms c len)) → ex G l X Q 4 0 0 0 0 cX5_peopleOfPad yX5_peopleOfPad.cls 3 (some .int) h0 z 4 [(2, .int (nI p)), (1, .int (nI a)), (0, .ref m)] [] from by
    have e2 := H (len + 2) 0 0 (by omega) (Or.inl ⟨by omega, hok, rfl⟩)
    refine ex_lv (lv2 := [(2, .int (nI 0)), (1, .int (nI 0)), (0, .ref m)]) [0, 1, 2] rfl ?_
    exact e2
  intro F
  induction F with
  | zero => intro a p hF; omega
  | succ F ih =>
    intro a p hF hI
    rcases hI with ⟨hp, hn, ha⟩ | ⟨hp, ha⟩
    · obtain ⟨e, he, hn2⟩ := okT hp hn
      obtain ⟨g1, g2, g3⟩ := peN_c he
      refine ex_iload_n 0 dX5_peopleOfPad_4 rfl rfl ?_
      refine ex_aload_n 2 dX5_peopleOfPad_5 rfl rfl ?_
      refine ex_get (v := .int (nI len)) fl_X5_109 S.ob rfl dX5_peopleOfPad_6 ?_
      refine ex_icmp_ge (tgt := 26) dX5_peopleOfPad_9 (by decide) (fun c_9 => absurd c_9 (fun q9 => absurd ((nI_leI (by omega) (by omega)).mp q9) (by omega))) (fun c_9 => ?_)
      refine ex_iinc (v := nI (a + 1)) (lv' := [(1, .int (nI (a + 1))), (2, .int (nI p)), (0, .ref m)]) 1 dX5_peopleOfPad_12 rfl (nI_1 a) (by decide) rfl ?_
      refine ex_aload_n 2 dX5_peopleOfPad_15 rfl rfl ?_
      refine ex_iload_n 1 dX5_peopleOfPad_16 rfl rfl ?_
      refine ex_call0 (As := [.int (nI p)]) (v := .int (rsI (peN len c p))) (ci := 5) vl_X5_126 rfl (m_personEnd S hc (by omega)) S.ob rfl (by decide) (Nat.le_of_ble_eq_true rfl) (Nat.le_refl _) (Nat.le_refl _) rfl dX5_peopleOfPad_17 ?_
      rw [he]
      have eR : rsI (true, e) = nI e := rfl
      rw [eR]
      refine ex_iconst (v := nI 1) dX5_peopleOfPad_20 (by decide) ?_
      refine ex_iaddN dX5_peopleOfPad_21 ?_
      refine ex_istore_n (lv' := [(2, .int (nI (e + 1))), (1, .int (nI (a + 1))), (0, .ref m)]) dX5_peopleOfPad_22 rfl (by decide) rfl ?_
      refine ex_goto (tgt := 4) dX5_peopleOfPad_23 (by decide) ?_
      have e2 := ih (a + 1) (e + 1) (by omega) (by
        rcases hn2 with z | ⟨z1, z2, z3⟩
        · exact Or.inr ⟨by omega, by rw [← z, g3]; omega⟩
        · exact Or.inl ⟨by omega, z3, by rw [cms, if_pos z2, g3, ha]⟩)
      refine ex_lv (lv2 := [(2, .int (nI (e + 1))), (1, .int (nI (a + 1))), (0, .ref m)]) [0, 1, 2] rfl ?_
      exact e2
    · refine ex_iload_n 0 dX5_peopleOfPad_4 rfl rfl ?_
      refine ex_aload_n 2 dX5_peopleOfPad_5 rfl rfl ?_
      refine ex_get (v := .int (nI len)) fl_X5_109 S.ob rfl dX5_peopleOfPad_6 ?_
      refine ex_icmp_ge (tgt := 26) dX5_peopleOfPad_9 (by decide) (fun c_9 => ?_) (fun c_9 => absurd ((nI_leI (by omega) (by omega)).mpr (by omega)) c_9)
      refine ex_iload_n 1 dX5_peopleOfPad_26 rfl rfl ?_
      exact ex_iret hQ rfl ⟨by rw [ha], rfl, rfl⟩ dX5_peopleOfPad_27

