theorem m_comesA {G : GG} {l : Launch} {h0 : HP} {z m kk len : Nat} {A : AS} (S0 : RP G h0 m kk len 0 A) (h8 : A.1 < 8) {x y : Int32} : Ct G l 1 0 0 yX5_comes cX5_comes 5 none [.ref m, .int x, .int y] h0 z (pR G none h0 z m kk len 0 (admA A x y)) := by
  obtain ⟨n, g, t, u, q⟩ := A
  exact m_comes S0 h8
theorem adm8_lt {A : AS} {w s : Int32} (h : A.1 < 8) : adm8 A w s = admA A w s := if_pos h
/-- any state may be read as a tuple -/
theorem CX_eta (x : CX) : x = ((x.1.1, x.1.2.1, x.1.2.2.1, x.1.2.2.2.1, x.1.2.2.2.2), x.2.1, x.2.2.1, x.2.2.2.1, x.2.2.2.2.1, x.2.2.2.2.2) := rfl

theorem cms_mono {c : Nat → Nat} {p q : Nat} (h : p ≤ q) : cms c p ≤ cms c q := by
  induction q with
  | zero => rw [show p = 0 by omega]; exact Nat.le_refl _
  | succ q ih =>
    by_cases e : p = q + 1
    · rw [e]; exact Nat.le_refl _
    · have := ih (by omega)
      show cms c p ≤ (if c q = 44 then cms c q + 1 else cms c q)
      split <;> omega
theorem cms_le2 {len p e : Nat} {c : Nat → Nat} (hp : p ≤ len) (hn : e = len ∨ (e < len ∧ c e = 44 ∧ ffG len c (len - (e + 1)) (e + 1) 0 (nI 0) = none)) (g : cms c e = cms c p) : cms c p ≤ cms c len := cms_mono hp

set_option maxRecDepth 20000 in
set_option maxHeartbeats 2000000 in
theorem m_read {G : GG} {l : Launch} {h0 : HP} {z m : Nat} {n : Nat} {g : Option Nat} {t : Nat} {u : Nat → Int32} {q : Nat → Nat → Int32} {k len : Nat} {L : Nat → AS} {V : Nat → Option AS} {c : Nat → Nat} (S0 : MP G h0 m ((n, g, t, u, q), k, L, V, len, c)) (n8 : n ≤ 8) (nL : ∀ j, j < k → (L j).1 ≤ 8) (hc : ∀ i, i < len → c i < 65536) : Ct G l 5 0 0 yX5_read cX5_read 2 (some .int) [.ref m] h0 z (pM G (X_read ((n, g, t, u, q), k, L, V, len, c)) h0 z m) := by
  refine Ct.intro (lv := [(0, .ref m)]) (by decide +kernel) (Nat.le_of_ble_eq_true rfl) rfl (fun X Q hQ hnm => ?_)
  have S := S0
  have l60 : len ≤ 60 := by obtain ⟨fs, fp, fl, fw, fd, s1, s2⟩ := S0; exact s2.2.2.2.2.2
  have hcm := cms_le (c := c) len
  rcases hf : ffA len c with _ | i
  · refine ex_aload_n 0 dX5_read_0 rfl rfl ?_
    refine ex_call0 (As := []) (v := .int (ffV (ffA len c))) (ci := 5) vl_X5_129 rfl (m_faultR (S.kept (fun _ _ _ => rfl)) hc) S.ob rfl (by decide) (Nat.le_of_ble_eq_true rfl) (Nat.le_refl _) (Nat.le_refl _) rfl dX5_read_1 ?_
    refine ex_bipush (v := (-6)) dX5_read_4 (by decide) ?_
    refine ex_icmp_eq (tgt := 12) dX5_read_6 (by decide) (fun c_6 => ?_) (fun c_6 => absurd (by rw [hf]; rfl) c_6)
    refine ex_aload_n 0 dX5_read_12 rfl rfl ?_
    refine ex_get (v := .ref (m + 1)) fl_X5_7 S.ob rfl dX5_read_13 ?_
    refine ex_bipush (v := nI 7) dX5_read_16 (by decide) ?_
    refine exM_ld (p := 0) (i := 7) (v := nI n) S.rp.rf (by decide) rfl (by decide) rfl dX5_read_18 ?_
    refine ex_aload_n 0 dX5_read_19 rfl rfl ?_
    refine ex_call0 (As := []) (v := .int (nI (1 + cms c len))) (ci := 5) vl_X5_133 rfl (m_people (S.kept (fun _ _ _ => rfl)) hc hf) S.ob rfl (by decide) (Nat.le_of_ble_eq_true rfl) (Nat.le_refl _) (Nat.le_refl _) rfl dX5_read_20 ?_
    refine ex_iaddN dX5_read_23 ?_
    refine ex_bipush (v := nI 8) dX5_read_24 (by decide) ?_
    refine ex_icmp_le (tgt := 32) dX5_read_26 (by decide) (fun c_26 => ?_) (fun c_26 => ?_)
    · have n_26 : (n + (1 + cms c len)) ≤ 8 := (nI_leI (by omega) (by omega)).mp c_26
      refine ex_aload_n 0 dX5_read_32 rfl rfl ?_
      refine ex_callV (As := []) (ci := 5) vl_X5_87 rfl (m_rem (S.kept (fun _ _ _ => rfl)) n8 nL) S.ob rfl (by decide) (Nat.le_of_ble_eq_true rfl) (Nat.le_refl _) (Nat.le_refl _) rfl dX5_read_33 (fun r9 h9 z9 hp9 => ?_)
      obtain ⟨rfl, rfl, S9⟩ := hp9
      have S : MF G h0 h9 m ((n, g, t, u, q), (if k < 6 then k + 1 else 6), (recR k L (n, g, t, u, q)), V, len, c) := S.trans S9
      clear S9
      refine ex_iconst (v := nI 0) dX5_read_36 (by decide) ?_
      refine ex_istore_n (lv' := [(1, .int (nI 0)), (0, .ref m)]) dX5_read_37 rfl (by decide) rfl ?_
      suffices H : ∀ (F p : Nat) (h : HP) (B : AS), len + 1 - p < F → ((p ≤ len ∧ ffG len c (len - p) p 0 (nI 0) = none ∧ apG len c (len + 1 - p) p (nI 0) (nI 0) B = apG len c (len + 1) 0 (nI 0) (nI 0) (n, g, t, u, q) ∧ B.1 + (1 + cms c len) ≤ 8 + cms c p) ∨ (p = len + 1 ∧ B = apG len c (len + 1) 0 (nI 0) (nI 0) (n, g, t, u, q))) → MF G h0 h m (B, (if k < 6 then k + 1 else 6), (recR k L (n, g, t, u, q)), V, len, c) → ex G l X Q 5 0 0 0 0 cX5_read yX5_read.cls 2 (some .int) h z9 38 [(1, .int (nI p)), (0, .ref m)] [] from by
        have e2 := H (len + 2) 0 h9 (n, g, t, u, q) (by omega) (Or.inl ⟨by omega, hf, rfl, by show n + (1 + cms c len) ≤ 8 + 0; omega⟩) S
        refine ex_lv (lv2 := [(1, .int (nI 0)), (0, .ref m)]) [0, 1] rfl ?_
        exact e2
      intro F
      induction F with
      | zero => intro p h B hF; omega
      | succ F ih =>
        intro p h B hF hI S
        rcases hI with ⟨hp, hn, hA, hB8⟩ | ⟨hp, hA⟩
        · obtain ⟨e, he, hn2⟩ := okT hp hn
          obtain ⟨g1, g2, g3⟩ := peN_c he
          obtain ⟨d0, hd, hap⟩ := apG_person (A := B) he (hn2.imp (fun z => z) (fun z => z.2.1)) (show p + (len + 1 - p) = len + 1 by omega)
          obtain ⟨d1, x1, x2, x3, x4, hse⟩ := peN_t he
          have hcms : cms c p ≤ cms c len := cms_mono hp
          have hb8 : B.1 < 8 := by have := cms_le2 hp hn2 g3; omega
          refine ex_iload_n 0 dX5_read_38 rfl rfl ?_
          refine ex_aload_n 1 dX5_read_39 rfl rfl ?_
          refine ex_get (v := .int (nI len)) fl_X5_109 S.ob rfl dX5_read_40 ?_
          refine ex_icmp_ge (tgt := 73) dX5_read_43 (by decide) (fun c_43 => absurd c_43 (fun q9 => absurd ((nI_leI (by omega) (by omega)).mp q9) (by omega))) (fun c_43 => ?_)
          refine ex_aload_n 1 dX5_read_46 rfl rfl ?_
          refine ex_aload_n 1 dX5_read_47 rfl rfl ?_
          refine ex_iload_n 0 dX5_read_48 rfl rfl ?_
          refine ex_call0 (As := [.int (nI p)]) (v := .int (dgI (dgN len c p))) (ci := 5) vl_X5_120 rfl (m_digit (S.kept (fun _ _ _ => rfl)) hc (by omega)) S.ob rfl (by decide) (Nat.le_of_ble_eq_true rfl) (Nat.le_refl _) (Nat.le_refl _) rfl dX5_read_49 ?_
          rw [hd]
          refine ex_aload_n 1 dX5_read_52 rfl rfl ?_
          refine ex_iload_n 0 dX5_read_53 rfl rfl ?_
          refine ex_iconst (v := nI 2) dX5_read_54 (by decide) ?_
          refine ex_iaddN dX5_read_55 ?_
          refine ex_call0 (As := [.int (nI (p + 2))]) (v := .int (nI (shV c (p + 2) (e - (p + 2))))) (ci := 5) vl_X5_136 rfl (m_shareAt (S.kept (fun _ _ _ => rfl)) hc (by omega) hse) S.ob rfl (by decide) (Nat.le_of_ble_eq_true rfl) (Nat.le_refl _) (Nat.le_refl _) rfl dX5_read_56 ?_
          refine exM_call (As := [.int (nI d0), .int (nI (shV c (p + 2) (e - (p + 2))))]) (r0 := none) (B := (admA B (nI d0) (nI (shV c (p + 2) (e - (p + 2)))))) vl_X5_90 rfl S.rp.rf (fun S1 => m_comesA S1 hb8) rfl (by decide) (Nat.le_of_ble_eq_true rfl) (Nat.le_refl _) (Nat.le_refl _) rfl dX5_read_59 (fun h N => ?_)
          have S : MF G h0 h m ((admA B (nI d0) (nI (shV c (p + 2) (e - (p + 2))))), (if k < 6 then k + 1 else 6), (recR k L (n, g, t, u, q)), V, len, c) := S.now N
          refine ex_aload_n 1 dX5_read_62 rfl rfl ?_
          refine ex_iload_n 0 dX5_read_63 rfl rfl ?_
          refine ex_call0 (As := [.int (nI p)]) (v := .int (rsI (peN len c p))) (ci := 5) vl_X5_126 rfl (m_personEnd (S.kept (fun _ _ _ => rfl)) hc (by omega)) S.ob rfl (by decide) (Nat.le_of_ble_eq_true rfl) (Nat.le_refl _) (Nat.le_refl _) rfl dX5_read_64 ?_
          rw [he]
          have eR : rsI (true, e) = nI e := rfl
          rw [eR]
          refine ex_iconst (v := nI 1) dX5_read_67 (by decide) ?_
          refine ex_iaddN dX5_read_68 ?_
          refine ex_istore_n (lv' := [(1, .int (nI (e + 1))), (0, .ref m)]) dX5_read_69 rfl (by decide) rfl ?_
          refine ex_goto (tgt := 38) dX5_read_70 (by decide) ?_
          rw [adm8_lt hb8] at hap
          have e2 := ih (e + 1) h _ (by omega) (by
            rcases hn2 with z | ⟨z1, z2, z3⟩
            · refine Or.inr ⟨by omega, ?_⟩
              rw [← hA, hap, show len - e = 0 by omega]
              rfl
            · refine Or.inl ⟨by omega, z3, ?_, ?_⟩
              · rw [← hA, hap, show len + 1 - (e + 1) = len - e by omega]
              · rw [admA_1, cms, if_pos z2, g3]
                omega) S
          refine ex_lv (lv2 := [(1, .int (nI (e + 1))), (0, .ref m)]) [0, 1] rfl ?_
          exact e2
        · refine ex_iload_n 0 dX5_read_38 rfl rfl ?_
          refine ex_aload_n 1 dX5_read_39 rfl rfl ?_
          refine ex_get (v := .int (nI len)) fl_X5_109 S.ob rfl dX5_read_40 ?_
          refine ex_icmp_ge (tgt := 73) dX5_read_43 (by decide) (fun c_43 => ?_) (fun c_43 => absurd ((nI_leI (by omega) (by omega)).mpr (by omega)) c_43)
          refine ex_aload_n 1 dX5_read_73 rfl rfl ?_
          refine ex_iconst (v := nI 0) dX5_read_74 (by decide) ?_
          obtain ⟨fs, fp, fl, fw, fd, s1, s2⟩ := S
          refine exA_pl (l2 := 0) s1 fl_X5_109 rfl dX5_read_75 (fun h s1 => ?_)
          have S : MF G h0 h m (B, (if k < 6 then k + 1 else 6), (recR k L (n, g, t, u, q)), V, 0, c) := ⟨fs, fp, fl, fw, fd, s1, s2.1, s2.2.1, s2.2.2.1, s2.2.2.2.1, fun i hi => absurd hi (Nat.not_lt_zero _), Nat.zero_le _⟩
          refine ex_aload_n 1 dX5_read_78 rfl rfl ?_
          refine ex_get (v := .ref (m + 1)) fl_X5_7 S.ob rfl dX5_read_79 ?_
          refine ex_bipush (v := nI 7) dX5_read_82 (by decide) ?_
          refine exM_ld (p := 0) (i := 7) (v := nI ((B).1)) S.rp.rf (by decide) rfl (by decide) rfl dX5_read_84 ?_
          exact ex_iret hQ rfl (by unfold X_read; dsimp only; rw [if_pos hf, if_pos n_26, ← hA]; exact ⟨rfl, rfl, S⟩) dX5_read_85
    · have n_26 : ¬ ((n + (1 + cms c len)) ≤ 8) := fun q9 => c_26 ((nI_leI (by omega) (by omega)).mpr q9)
      refine ex_bipush (v := (-4)) dX5_read_29 (by decide) ?_
      exact ex_iret hQ rfl (by unfold X_read; dsimp only; rw [if_pos hf, if_neg n_26]; exact ⟨rfl, rfl, S⟩) dX5_read_31
  · have hi : i < 2 ^ 31 := by have := ffG_le len 0 0 (nI 0) i hf (by omega); omega
    refine ex_aload_n 0 dX5_read_0 rfl rfl ?_
    refine ex_call0 (As := []) (v := .int (ffV (ffA len c))) (ci := 5) vl_X5_129 rfl (m_faultR (S.kept (fun _ _ _ => rfl)) hc) S.ob rfl (by decide) (Nat.le_of_ble_eq_true rfl) (Nat.le_refl _) (Nat.le_refl _) rfl dX5_read_1 ?_
    refine ex_bipush (v := (-6)) dX5_read_4 (by decide) ?_
    refine ex_icmp_eq (tgt := 12) dX5_read_6 (by decide) (fun c_6 => absurd c_6 (by rw [hf]; exact nI_n6 hi)) (fun c_6 => ?_)
    refine ex_bipush (v := (-3)) dX5_read_9 (by decide) ?_
    exact ex_iret hQ rfl (by unfold X_read; dsimp only; rw [if_neg (by rw [hf]; exact fun q9 => by cases q9)]; exact ⟨rfl, rfl, S⟩) dX5_read_11

