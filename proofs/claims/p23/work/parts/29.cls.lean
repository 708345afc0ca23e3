theorem inR_or (x : Int32) (n : Nat) (hn : n < 2 ^ 31) : (∃ j, j < n ∧ x = nI j) ∨ ¬ inR x n := by
  by_cases h : inR x n
  · exact Or.inl (inR_of h hn)
  · exact Or.inr h
theorem rngI {v : Int32} {a b : Nat} (ha : a < 2 ^ 31) (hb : b < 2 ^ 31) (h1 : ¬ v < nI a) (h2 : v ≤ nI b) : ∃ j, a ≤ j ∧ j ≤ b ∧ v = nI j := by
  have h0 : ¬ v < 0 := fun q => h1 (Int32.lt_of_lt_of_le q ((nI_leI (a := 0) (by omega) ha).mpr (by omega)))
  obtain ⟨j, hj, rfl⟩ := nI_of h0
  exact ⟨j, Nat.not_lt.mp (fun q => h1 ((nI_ltI hj ha).mpr q)), (nI_leI hj hb).mp h2, rfl⟩
theorem bI_e1 {u : Nat → Int32} {q : Nat → Nat → Int32} {j : Nat} (h : ¬ bB u q j = 0) : bB u q j = nI 1 := by
  unfold bB
  rw [if_neg (bB_1 h)]
theorem mayI_1 {n : Nat} {g : Option Nat} {u : Nat → Int32} {q : Nat → Nat → Int32} {j : Nat} (h : ¬ mayI n g u q j = 0) : mayI n g u q j = nI 1 := by
  unfold mayI at h ⊢
  split at h
  · rename_i c
    rw [if_pos c]
  · exact absurd rfl h
theorem zB_1 {b : Bool} (h : ¬ (if b = true then nI 1 else nI 0) = 0) : (if b = true then nI 1 else nI 0) = nI 1 := by
  cases b
  · exact absurd rfl h
  · rfl
theorem ixn {j : Nat} (h : j < 2 ^ 31) : ixI (nI j) = j := nI_clamp h
theorem gv_n6 {g : Option Nat} {n : Nat} (gw : ∀ i, g = some i → i < n) (n8 : n ≤ 8) (h : gv g = -6) : g = none := by
  cases g with
  | none => rfl
  | some i => exact absurd h (nI_n6 (by have := gw i rfl; omega))
theorem cms_le {c : Nat → Nat} : ∀ m, cms c m ≤ m
  | 0 => Nat.le_refl _
  | k + 1 => by
    have := cms_le (c := c) k
    rw [cms]
    split <;> omega
theorem ffG_le {len : Nat} {c : Nat → Nat} : ∀ (k i due : Nat) (s : Int32) (r : Nat), ffG len c k i due s = some r → i + k ≤ len → r ≤ len
  | 0, i, due, s, r, h, hl => by
    rw [ffG] at h
    split at h
    · cases h
    · cases h
      omega
  | k + 1, i, due, s, r, h, hl => by
    rw [ffG] at h
    split at h
    · exact ffG_le k (i + 1) _ _ r h (by omega)
    · cases h
      omega
theorem XF.trans {G : GG} {h0 h h1 : HP} {z b : Nat} {x y : CX} (S : XF G h0 h z b x) (S1 : XF G h h1 z b y) : XF G h0 h1 z b y := ⟨S1.1, fun a g1 g2 => (S1.2 a g1 g2).trans (S.2 a g1 g2)⟩
theorem dayR_lt {A : AS} {j : Nat} (w : wfA A) (h : dayR A = some j) : j < A.1 := by
  obtain ⟨n, _ | i, t, u, q⟩ := A
  · have h2 : (holdA n t (upd u 6 (u 6 + nI 1)) q).2 = some j := h
    unfold holdA at h2
    split at h2
    · cases h2
    · rename_i j1 hj
      split at h2
      · cases h2
      · cases h2
        exact hand_lt w.2.2 hj
  · cases (show (none : Option Nat) = some j from h)
theorem mvP_lt {p x y n : Nat} (hp : p < n) (hx : x < n) (hy : y < n) : mvP p x y < n := by
  unfold mvP
  split
  · exact hy
  · split
    · omega
    · split <;> omega
theorem moveA_wf {A : AS} {x y : Nat} (w : wfA A) (hx : x < A.1) (hy : y < A.1) : wfA (moveA A x y) := by
  obtain ⟨n, g, t, u, q⟩ := A
  obtain ⟨w1, w2, w3⟩ := w
  refine ⟨w1, fun i hi => ?_, Or.inl ?_⟩
  · cases g with
    | none => cases hi
    | some p =>
      cases (show some (mvP p x y) = some i from hi)
      exact mvP_lt (w2 p rfl) hx hy
  · have hx' : x < n := hx
    have h3 : t < n ∨ t = 0 := w3
    exact mvP_lt (show t < n by omega) hx' hy

set_option maxRecDepth 20000 in
set_option maxHeartbeats 2000000 in
theorem c_isSettingT {G : GG} {l : Launch} {h0 : HP} {z : Nat} {j : Nat} (hj : j < 6) : Ct G l 0 0 0 yX4_isSetting cX4_isSetting 1 (some .boolean) [.int (nI j)] h0 z (p0 (.int (nI 1)) h0 z) := by
  refine Ct.intro (lv := [(0, .int (nI j))]) (by decide +kernel) (Nat.le_of_ble_eq_true rfl) rfl (fun X Q hQ hnm => ?_)
  refine ex_iload_n 0 dX4_isSetting_0 rfl rfl ?_
  refine ex_if_lt (tgt := 16) dX4_isSetting_1 (by decide) (fun c_1 => absurd c_1 (nI_pos (by omega))) (fun c_1 => ?_)
  refine ex_iload_n 0 dX4_isSetting_4 rfl rfl ?_
  refine ex_gets (k := 0) (by decide) (tw_t 178 (by decide +kernel) (by decide +kernel)) dX4_isSetting_5 ?_
  refine ex_tlen (k := 0) (by decide) dX4_isSetting_8 ?_
  refine ex_icmp_ge (tgt := 16) dX4_isSetting_9 (by decide) (fun c_9 => absurd c_9 (fun q9 => absurd ((nI_leI (by omega) (by omega)).mp q9) (by omega))) (fun c_9 => ?_)
  refine ex_iconst (v := nI 1) dX4_isSetting_12 (by decide) ?_
  refine ex_goto (tgt := 17) dX4_isSetting_13 (by decide) ?_
  exact ex_zret hQ rfl (by decide) ⟨rfl, rfl, rfl⟩ dX4_isSetting_17

set_option maxRecDepth 20000 in
set_option maxHeartbeats 2000000 in
theorem c_isSettingF {G : GG} {l : Launch} {h0 : HP} {z : Nat} {s : Int32} (hs : ¬ inR s 6) : Ct G l 0 0 0 yX4_isSetting cX4_isSetting 1 (some .boolean) [.int s] h0 z (p0 (.int (nI 0)) h0 z) := by
  refine Ct.intro (lv := [(0, .int s)]) (by decide +kernel) (Nat.le_of_ble_eq_true rfl) rfl (fun X Q hQ hnm => ?_)
  refine ex_iload_n 0 dX4_isSetting_0 rfl rfl ?_
  refine ex_if_lt (tgt := 16) dX4_isSetting_1 (by decide) (fun c_1 => ?_) (fun c_1 => ?_)
  · refine ex_iconst (v := nI 0) dX4_isSetting_16 (by decide) ?_
    exact ex_zret hQ rfl (by decide) ⟨rfl, rfl, rfl⟩ dX4_isSetting_17
  · refine ex_iload_n 0 dX4_isSetting_4 rfl rfl ?_
    refine ex_gets (k := 0) (by decide) (tw_t 178 (by decide +kernel) (by decide +kernel)) dX4_isSetting_5 ?_
    refine ex_tlen (k := 0) (by decide) dX4_isSetting_8 ?_
    refine ex_icmp_ge (tgt := 16) dX4_isSetting_9 (by decide) (fun c_9 => ?_) (fun c_9 => ?_)
    · refine ex_iconst (v := nI 0) dX4_isSetting_16 (by decide) ?_
      exact ex_zret hQ rfl (by decide) ⟨rfl, rfl, rfl⟩ dX4_isSetting_17
    · exact absurd ⟨Int32.not_lt.mp c_1, Int32.not_le.mp c_9⟩ hs

set_option maxRecDepth 20000 in
set_option maxHeartbeats 2000000 in
theorem c_isSlotT {G : GG} {l : Launch} {h0 : HP} {z : Nat} {j : Nat} (hj : j < 2) : Ct G l 0 0 0 yX4_isSlot cX4_isSlot 1 (some .boolean) [.int (nI j)] h0 z (p0 (.int (nI 1)) h0 z) := by
  refine Ct.intro (lv := [(0, .int (nI j))]) (by decide +kernel) (Nat.le_of_ble_eq_true rfl) rfl (fun X Q hQ hnm => ?_)
  refine ex_iload_n 0 dX4_isSlot_0 rfl rfl ?_
  refine ex_if_lt (tgt := 13) dX4_isSlot_1 (by decide) (fun c_1 => absurd c_1 (nI_pos (by omega))) (fun c_1 => ?_)
  refine ex_iload_n 0 dX4_isSlot_4 rfl rfl ?_
  refine ex_iconst (v := nI 2) dX4_isSlot_5 (by decide) ?_
  refine ex_icmp_ge (tgt := 13) dX4_isSlot_6 (by decide) (fun c_6 => absurd c_6 (fun q9 => absurd ((nI_leI (by omega) (by omega)).mp q9) (by omega))) (fun c_6 => ?_)
  refine ex_iconst (v := nI 1) dX4_isSlot_9 (by decide) ?_
  refine ex_goto (tgt := 14) dX4_isSlot_10 (by decide) ?_
  exact ex_zret hQ rfl (by decide) ⟨rfl, rfl, rfl⟩ dX4_isSlot_14

set_option maxRecDepth 20000 in
set_option maxHeartbeats 2000000 in
theorem c_isSlotF {G : GG} {l : Launch} {h0 : HP} {z : Nat} {s : Int32} (hs : ¬ inR s 2) : Ct G l 0 0 0 yX4_isSlot cX4_isSlot 1 (some .boolean) [.int s] h0 z (p0 (.int (nI 0)) h0 z) := by
  refine Ct.intro (lv := [(0, .int s)]) (by decide +kernel) (Nat.le_of_ble_eq_true rfl) rfl (fun X Q hQ hnm => ?_)
  refine ex_iload_n 0 dX4_isSlot_0 rfl rfl ?_
  refine ex_if_lt (tgt := 13) dX4_isSlot_1 (by decide) (fun c_1 => ?_) (fun c_1 => ?_)
  · refine ex_iconst (v := nI 0) dX4_isSlot_13 (by decide) ?_
    exact ex_zret hQ rfl (by decide) ⟨rfl, rfl, rfl⟩ dX4_isSlot_14
  · refine ex_iload_n 0 dX4_isSlot_4 rfl rfl ?_
    refine ex_iconst (v := nI 2) dX4_isSlot_5 (by decide) ?_
    refine ex_icmp_ge (tgt := 13) dX4_isSlot_6 (by decide) (fun c_6 => ?_) (fun c_6 => ?_)
    · refine ex_iconst (v := nI 0) dX4_isSlot_13 (by decide) ?_
      exact ex_zret hQ rfl (by decide) ⟨rfl, rfl, rfl⟩ dX4_isSlot_14
    · exact absurd ⟨Int32.not_lt.mp c_1, Int32.not_le.mp c_6⟩ hs

set_option maxRecDepth 20000 in
set_option maxHeartbeats 2000000 in
theorem c_set {G : GG} {l : Launch} {h0 : HP} {z b : Nat} {n : Nat} {g : Option Nat} {t : Nat} {u : Nat → Int32} {q : Nat → Nat → Int32} {k len : Nat} {L : Nat → AS} {V : Nat → Option AS} {c : Nat → Nat} (S0 : PP G h0 z b ((n, g, t, u, q), k, L, V, len, c)) (n8 : n ≤ 8) {s v : Int32} : Ct G l 3 0 0 yX4_set cX4_set 4 (some .int) [.ref b, .int s, .int v] h0 z (pX G (X_set ((n, g, t, u, q), k, L, V, len, c) s v) h0 z b) := by
  refine Ct.intro (lv := [(0, .ref b), (1, .int s), (2, .int v)]) (by decide +kernel) (Nat.le_of_ble_eq_true rfl) rfl (fun X Q hQ hnm => ?_)
  have S := S0.xf
  rcases inR_or s 6 (by omega) with ⟨j, hs, rfl⟩ | hs
  · refine ex_iload_n 1 dX4_set_0 rfl rfl ?_
    refine ex_callS0 (As := [.int (nI j)]) (v := .int (nI 1)) vl_X4_37 (c_isSettingT hs) rfl (by decide) (Nat.le_of_ble_eq_true rfl) (Nat.le_refl _) (Nat.le_refl _) rfl dX4_set_1 ?_
    refine ex_if_ne (tgt := 10) dX4_set_4 (by decide) (fun c_4 => ?_) (fun c_4 => absurd c_4 (by decide))
    refine ex_iload_n 2 dX4_set_10 rfl rfl ?_
    refine ex_gets (k := 1) (by decide) (tw_t 179 (by decide +kernel) (by decide +kernel)) dX4_set_11 ?_
    refine ex_iload_n 1 dX4_set_14 rfl rfl ?_
    refine ex_tld (k := 1) (by decide) rfl hs dX4_set_15 ?_
    refine ex_icmp_lt (tgt := 28) dX4_set_16 (by decide) (fun c_16 => ?_) (fun c_16 => ?_)
    · refine ex_bipush (v := (-2)) dX4_set_28 (by decide) ?_
      exact ex_iret hQ rfl (by unfold X_set; rw [ixn (by omega)]; first | (rw [if_neg (fun q9 => q9.2 (by first | exact Or.inl c_16 | exact Or.inr (Int32.not_le.mp c_25)))]; exact ⟨rfl, rfl, S⟩) | (rw [if_pos ⟨inR_nI hs (by decide), fun q9 => q9.elim (fun q8 => c_16 q8) (fun q8 => absurd c_25 (Int32.not_le.mpr q8))⟩]; exact ⟨rfl, rfl, S⟩)) dX4_set_30
    · refine ex_iload_n 2 dX4_set_19 rfl rfl ?_
      refine ex_gets (k := 2) (by decide) (tw_t 181 (by decide +kernel) (by decide +kernel)) dX4_set_20 ?_
      refine ex_iload_n 1 dX4_set_23 rfl rfl ?_
      refine ex_tld (k := 2) (by decide) rfl hs dX4_set_24 ?_
      refine ex_icmp_le (tgt := 31) dX4_set_25 (by decide) (fun c_25 => ?_) (fun c_25 => ?_)
      · refine ex_aload_n 0 dX4_set_31 rfl rfl ?_
        refine ex_get (v := .ref (b + 23)) fl_X4_22 S.1.ob rfl dX4_set_32 ?_
        refine ex_aload_n 0 dX4_set_35 rfl rfl ?_
        refine ex_get (v := .ref (b + 1)) fl_X4_10 S.1.ob rfl dX4_set_36 ?_
        refine exX_rec vl_X4_48 S n8 (by decide) (Nat.le_of_ble_eq_true rfl) (Nat.le_refl _) (Nat.le_refl _) rfl dX4_set_39 (fun h S => ?_)
        have S : XF G h0 h z b ((n, g, t, u, q), (if k < 6 then k + 1 else 6), (recR k L (n, g, t, u, q)), V, len, c) := S
        refine ex_aload_n 0 dX4_set_42 rfl rfl ?_
        refine ex_get (v := .ref (b + 1)) fl_X4_10 S.1.ob rfl dX4_set_43 ?_
        refine ex_get (v := .ref (b + 1 + 1)) fl_X4_52 S.1.nob rfl dX4_set_46 ?_
        refine ex_iload_n 1 dX4_set_49 rfl rfl ?_
        refine exX_ld (i := j) (w := u j) S rfl hs rfl dX4_set_50 ?_
        refine ex_istore_n (lv' := [(3, .int (u j)), (0, .ref b), (1, .int (nI j)), (2, .int v)]) dX4_set_51 rfl (by decide) rfl ?_
        refine ex_aload_n 1 dX4_set_52 rfl rfl ?_
        refine ex_get (v := .ref (b + 1)) fl_X4_10 S.1.ob rfl dX4_set_53 ?_
        refine ex_get (v := .ref (b + 1 + 1)) fl_X4_52 S.1.nob rfl dX4_set_56 ?_
        refine ex_iload_n 2 dX4_set_59 rfl rfl ?_
        refine ex_iload_n 3 dX4_set_60 rfl rfl ?_
        refine exX_st (i := j) S rfl hs dX4_set_61 (fun h S => ?_)
        refine ex_iload_n 0 dX4_set_62 rfl rfl ?_
        exact ex_iret hQ rfl (by unfold X_set; rw [ixn (by omega)]; first | (rw [if_neg (fun q9 => q9.2 (by first | exact Or.inl c_16 | exact Or.inr (Int32.not_le.mp c_25)))]; exact ⟨rfl, rfl, S⟩) | (rw [if_pos ⟨inR_nI hs (by decide), fun q9 => q9.elim (fun q8 => c_16 q8) (fun q8 => absurd c_25 (Int32.not_le.mpr q8))⟩]; exact ⟨rfl, rfl, S⟩)) dX4_set_63
      · refine ex_bipush (v := (-2)) dX4_set_28 (by decide) ?_
        exact ex_iret hQ rfl (by unfold X_set; rw [ixn (by omega)]; first | (rw [if_neg (fun q9 => q9.2 (by first | exact Or.inl c_16 | exact Or.inr (Int32.not_le.mp c_25)))]; exact ⟨rfl, rfl, S⟩) | (rw [if_pos ⟨inR_nI hs (by decide), fun q9 => q9.elim (fun q8 => c_16 q8) (fun q8 => absurd c_25 (Int32.not_le.mpr q8))⟩]; exact ⟨rfl, rfl, S⟩)) dX4_set_30
  · refine ex_iload_n 1 dX4_set_0 rfl rfl ?_
    refine ex_callS0 (As := [.int s]) (v := .int (nI 0)) vl_X4_37 (c_isSettingF hs) rfl (by decide) (Nat.le_of_ble_eq_true rfl) (Nat.le_refl _) (Nat.le_refl _) rfl dX4_set_1 ?_
    refine ex_if_ne (tgt := 10) dX4_set_4 (by decide) (fun c_4 => absurd (by decide) c_4) (fun c_4 => ?_)
    refine ex_bipush (v := (-2)) dX4_set_7 (by decide) ?_
    exact ex_iret hQ rfl (by unfold X_set; rw [if_neg (fun q9 => hs q9.1)]; exact ⟨rfl, rfl, S⟩) dX4_set_9

set_option maxRecDepth 20000 in
set_option maxHeartbeats 2000000 in
theorem c_add {G : GG} {l : Launch} {h0 : HP} {z b : Nat} {n : Nat} {g : Option Nat} {t : Nat} {u : Nat → Int32} {q : Nat → Nat → Int32} {k len : Nat} {L : Nat → AS} {V : Nat → Option AS} {c : Nat → Nat} (S0 : PP G h0 z b ((n, g, t, u, q), k, L, V, len, c)) (n8 : n ≤ 8) {v s : Int32} : Ct G l 3 0 0 yX4_add cX4_add 3 (some .int) [.ref b, .int v, .int s] h0 z (pX G (X_add ((n, g, t, u, q), k, L, V, len, c) v s) h0 z b) := by
  refine Ct.intro (lv := [(0, .ref b), (1, .int v), (2, .int s)]) (by decide +kernel) (Nat.le_of_ble_eq_true rfl) rfl (fun X Q hQ hnm => ?_)
  have S := S0.xf
  refine ex_iload_n 1 dX4_add_0 rfl rfl ?_
  refine ex_iconst (v := nI 1) dX4_add_1 (by decide) ?_
  refine ex_icmp_lt (tgt := 21) dX4_add_2 (by decide) (fun c_2 => ?_) (fun c_2 => ?_)
  · refine ex_bipush (v := (-2)) dX4_add_21 (by decide) ?_
    exact ex_iret hQ rfl (by unfold X_add; rw [if_pos (by first | exact Or.inl c_2 | exact Or.inr (Or.inl c_8) | exact Or.inr (Or.inr (Or.inl c_12)) | exact Or.inr (Or.inr (Or.inr (Int32.not_le.mp c_18))))]; exact ⟨rfl, rfl, S⟩) dX4_add_23
  · refine ex_iload_n 1 dX4_add_5 rfl rfl ?_
    refine ex_bipush (v := nI 9) dX4_add_6 (by decide) ?_
    refine ex_icmp_gt (tgt := 21) dX4_add_8 (by decide) (fun c_8 => ?_) (fun c_8 => ?_)
    · refine ex_bipush (v := (-2)) dX4_add_21 (by decide) ?_
      exact ex_iret hQ rfl (by unfold X_add; rw [if_pos (by first | exact Or.inl c_2 | exact Or.inr (Or.inl c_8) | exact Or.inr (Or.inr (Or.inl c_12)) | exact Or.inr (Or.inr (Or.inr (Int32.not_le.mp c_18))))]; exact ⟨rfl, rfl, S⟩) dX4_add_23
    · refine ex_iload_n 2 dX4_add_11 rfl rfl ?_
      refine ex_if_lt (tgt := 21) dX4_add_12 (by decide) (fun c_12 => ?_) (fun c_12 => ?_)
      · refine ex_bipush (v := (-2)) dX4_add_21 (by decide) ?_
        exact ex_iret hQ rfl (by unfold X_add; rw [if_pos (by first | exact Or.inl c_2 | exact Or.inr (Or.inl c_8) | exact Or.inr (Or.inr (Or.inl c_12)) | exact Or.inr (Or.inr (Or.inr (Int32.not_le.mp c_18))))]; exact ⟨rfl, rfl, S⟩) dX4_add_23
      · refine ex_iload_n 2 dX4_add_15 rfl rfl ?_
        refine ex_bipush (v := nI 100) dX4_add_16 (by decide) ?_
        refine ex_icmp_le (tgt := 24) dX4_add_18 (by decide) (fun c_18 => ?_) (fun c_18 => ?_)
        · have hc : ¬ (v < nI 1 ∨ nI 9 < v ∨ s < 0 ∨ nI 100 < s) := fun q9 => q9.elim c_2 (fun q9 => q9.elim c_8 (fun q9 => q9.elim c_12 (fun q9 => absurd c_18 (Int32.not_le.mpr q9))))
          refine ex_aload_n 0 dX4_add_24 rfl rfl ?_
          refine ex_get (v := .ref (b + 1)) fl_X4_10 S.1.ob rfl dX4_add_25 ?_
          refine ex_get (v := .int (nI n)) fl_X4_55 S.1.nob rfl dX4_add_28 ?_
          refine ex_bipush (v := nI 8) dX4_add_31 (by decide) ?_
          refine ex_icmp_lt (tgt := 39) dX4_add_33 (by decide) (fun c_33 => ?_) (fun c_33 => ?_)
          · have n_33 : n < 8 := (nI_ltI (by omega) (by omega)).mp c_33
            refine ex_aload_n 0 dX4_add_39 rfl rfl ?_
            refine ex_get (v := .ref (b + 23)) fl_X4_22 S.1.ob rfl dX4_add_40 ?_
            refine ex_aload_n 0 dX4_add_43 rfl rfl ?_
            refine ex_get (v := .ref (b + 1)) fl_X4_10 S.1.ob rfl dX4_add_44 ?_
            refine exX_rec vl_X4_48 S n8 (by decide) (Nat.le_of_ble_eq_true rfl) (Nat.le_refl _) (Nat.le_refl _) rfl dX4_add_47 (fun h S => ?_)
            have S : XF G h0 h z b ((n, g, t, u, q), (if k < 6 then k + 1 else 6), (recR k L (n, g, t, u, q)), V, len, c) := S
            refine ex_aload_n 0 dX4_add_50 rfl rfl ?_
            refine ex_get (v := .ref (b + 1)) fl_X4_10 S.1.ob rfl dX4_add_51 ?_
            refine ex_iload_n 1 dX4_add_54 rfl rfl ?_
            refine ex_iload_n 2 dX4_add_55 rfl rfl ?_
            refine exX_now (As := [.int v, .int s]) (r0 := none) (f := fun π => π) (B := admA (n, g, t, u, q) v s) vl_X4_59 rfl S (fun π hN => c_admit hN n_33) rfl (by decide) (Nat.le_of_ble_eq_true rfl) (Nat.le_refl _) (Nat.le_refl _) rfl dX4_add_56 (fun h S => ?_)
            have S : XF G h0 h z b (admA (n, g, t, u, q) v s, (if k < 6 then k + 1 else 6), (recR k L (n, g, t, u, q)), V, len, c) := S
            refine ex_aload_n 0 dX4_add_59 rfl rfl ?_
            refine ex_get (v := .ref (b + 1)) fl_X4_10 S.1.ob rfl dX4_add_60 ?_
            refine ex_get (v := .int (nI (n + 1))) fl_X4_55 S.1.nob rfl dX4_add_63 ?_
            refine ex_iconst (v := nI 1) dX4_add_66 (by decide) ?_
            refine ex_isubN dX4_add_67 (by omega) ?_
            exact ex_iret hQ rfl (by unfold X_add; rw [if_neg hc, if_pos n_33]; exact ⟨rfl, rfl, S⟩) dX4_add_68
          · have n_33 : ¬ (n < 8) := fun q9 => c_33 ((nI_ltI (by omega) (by omega)).mpr q9)
            refine ex_bipush (v := (-4)) dX4_add_36 (by decide) ?_
            exact ex_iret hQ rfl (by unfold X_add; rw [if_neg hc, if_neg n_33]; exact ⟨rfl, rfl, S⟩) dX4_add_38
        · refine ex_bipush (v := (-2)) dX4_add_21 (by decide) ?_
          exact ex_iret hQ rfl (by unfold X_add; rw [if_pos (by first | exact Or.inl c_2 | exact Or.inr (Or.inl c_8) | exact Or.inr (Or.inr (Or.inl c_12)) | exact Or.inr (Or.inr (Or.inr (Int32.not_le.mp c_18))))]; exact ⟨rfl, rfl, S⟩) dX4_add_23

set_option maxRecDepth 20000 in
set_option maxHeartbeats 2000000 in
theorem c_move {G : GG} {l : Launch} {h0 : HP} {z b : Nat} {n : Nat} {g : Option Nat} {t : Nat} {u : Nat → Int32} {q : Nat → Nat → Int32} {k len : Nat} {L : Nat → AS} {V : Nat → Option AS} {c : Nat → Nat} (S0 : PP G h0 z b ((n, g, t, u, q), k, L, V, len, c)) (n8 : n ≤ 8) (gw : ∀ i, g = some i → i < n) (tw : t < n ∨ t = 0) {p y : Int32} : Ct G l 3 0 0 yX4_move cX4_move 3 (some .int) [.ref b, .int p, .int y] h0 z (pX G (X_move ((n, g, t, u, q), k, L, V, len, c) p y) h0 z b) := by
  refine Ct.intro (lv := [(0, .ref b), (1, .int p), (2, .int y)]) (by decide +kernel) (Nat.le_of_ble_eq_true rfl) rfl (fun X Q hQ hnm => ?_)
  have S := S0.xf
  rcases inR_or p n (by omega) with ⟨i, hp, rfl⟩ | hp
  · rcases inR_or y n (by omega) with ⟨m, hy, rfl⟩ | hy
    · obtain ⟨π, hN⟩ := S.1.2.1
      refine ex_aload_n 0 dX4_move_0 rfl rfl ?_
      refine ex_get (v := .ref (b + 1)) fl_X4_10 S.1.ob rfl dX4_move_1 ?_
      refine ex_iload_n 1 dX4_move_4 rfl rfl ?_
      refine ex_call0 (As := [.int (nI i)]) (v := .ref (b + 1 + 3 + π i)) (ci := 3) vl_X4_76 rfl (c_at hN (by omega) hp n8) hN.ob rfl (by decide) (Nat.le_of_ble_eq_true rfl) (Nat.le_refl _) (Nat.le_refl _) rfl dX4_move_5 ?_
      refine ex_ifnull dX4_move_8 ?_
      refine ex_aload_n 0 dX4_move_11 rfl rfl ?_
      refine ex_get (v := .ref (b + 1)) fl_X4_10 S.1.ob rfl dX4_move_12 ?_
      refine ex_iload_n 2 dX4_move_15 rfl rfl ?_
      refine ex_call0 (As := [.int (nI m)]) (v := .ref (b + 1 + 3 + π m)) (ci := 3) vl_X4_76 rfl (c_at hN (by omega) hy n8) hN.ob rfl (by decide) (Nat.le_of_ble_eq_true rfl) (Nat.le_refl _) (Nat.le_refl _) rfl dX4_move_16 ?_
      refine ex_ifnonnull (tgt := 24) dX4_move_19 (by decide) ?_
      refine ex_aload_n 0 dX4_move_24 rfl rfl ?_
      refine ex_get (v := .ref (b + 23)) fl_X4_22 S.1.ob rfl dX4_move_25 ?_
      refine ex_aload_n 0 dX4_move_28 rfl rfl ?_
      refine ex_get (v := .ref (b + 1)) fl_X4_10 S.1.ob rfl dX4_move_29 ?_
      refine exX_rec vl_X4_48 S n8 (by decide) (Nat.le_of_ble_eq_true rfl) (Nat.le_refl _) (Nat.le_refl _) rfl dX4_move_32 (fun h S => ?_)
      have S : XF G h0 h z b ((n, g, t, u, q), (if k < 6 then k + 1 else 6), (recR k L (n, g, t, u, q)), V, len, c) := S
      refine ex_aload_n 0 dX4_move_35 rfl rfl ?_
      refine ex_get (v := .ref (b + 1)) fl_X4_10 S.1.ob rfl dX4_move_36 ?_
      refine ex_iload_n 1 dX4_move_39 rfl rfl ?_
      refine ex_iload_n 2 dX4_move_40 rfl rfl ?_
      refine exX_now (As := [.int (nI i), .int (nI m)]) (r0 := none) (f := fun π j => π (mvI i m j)) (B := moveA (n, g, t, u, q) i m) vl_X4_80 rfl S (fun π hN => c_relocate hN gw tw n8 hp hy) rfl (by decide) (Nat.le_of_ble_eq_true rfl) (Nat.le_refl _) (Nat.le_refl _) rfl dX4_move_41 (fun h S => ?_)
      have S : XF G h0 h z b (moveA (n, g, t, u, q) i m, (if k < 6 then k + 1 else 6), (recR k L (n, g, t, u, q)), V, len, c) := S
      refine ex_iload_n 1 dX4_move_44 rfl rfl ?_
      refine ex_iload_n 2 dX4_move_45 rfl rfl ?_
      refine ex_icmp_ne (tgt := 53) dX4_move_46 (by decide) (fun c_46 => ?_) (fun c_46 => ?_)
      · have n_46 : ¬ (i = m) := fun q9 => c_46 ((nI_eq (by omega) (by omega)).mpr q9)
        refine ex_iload_n 1 dX4_move_53 rfl rfl ?_
        refine ex_iload_n 2 dX4_move_54 rfl rfl ?_
        refine ex_isub dX4_move_55 ?_
        refine exm_abs (v := abI ((nI i) - (nI m))) mlx_abs rfl (by decide) (Nat.le_of_ble_eq_true rfl) (Nat.le_refl _) (Nat.le_refl _) dX4_move_56 ?_
        refine ex_iconst (v := nI 1) dX4_move_59 (by decide) ?_
        refine ex_iadd dX4_move_60 ?_
        exact ex_iret hQ rfl (by unfold X_move; dsimp only; rw [if_pos ⟨inR_nI hp (by omega), inR_nI hy (by omega)⟩, ixn (by omega), ixn (by omega)]; first | (rw [if_pos (congrArg nI n_46)]; exact ⟨rfl, rfl, S⟩) | (rw [if_neg (fun q9 => n_46 ((nI_eq (by omega) (by omega)).mp q9))]; exact ⟨rfl, rfl, S⟩)) dX4_move_61
      · have n_46 : i = m := (nI_eq (by omega) (by omega)).mp c_46
        refine ex_iconst (v := nI 0) dX4_move_49 (by decide) ?_
        refine ex_goto (tgt := 61) dX4_move_50 (by decide) ?_
        exact ex_iret hQ rfl (by unfold X_move; dsimp only; rw [if_pos ⟨inR_nI hp (by omega), inR_nI hy (by omega)⟩, ixn (by omega), ixn (by omega)]; first | (rw [if_pos (congrArg nI n_46)]; exact ⟨rfl, rfl, S⟩) | (rw [if_neg (fun q9 => n_46 ((nI_eq (by omega) (by omega)).mp q9))]; exact ⟨rfl, rfl, S⟩)) dX4_move_61
    · obtain ⟨π, hN⟩ := S.1.2.1
      refine ex_aload_n 0 dX4_move_0 rfl rfl ?_
      refine ex_get (v := .ref (b + 1)) fl_X4_10 S.1.ob rfl dX4_move_1 ?_
      refine ex_iload_n 1 dX4_move_4 rfl rfl ?_
      refine ex_call0 (As := [.int (nI i)]) (v := .ref (b + 1 + 3 + π i)) (ci := 3) vl_X4_76 rfl (c_at hN (by omega) hp n8) hN.ob rfl (by decide) (Nat.le_of_ble_eq_true rfl) (Nat.le_refl _) (Nat.le_refl _) rfl dX4_move_5 ?_
      refine ex_ifnull dX4_move_8 ?_
      refine ex_aload_n 0 dX4_move_11 rfl rfl ?_
      refine ex_get (v := .ref (b + 1)) fl_X4_10 S.1.ob rfl dX4_move_12 ?_
      refine ex_iload_n 2 dX4_move_15 rfl rfl ?_
      refine ex_call0 (As := [.int y]) (v := .null) (ci := 3) vl_X4_76 rfl (c_atN hN (inR_not hy) n8) hN.ob rfl (by decide) (Nat.le_of_ble_eq_true rfl) (Nat.le_refl _) (Nat.le_refl _) rfl dX4_move_16 ?_
      refine ex_ifnonnullN dX4_move_19 ?_
      refine ex_iconst (v := (-1)) dX4_move_22 (by decide) ?_
      exact ex_iret hQ rfl (by unfold X_move; dsimp only; rw [if_neg (fun q9 => hy q9.2)]; exact ⟨rfl, rfl, S⟩) dX4_move_23
  · obtain ⟨π, hN⟩ := S.1.2.1
    refine ex_aload_n 0 dX4_move_0 rfl rfl ?_
    refine ex_get (v := .ref (b + 1)) fl_X4_10 S.1.ob rfl dX4_move_1 ?_
    refine ex_iload_n 1 dX4_move_4 rfl rfl ?_
    refine ex_call0 (As := [.int p]) (v := .null) (ci := 3) vl_X4_76 rfl (c_atN hN (inR_not hp) n8) hN.ob rfl (by decide) (Nat.le_of_ble_eq_true rfl) (Nat.le_refl _) (Nat.le_refl _) rfl dX4_move_5 ?_
    refine ex_ifnullN (tgt := 22) dX4_move_8 (by decide) ?_
    refine ex_iconst (v := (-1)) dX4_move_22 (by decide) ?_
    exact ex_iret hQ rfl (by unfold X_move; dsimp only; rw [if_neg (fun q9 => hp q9.1)]; exact ⟨rfl, rfl, S⟩) dX4_move_23

set_option maxRecDepth 20000 in
set_option maxHeartbeats 2000000 in
theorem c_stepDown {G : GG} {l : Launch} {h0 : HP} {z b : Nat} {n : Nat} {g : Option Nat} {t : Nat} {u : Nat → Int32} {q : Nat → Nat → Int32} {k len : Nat} {L : Nat → AS} {V : Nat → Option AS} {c : Nat → Nat} (S0 : PP G h0 z b ((n, g, t, u, q), k, L, V, len, c)) (n8 : n ≤ 8) (gw : ∀ i, g = some i → i < n) : Ct G l 3 0 0 yX4_stepDown cX4_stepDown 2 (some .int) [.ref b] h0 z (pX G (X_stepDown ((n, g, t, u, q), k, L, V, len, c)) h0 z b) := by
  refine Ct.intro (lv := [(0, .ref b)]) (by decide +kernel) (Nat.le_of_ble_eq_true rfl) rfl (fun X Q hQ hnm => ?_)
  have S := S0.xf
  rcases g with _ | i
  · refine ex_aload_n 0 dX4_stepDown_0 rfl rfl ?_
    refine ex_get (v := .ref (b + 1)) fl_X4_10 S.1.ob rfl dX4_stepDown_1 ?_
    refine ex_get (v := .int (-6)) fl_X4_89 S.1.nob rfl dX4_stepDown_4 ?_
    refine ex_istore_n (lv' := [(1, .int (-6)), (0, .ref b)]) dX4_stepDown_7 rfl (by decide) rfl ?_
    refine ex_iload_n 0 dX4_stepDown_8 rfl rfl ?_
    refine ex_bipush (v := (-6)) dX4_stepDown_9 (by decide) ?_
    refine ex_icmp_ne (tgt := 17) dX4_stepDown_11 (by decide) (fun c_11 => absurd (rfl) c_11) (fun c_11 => ?_)
    refine ex_bipush (v := (-5)) dX4_stepDown_14 (by decide) ?_
    exact ex_iret hQ rfl (by exact ⟨rfl, rfl, S⟩) dX4_stepDown_16
  · have hi : i < n := gw i rfl
    refine ex_aload_n 0 dX4_stepDown_0 rfl rfl ?_
    refine ex_get (v := .ref (b + 1)) fl_X4_10 S.1.ob rfl dX4_stepDown_1 ?_
    refine ex_get (v := .int (nI i)) fl_X4_89 S.1.nob rfl dX4_stepDown_4 ?_
    refine ex_istore_n (lv' := [(1, .int (nI i)), (0, .ref b)]) dX4_stepDown_7 rfl (by decide) rfl ?_
    refine ex_iload_n 0 dX4_stepDown_8 rfl rfl ?_
    refine ex_bipush (v := (-6)) dX4_stepDown_9 (by decide) ?_
    refine ex_icmp_ne (tgt := 17) dX4_stepDown_11 (by decide) (fun c_11 => ?_) (fun c_11 => absurd c_11 (nI_n6 (by omega)))
    refine ex_aload_n 1 dX4_stepDown_17 rfl rfl ?_
    refine ex_get (v := .ref (b + 23)) fl_X4_22 S.1.ob rfl dX4_stepDown_18 ?_
    refine ex_aload_n 1 dX4_stepDown_21 rfl rfl ?_
    refine ex_get (v := .ref (b + 1)) fl_X4_10 S.1.ob rfl dX4_stepDown_22 ?_
    refine exX_rec vl_X4_48 S n8 (by decide) (Nat.le_of_ble_eq_true rfl) (Nat.le_refl _) (Nat.le_refl _) rfl dX4_stepDown_25 (fun h S => ?_)
    have S : XF G h0 h z b ((n, (some i), t, u, q), (if k < 6 then k + 1 else 6), (recR k L (n, (some i), t, u, q)), V, len, c) := S
    refine ex_aload_n 1 dX4_stepDown_28 rfl rfl ?_
    refine ex_get (v := .ref (b + 1)) fl_X4_10 S.1.ob rfl dX4_stepDown_29 ?_
    refine ex_aload_n 1 dX4_stepDown_32 rfl rfl ?_
    refine ex_get (v := .ref (b + 1)) fl_X4_10 S.1.ob rfl dX4_stepDown_33 ?_
    refine ex_iload_n 0 dX4_stepDown_36 rfl rfl ?_
    obtain ⟨π, hN⟩ := S.1.2.1
    refine ex_call0 (As := [.int (nI i)]) (v := .int (nI (bh n i))) (ci := 3) vl_X4_92 rfl (c_behind hN (by omega) n8) hN.ob rfl (by decide) (Nat.le_of_ble_eq_true rfl) (Nat.le_refl _) (Nat.le_refl _) rfl dX4_stepDown_37 ?_
    refine exX_now (As := [.int (nI (bh n i))]) (r0 := none) (f := fun π => π) (B := (n, none, bh n i, u, q)) vl_X4_95 rfl S (fun π hN => c_leave hN) rfl (by decide) (Nat.le_of_ble_eq_true rfl) (Nat.le_refl _) (Nat.le_refl _) rfl dX4_stepDown_40 (fun h S => ?_)
    have S : XF G h0 h z b ((n, none, bh n i, u, q), (if k < 6 then k + 1 else 6), (recR k L (n, (some i), t, u, q)), V, len, c) := S
    refine ex_iload_n 0 dX4_stepDown_43 rfl rfl ?_
    exact ex_iret hQ rfl (by exact ⟨rfl, rfl, S⟩) dX4_stepDown_44

set_option maxRecDepth 20000 in
set_option maxHeartbeats 2000000 in
theorem c_appeal {G : GG} {l : Launch} {h0 : HP} {z b : Nat} {n : Nat} {g : Option Nat} {t : Nat} {u : Nat → Int32} {q : Nat → Nat → Int32} {k len : Nat} {L : Nat → AS} {V : Nat → Option AS} {c : Nat → Nat} (S0 : PP G h0 z b ((n, g, t, u, q), k, L, V, len, c)) (n8 : n ≤ 8) (gw : ∀ i, g = some i → i < n) {p : Int32} : Ct G l 3 0 0 yX4_appeal cX4_appeal 2 (some .int) [.ref b, .int p] h0 z (pX G (X_appeal ((n, g, t, u, q), k, L, V, len, c) p) h0 z b) := by
  refine Ct.intro (lv := [(0, .ref b), (1, .int p)]) (by decide +kernel) (Nat.le_of_ble_eq_true rfl) rfl (fun X Q hQ hnm => ?_)
  have S := S0.xf
  rcases inR_or p n (by omega) with ⟨m, hp, rfl⟩ | hp
  · rcases g with _ | i
    · have hm0 : mayI n none u q m = 0 := by
        unfold mayI
        rw [if_neg (fun q9 => q9.1 rfl)]
        rfl
      obtain ⟨π, hN⟩ := S.1.2.1
      refine ex_aload_n 0 dX4_appeal_0 rfl rfl ?_
      refine ex_get (v := .ref (b + 1)) fl_X4_10 S.1.ob rfl dX4_appeal_1 ?_
      refine ex_iload_n 1 dX4_appeal_4 rfl rfl ?_
      refine ex_call0 (As := [.int (nI m)]) (v := .ref (b + 1 + 3 + π m)) (ci := 3) vl_X4_76 rfl (c_at hN (by omega) hp n8) hN.ob rfl (by decide) (Nat.le_of_ble_eq_true rfl) (Nat.le_refl _) (Nat.le_refl _) rfl dX4_appeal_5 ?_
      refine ex_ifnonnull (tgt := 13) dX4_appeal_8 (by decide) ?_
      refine ex_aload_n 0 dX4_appeal_13 rfl rfl ?_
      refine ex_get (v := .ref (b + 1)) fl_X4_10 S.1.ob rfl dX4_appeal_14 ?_
      refine ex_iload_n 1 dX4_appeal_17 rfl rfl ?_
      refine ex_call0 (As := [.int (nI m)]) (v := .int (mayI n none u q m)) (ci := 3) vl_X4_99 rfl (c_mayAppeal hN (by omega) hp gw n8) hN.ob rfl (by decide) (Nat.le_of_ble_eq_true rfl) (Nat.le_refl _) (Nat.le_refl _) rfl dX4_appeal_18 ?_
      refine ex_if_ne (tgt := 27) dX4_appeal_21 (by decide) (fun c_21 => absurd (hm0) c_21) (fun c_21 => ?_)
      refine ex_bipush (v := (-5)) dX4_appeal_24 (by decide) ?_
      exact ex_iret hQ rfl (by unfold X_appeal; dsimp only; rw [if_pos (inR_nI hp (by omega)), ixn (by omega), if_pos hm0]; exact ⟨rfl, rfl, S⟩) dX4_appeal_26
    · obtain ⟨π, hN⟩ := S.1.2.1
      refine ex_aload_n 0 dX4_appeal_0 rfl rfl ?_
      refine ex_get (v := .ref (b + 1)) fl_X4_10 S.1.ob rfl dX4_appeal_1 ?_
      refine ex_iload_n 1 dX4_appeal_4 rfl rfl ?_
      refine ex_call0 (As := [.int (nI m)]) (v := .ref (b + 1 + 3 + π m)) (ci := 3) vl_X4_76 rfl (c_at hN (by omega) hp n8) hN.ob rfl (by decide) (Nat.le_of_ble_eq_true rfl) (Nat.le_refl _) (Nat.le_refl _) rfl dX4_appeal_5 ?_
      refine ex_ifnonnull (tgt := 13) dX4_appeal_8 (by decide) ?_
      refine ex_aload_n 0 dX4_appeal_13 rfl rfl ?_
      refine ex_get (v := .ref (b + 1)) fl_X4_10 S.1.ob rfl dX4_appeal_14 ?_
      refine ex_iload_n 1 dX4_appeal_17 rfl rfl ?_
      refine ex_call0 (As := [.int (nI m)]) (v := .int (mayI n (some i) u q m)) (ci := 3) vl_X4_99 rfl (c_mayAppeal hN (by omega) hp gw n8) hN.ob rfl (by decide) (Nat.le_of_ble_eq_true rfl) (Nat.le_refl _) (Nat.le_refl _) rfl dX4_appeal_18 ?_
      refine ex_if_ne (tgt := 27) dX4_appeal_21 (by decide) (fun c_21 => ?_) (fun c_21 => ?_)
      · refine ex_aload_n 0 dX4_appeal_27 rfl rfl ?_
        refine ex_get (v := .ref (b + 23)) fl_X4_22 S.1.ob rfl dX4_appeal_28 ?_
        refine ex_aload_n 0 dX4_appeal_31 rfl rfl ?_
        refine ex_get (v := .ref (b + 1)) fl_X4_10 S.1.ob rfl dX4_appeal_32 ?_
        refine exX_rec vl_X4_48 S n8 (by decide) (Nat.le_of_ble_eq_true rfl) (Nat.le_refl _) (Nat.le_refl _) rfl dX4_appeal_35 (fun h S => ?_)
        have S : XF G h0 h z b ((n, (some i), t, u, q), (if k < 6 then k + 1 else 6), (recR k L (n, (some i), t, u, q)), V, len, c) := S
        refine ex_aload_n 0 dX4_appeal_38 rfl rfl ?_
        refine ex_get (v := .ref (b + 1)) fl_X4_10 S.1.ob rfl dX4_appeal_39 ?_
        refine ex_iload_n 1 dX4_appeal_42 rfl rfl ?_
        refine exX_now (As := [.int (nI m)]) (r0 := (some (.int (if (appA n i t u q m).2 = true then nI 1 else nI 0)))) (f := fun π => π) (B := (appA n i t u q m).1) vl_X4_102 rfl S (fun π hN => c_hearAppeal hN (by omega) hp (gw i rfl) n8) rfl (by decide) (Nat.le_of_ble_eq_true rfl) (Nat.le_refl _) (Nat.le_refl _) rfl dX4_appeal_43 (fun h S => ?_)
        have S : XF G h0 h z b ((appA n i t u q m).1, (if k < 6 then k + 1 else 6), (recR k L (n, (some i), t, u, q)), V, len, c) := S
        refine ex_if_eq (tgt := 53) dX4_appeal_46 (by decide) (fun c_46 => ?_) (fun c_46 => ?_)
        · refine ex_iconst (v := nI 0) dX4_appeal_53 (by decide) ?_
          exact ex_iret hQ rfl (by unfold X_appeal; dsimp only; rw [if_pos (inR_nI hp (by omega)), ixn (by omega), if_neg c_21]; first | exact ⟨congrArg (fun x => some (Value.int x)) c_46.symm, rfl, S⟩ | exact ⟨congrArg (fun x => some (Value.int x)) (zB_1 c_46).symm, rfl, S⟩) dX4_appeal_54
        · refine ex_iconst (v := nI 1) dX4_appeal_49 (by decide) ?_
          refine ex_goto (tgt := 54) dX4_appeal_50 (by decide) ?_
          exact ex_iret hQ rfl (by unfold X_appeal; dsimp only; rw [if_pos (inR_nI hp (by omega)), ixn (by omega), if_neg c_21]; first | exact ⟨congrArg (fun x => some (Value.int x)) c_46.symm, rfl, S⟩ | exact ⟨congrArg (fun x => some (Value.int x)) (zB_1 c_46).symm, rfl, S⟩) dX4_appeal_54
      · refine ex_bipush (v := (-5)) dX4_appeal_24 (by decide) ?_
        exact ex_iret hQ rfl (by unfold X_appeal; dsimp only; rw [if_pos (inR_nI hp (by omega)), ixn (by omega), if_pos c_21]; exact ⟨rfl, rfl, S⟩) dX4_appeal_26
  · obtain ⟨π, hN⟩ := S.1.2.1
    refine ex_aload_n 0 dX4_appeal_0 rfl rfl ?_
    refine ex_get (v := .ref (b + 1)) fl_X4_10 S.1.ob rfl dX4_appeal_1 ?_
    refine ex_iload_n 1 dX4_appeal_4 rfl rfl ?_
    refine ex_call0 (As := [.int p]) (v := .null) (ci := 3) vl_X4_76 rfl (c_atN hN (inR_not hp) n8) hN.ob rfl (by decide) (Nat.le_of_ble_eq_true rfl) (Nat.le_refl _) (Nat.le_refl _) rfl dX4_appeal_5 ?_
    refine ex_ifnonnullN dX4_appeal_8 ?_
    refine ex_iconst (v := (-1)) dX4_appeal_11 (by decide) ?_
    exact ex_iret hQ rfl (by unfold X_appeal; dsimp only; rw [if_neg hp]; exact ⟨rfl, rfl, S⟩) dX4_appeal_12

set_option maxRecDepth 20000 in
set_option maxHeartbeats 2000000 in
theorem c_give {G : GG} {l : Launch} {h0 : HP} {z b : Nat} {n : Nat} {g : Option Nat} {t : Nat} {u : Nat → Int32} {q : Nat → Nat → Int32} {k len : Nat} {L : Nat → AS} {V : Nat → Option AS} {c : Nat → Nat} (S0 : PP G h0 z b ((n, g, t, u, q), k, L, V, len, c)) (n8 : n ≤ 8) {v : Int32} : Ct G l 3 0 0 yX4_give cX4_give 2 (some .int) [.ref b, .int v] h0 z (pX G (X_give ((n, g, t, u, q), k, L, V, len, c) v) h0 z b) := by
  refine Ct.intro (lv := [(0, .ref b), (1, .int v)]) (by decide +kernel) (Nat.le_of_ble_eq_true rfl) rfl (fun X Q hQ hnm => ?_)
  have S := S0.xf
  refine ex_iload_n 1 dX4_give_0 rfl rfl ?_
  refine ex_iconst (v := nI 1) dX4_give_1 (by decide) ?_
  refine ex_icmp_lt (tgt := 12) dX4_give_2 (by decide) (fun c_2 => ?_) (fun c_2 => ?_)
  · refine ex_bipush (v := (-2)) dX4_give_12 (by decide) ?_
    exact ex_iret hQ rfl (by unfold X_give; rw [if_pos (by first | exact Or.inl c_2 | exact Or.inr (Int32.not_le.mp c_9))]; exact ⟨rfl, rfl, S⟩) dX4_give_14
  · refine ex_iload_n 1 dX4_give_5 rfl rfl ?_
    refine ex_sipush (v := nI 9999) dX4_give_6 (by decide) ?_
    refine ex_icmp_le (tgt := 15) dX4_give_9 (by decide) (fun c_9 => ?_) (fun c_9 => ?_)
    · refine ex_aload_n 0 dX4_give_15 rfl rfl ?_
      refine ex_get (v := .ref (b + 1)) fl_X4_10 S.1.ob rfl dX4_give_16 ?_
      refine ex_get (v := .int (u 11)) fl_X4_105 S.1.nob rfl dX4_give_19 ?_
      refine ex_iload_n 1 dX4_give_22 rfl rfl ?_
      refine ex_iadd dX4_give_23 ?_
      refine ex_ldc (v := nI 99999) dX4_give_24 kc_X4_108 ?_
      refine ex_icmp_le (tgt := 32) dX4_give_26 (by decide) (fun c_26 => ?_) (fun c_26 => ?_)
      · refine ex_aload_n 0 dX4_give_32 rfl rfl ?_
        refine ex_get (v := .ref (b + 23)) fl_X4_22 S.1.ob rfl dX4_give_33 ?_
        refine ex_aload_n 0 dX4_give_36 rfl rfl ?_
        refine ex_get (v := .ref (b + 1)) fl_X4_10 S.1.ob rfl dX4_give_37 ?_
        refine exX_rec vl_X4_48 S n8 (by decide) (Nat.le_of_ble_eq_true rfl) (Nat.le_refl _) (Nat.le_refl _) rfl dX4_give_40 (fun h S => ?_)
        have S : XF G h0 h z b ((n, g, t, u, q), (if k < 6 then k + 1 else 6), (recR k L (n, g, t, u, q)), V, len, c) := S
        refine ex_aload_n 0 dX4_give_43 rfl rfl ?_
        refine ex_get (v := .ref (b + 1)) fl_X4_10 S.1.ob rfl dX4_give_44 ?_
        refine ex_dup dX4_give_47 rfl ?_
        refine ex_get (v := .int (u 11)) fl_X4_105 S.1.nob rfl dX4_give_48 ?_
        refine ex_iload_n 1 dX4_give_51 rfl rfl ?_
        refine ex_iadd dX4_give_52 ?_
        refine exX_putU (i := 11) S fl_X4_105 (by decide) (by decide) rfl dX4_give_53 (fun h S => ?_)
        refine ex_aload_n 0 dX4_give_56 rfl rfl ?_
        refine ex_get (v := .ref (b + 1)) fl_X4_10 S.1.ob rfl dX4_give_57 ?_
        refine ex_dup dX4_give_60 rfl ?_
        refine ex_get (v := .int (u 16)) fl_X4_109 S.1.nob rfl dX4_give_61 ?_
        refine ex_iload_n 1 dX4_give_64 rfl rfl ?_
        refine ex_iadd dX4_give_65 ?_
        refine exX_putU (i := 16) S fl_X4_109 (by decide) (by decide) rfl dX4_give_66 (fun h S => ?_)
        refine ex_aload_n 0 dX4_give_69 rfl rfl ?_
        refine ex_get (v := .ref (b + 1)) fl_X4_10 S.1.ob rfl dX4_give_70 ?_
        refine ex_get (v := .int ((u 11) + v)) fl_X4_105 S.1.nob rfl dX4_give_73 ?_
        exact ex_iret hQ rfl (by unfold X_give; rw [if_neg (fun q9 => q9.elim c_2 (fun q9 => absurd c_9 (Int32.not_le.mpr q9))), if_neg (Int32.not_lt.mpr c_26)]; exact ⟨rfl, rfl, S⟩) dX4_give_76
      · refine ex_bipush (v := (-4)) dX4_give_29 (by decide) ?_
        exact ex_iret hQ rfl (by unfold X_give; rw [if_neg (fun q9 => q9.elim c_2 (fun q9 => absurd c_9 (Int32.not_le.mpr q9))), if_pos (Int32.not_le.mp c_26)]; exact ⟨rfl, rfl, S⟩) dX4_give_31
    · refine ex_bipush (v := (-2)) dX4_give_12 (by decide) ?_
      exact ex_iret hQ rfl (by unfold X_give; rw [if_pos (by first | exact Or.inl c_2 | exact Or.inr (Int32.not_le.mp c_9))]; exact ⟨rfl, rfl, S⟩) dX4_give_14
