theorem m_day {G : GG} {l : Launch} {h0 : HP} {z m kk len p : Nat} {A : AS} (S0 : RP G h0 m kk len p A) (hp : p ≤ 65) {K : Nat} (ok : okA K A) : Ct G l 4 0 0 yX5_passesOne cX5_passesOne 3 (some .boolean) [.ref m, .int (nI p)] h0 z (pR G (some (.int (hB (dayR A)))) h0 z m kk len p (dayA A)) := by
  obtain ⟨n, g, t, u, q⟩ := A
  exact m_passesOne S0 hp ok.1 ok.m3 ok.m8
theorem hB_0 {r : Option Nat} (h : hB r = 0) : r = none := by
  cases r
  · rfl
  · exact absurd (show nI 1 = 0 from h) (by decide)
theorem hB_1 {r : Option Nat} (h : ¬ hB r = 0) : ¬ r = none := fun q => h (by rw [q]; rfl)

set_option maxRecDepth 20000 in
set_option maxHeartbeats 2000000 in
theorem m_passes {G : GG} {l : Launch} {h0 : HP} {z m kk len p : Nat} {A : AS} (S0 : RP G h0 m kk len p A) (hp : p ≤ 65) {K : Nat} (ok : okA K A) {D : Nat} (hD : D < 1000) (hK : K < 2 ^ 29) : Ct G l 5 0 0 yX5_passes cX5_passes 5 (some .int) [.ref m, .int (nI p), .int (nI D)] h0 z (pR G (some (.int (nI (pcN A D)))) h0 z m kk len p (itA D A)) := by
  refine Ct.intro (lv := [(0, .ref m), (1, .int (nI p)), (2, .int (nI D))]) (by decide +kernel) (Nat.le_of_ble_eq_true rfl) rfl (fun X Q hQ hnm => ?_)
  have S := S0.rf
  refine ex_iconst (v := nI 0) dX5_passes_0 (by decide) ?_
  refine ex_istore_n (lv' := [(3, .int (nI 0)), (0, .ref m), (1, .int (nI p)), (2, .int (nI D))]) dX5_passes_1 rfl (by decide) rfl ?_
  refine ex_iconst (v := nI 0) dX5_passes_2 (by decide) ?_
  refine ex_istore (lv' := [(4, .int (nI 0)), (3, .int (nI 0)), (0, .ref m), (1, .int (nI p)), (2, .int (nI D))]) dX5_passes_3 (by decide) rfl ?_
  suffices H : ∀ (k2 k : Nat) (h : HP), k + k2 = D → RF G h0 h m kk len p (itA k A) → ex G l X Q 5 0 0 0 0 cX5_passes yX5_passes.cls 5 (some .int) h z 5 [(4, .int (nI k)), (3, .int (nI (pcN A k))), (0, .ref m), (1, .int (nI p)), (2, .int (nI D))] [] from by
    have e2 := H D 0 h0 (by omega) S
    refine ex_lv (lv2 := [(4, .int (nI 0)), (3, .int (nI (pcN A 0))), (0, .ref m), (1, .int (nI p)), (2, .int (nI D))]) [0, 1, 2, 3, 4] rfl ?_
    exact e2
  intro k2
  induction k2 with
  | zero =>
    intro k h hk S
    obtain rfl : k = D := hk
    refine ex_iload 0 dX5_passes_5 rfl ?_
    refine ex_iload_n 4 dX5_passes_7 rfl rfl ?_
    refine ex_icmp_ge (tgt := 33) dX5_passes_8 (by decide) (fun c_8 => ?_) (fun c_8 => absurd ((nI_leI (by omega) (by omega)).mpr (by omega)) c_8)
    refine ex_iload_n 1 dX5_passes_33 rfl rfl ?_
    exact ex_iret hQ rfl (by exact ⟨rfl, rfl, S⟩) dX5_passes_34
  | succ k2 ih =>
    intro k h hk S
    refine ex_iload 0 dX5_passes_5 rfl ?_
    refine ex_iload_n 4 dX5_passes_7 rfl rfl ?_
    refine ex_icmp_ge (tgt := 33) dX5_passes_8 (by decide) (fun c_8 => absurd c_8 (fun q9 => absurd ((nI_leI (by omega) (by omega)).mp q9) (by omega))) (fun c_8 => ?_)
    refine ex_iload_n 1 dX5_passes_11 rfl rfl ?_
    refine ex_aload_n 2 dX5_passes_12 rfl rfl ?_
    refine ex_iload_n 3 dX5_passes_13 rfl rfl ?_
    refine exM_call (As := [.int (nI p)]) (r0 := (some (.int (hB (dayR (itA k A)))))) (B := (itA (k + 1) A)) vl_X5_70 rfl S (fun S1 => m_day S1 hp (itA_ok ok k (by omega))) rfl (by decide) (Nat.le_of_ble_eq_true rfl) (Nat.le_refl _) (Nat.le_refl _) rfl dX5_passes_14 (fun h S => ?_)
    refine ex_if_eq (tgt := 24) dX5_passes_17 (by decide) (fun c_17 => ?_) (fun c_17 => ?_)
    · refine ex_iconst (v := nI 0) dX5_passes_24 (by decide) ?_
      refine ex_iaddN dX5_passes_25 ?_
      refine ex_istore_n (lv' := [(3, .int (nI (pcN A k + 0))), (4, .int (nI k)), (0, .ref m), (1, .int (nI p)), (2, .int (nI D))]) dX5_passes_26 rfl (by decide) rfl ?_
      refine ex_iinc (v := nI (k + 1)) (lv' := [(4, .int (nI (k + 1))), (3, .int (nI (pcN A k + 0))), (0, .ref m), (1, .int (nI p)), (2, .int (nI D))]) 1 dX5_passes_27 rfl (nI_1 k) (by decide) rfl ?_
      refine ex_goto (tgt := 5) dX5_passes_30 (by decide) ?_
      have e2 := ih (k + 1) h (by omega) S
      have ep : pcN A (k + 1) = pcN A k + 0 := by rw [pcN]; exact if_pos (hB_0 c_17)
      rw [ep] at e2
      refine ex_lv (lv2 := [(4, .int (nI (k + 1))), (3, .int (nI (pcN A k + 0))), (0, .ref m), (1, .int (nI p)), (2, .int (nI D))]) [0, 1, 2, 3, 4] rfl ?_
      exact e2
    · refine ex_iconst (v := nI 1) dX5_passes_20 (by decide) ?_
      refine ex_goto (tgt := 25) dX5_passes_21 (by decide) ?_
      refine ex_iaddN dX5_passes_25 ?_
      refine ex_istore_n (lv' := [(3, .int (nI (pcN A k + 1))), (4, .int (nI k)), (0, .ref m), (1, .int (nI p)), (2, .int (nI D))]) dX5_passes_26 rfl (by decide) rfl ?_
      refine ex_iinc (v := nI (k + 1)) (lv' := [(4, .int (nI (k + 1))), (3, .int (nI (pcN A k + 1))), (0, .ref m), (1, .int (nI p)), (2, .int (nI D))]) 1 dX5_passes_27 rfl (nI_1 k) (by decide) rfl ?_
      refine ex_goto (tgt := 5) dX5_passes_30 (by decide) ?_
      have e2 := ih (k + 1) h (by omega) S
      have ep : pcN A (k + 1) = pcN A k + 1 := by rw [pcN]; exact if_neg (hB_1 c_17)
      rw [ep] at e2
      refine ex_lv (lv2 := [(4, .int (nI (k + 1))), (3, .int (nI (pcN A k + 1))), (0, .ref m), (1, .int (nI p)), (2, .int (nI D))]) [0, 1, 2, 3, 4] rfl ?_
      exact e2

/-- two people change places, as far as the numbers below b go -/
def swQ (q : Nat → Nat → Int32) (x y b : Nat) : Nat → Nat → Int32 := fun a c => if c < b then (if a = x then q y c else if a = y then q x c else q a c) else q a c
theorem swQ_0 {q : Nat → Nat → Int32} {x y : Nat} : swQ q x y 0 = q := by
  funext a c
  exact if_neg (by omega)
theorem swQ_s {q : Nat → Nat → Int32} {x y b : Nat} (hxy : x ≠ y) : uq (uq (swQ q x y b) x b (swQ q x y b y b)) y b (swQ q x y b x b) = swQ q x y (b + 1) := by
  funext a c
  unfold uq swQ
  by_cases e : c = b
  · subst e
    by_cases e1 : a = y
    · subst e1
      simp [Ne.symm hxy]
    · by_cases e2 : a = x
      · subst e2
        simp [hxy]
      · simp [e1, e2]
  · have e3 : c < b + 1 ↔ c < b := by omega
    simp [e, e3]

set_option maxRecDepth 20000 in
set_option maxHeartbeats 2000000 in
theorem m_changes {G : GG} {l : Launch} {h0 : HP} {z m kk len p : Nat} {n : Nat} {g : Option Nat} {t : Nat} {u : Nat → Int32} {q : Nat → Nat → Int32} (S0 : RP G h0 m kk len p (n, g, t, u, q)) (hp : p ≤ 65) (n8 : n ≤ 8) {x y : Nat} (hx : x < n) (hy : y < n) (hxy : x ≠ y) : Ct G l 1 0 0 yX5_changesPlaces cX5_changesPlaces 6 none [.ref m, .int (nI p), .int (nI x), .int (nI y)] h0 z (pR G none h0 z m kk len p (n, g, t, u, swQ q x y 6)) := by
  refine Ct.intro (lv := [(0, .ref m), (1, .int (nI p)), (2, .int (nI x)), (3, .int (nI y))]) (by decide +kernel) (Nat.le_of_ble_eq_true rfl) rfl (fun X Q hQ hnm => ?_)
  have S := S0.rf
  refine ex_iconst (v := nI 0) dX5_changesPlaces_0 (by decide) ?_
  refine ex_istore (lv' := [(4, .int (nI 0)), (0, .ref m), (1, .int (nI p)), (2, .int (nI x)), (3, .int (nI y))]) dX5_changesPlaces_1 (by decide) rfl ?_
  suffices H : ∀ (k2 b : Nat) (h : HP), b + k2 = 6 → RF G h0 h m kk len p (n, g, t, u, swQ q x y b) → ex G l X Q 1 0 0 0 0 cX5_changesPlaces yX5_changesPlaces.cls 6 none h z 3 [(4, .int (nI b)), (0, .ref m), (1, .int (nI p)), (2, .int (nI x)), (3, .int (nI y))] [] from by
    have e2 := H 6 0 h0 (by omega) (by rw [swQ_0]; exact S)
    refine ex_lv (lv2 := [(4, .int (nI 0)), (0, .ref m), (1, .int (nI p)), (2, .int (nI x)), (3, .int (nI y))]) [0, 1, 2, 3, 4] rfl ?_
    exact e2
  intro k2
  induction k2 with
  | zero =>
    intro b h hb S
    obtain rfl : b = 6 := hb
    refine ex_iload 0 dX5_changesPlaces_3 rfl ?_
    refine ex_bipush (v := nI 6) dX5_changesPlaces_5 (by decide) ?_
    refine ex_icmp_ge (tgt := 72) dX5_changesPlaces_7 (by decide) (fun c_7 => ?_) (fun c_7 => absurd ((nI_leI (by omega) (by omega)).mpr (by omega)) c_7)
    exact ex_vret hQ rfl (by exact ⟨rfl, rfl, S⟩) dX5_changesPlaces_72
  | succ k2 ih =>
    intro b h hb S
    refine ex_iload 0 dX5_changesPlaces_3 rfl ?_
    refine ex_bipush (v := nI 6) dX5_changesPlaces_5 (by decide) ?_
    refine ex_icmp_ge (tgt := 72) dX5_changesPlaces_7 (by decide) (fun c_7 => absurd c_7 (fun q9 => absurd ((nI_leI (by omega) (by omega)).mp q9) (by omega))) (fun c_7 => ?_)
    refine ex_aload_n 1 dX5_changesPlaces_10 rfl rfl ?_
    refine ex_get (v := .ref (m + 1)) fl_X5_7 S.1 rfl dX5_changesPlaces_11 ?_
    refine ex_iload_n 2 dX5_changesPlaces_14 rfl rfl ?_
    refine ex_iload_n 3 dX5_changesPlaces_15 rfl rfl ?_
    refine ex_callS0 (As := [.int (nI p), .int (nI x)]) (v := .int (nI (p + 17 + 6 * x))) vl_X5_34 (m_at) rfl (by decide) (Nat.le_of_ble_eq_true rfl) (Nat.le_refl _) (Nat.le_refl _) rfl dX5_changesPlaces_16 ?_
    refine ex_iload 0 dX5_changesPlaces_19 rfl ?_
    refine ex_iaddN dX5_changesPlaces_21 ?_
    refine exM_ldq (p := p) (j := x) (b := b) (v := (swQ q x y b) x b) S hp rfl hx (by omega) (by omega) rfl dX5_changesPlaces_22 ?_
    refine ex_istore (lv' := [(5, .int ((swQ q x y b) x b)), (4, .int (nI b)), (0, .ref m), (1, .int (nI p)), (2, .int (nI x)), (3, .int (nI y))]) dX5_changesPlaces_23 (by decide) rfl ?_
    refine ex_aload_n 2 dX5_changesPlaces_25 rfl rfl ?_
    refine ex_get (v := .ref (m + 1)) fl_X5_7 S.1 rfl dX5_changesPlaces_26 ?_
    refine ex_iload_n 3 dX5_changesPlaces_29 rfl rfl ?_
    refine ex_iload_n 4 dX5_changesPlaces_30 rfl rfl ?_
    refine ex_callS0 (As := [.int (nI p), .int (nI x)]) (v := .int (nI (p + 17 + 6 * x))) vl_X5_34 (m_at) rfl (by decide) (Nat.le_of_ble_eq_true rfl) (Nat.le_refl _) (Nat.le_refl _) rfl dX5_changesPlaces_31 ?_
    refine ex_iload 1 dX5_changesPlaces_34 rfl ?_
    refine ex_iaddN dX5_changesPlaces_36 ?_
    refine ex_aload_n 2 dX5_changesPlaces_37 rfl rfl ?_
    refine ex_get (v := .ref (m + 1)) fl_X5_7 S.1 rfl dX5_changesPlaces_38 ?_
    refine ex_iload_n 3 dX5_changesPlaces_41 rfl rfl ?_
    refine ex_iload_n 5 dX5_changesPlaces_42 rfl rfl ?_
    refine ex_callS0 (As := [.int (nI p), .int (nI y)]) (v := .int (nI (p + 17 + 6 * y))) vl_X5_34 (m_at) rfl (by decide) (Nat.le_of_ble_eq_true rfl) (Nat.le_refl _) (Nat.le_refl _) rfl dX5_changesPlaces_43 ?_
    refine ex_iload 1 dX5_changesPlaces_46 rfl ?_
    refine ex_iaddN dX5_changesPlaces_48 ?_
    refine exM_ldq (p := p) (j := y) (b := b) (v := (swQ q x y b) y b) S hp rfl hy (by omega) (by omega) rfl dX5_changesPlaces_49 ?_
    refine exM_stQ (p := p) (j := x) (b := b) S hp rfl (by omega) (by omega) dX5_changesPlaces_50 (fun h S => ?_)
    refine ex_aload_n 2 dX5_changesPlaces_51 rfl rfl ?_
    refine ex_get (v := .ref (m + 1)) fl_X5_7 S.1 rfl dX5_changesPlaces_52 ?_
    refine ex_iload_n 3 dX5_changesPlaces_55 rfl rfl ?_
    refine ex_iload_n 5 dX5_changesPlaces_56 rfl rfl ?_
    refine ex_callS0 (As := [.int (nI p), .int (nI y)]) (v := .int (nI (p + 17 + 6 * y))) vl_X5_34 (m_at) rfl (by decide) (Nat.le_of_ble_eq_true rfl) (Nat.le_refl _) (Nat.le_refl _) rfl dX5_changesPlaces_57 ?_
    refine ex_iload 1 dX5_changesPlaces_60 rfl ?_
    refine ex_iaddN dX5_changesPlaces_62 ?_
    refine ex_iload 0 dX5_changesPlaces_63 rfl ?_
    refine exM_stQ (p := p) (j := y) (b := b) S hp rfl (by omega) (by omega) dX5_changesPlaces_65 (fun h S => ?_)
    refine ex_iinc (v := nI (b + 1)) (lv' := [(4, .int (nI (b + 1))), (5, .int ((swQ q x y b) x b)), (0, .ref m), (1, .int (nI p)), (2, .int (nI x)), (3, .int (nI y))]) 1 dX5_changesPlaces_66 rfl (nI_1 b) (by decide) rfl ?_
    refine ex_goto (tgt := 3) dX5_changesPlaces_69 (by decide) ?_
    rw [swQ_s hxy] at S
    have e2 := ih (b + 1) h (by omega) S
    refine ex_lv (lv2 := [(4, .int (nI (b + 1))), (0, .ref m), (1, .int (nI p)), (2, .int (nI x)), (3, .int (nI y))]) [0, 2, 3, 4, 5] rfl ?_
    exact e2

theorem mvI_self {x a : Nat} : mvI x x a = a := by
  unfold mvI
  by_cases h : a = x
  · rw [if_pos h, h]
  · rw [if_neg h, if_neg (by omega), if_neg (by omega)]
theorem mvI_up {x k a : Nat} (h : x ≤ k) : mvI x (k + 1) a = if a = k then mvI x k (k + 1) else if a = k + 1 then mvI x k k else mvI x k a := by
  unfold mvI
  split <;> (try split) <;> (try split) <;> (try split) <;> (try split) <;> (try split) <;> (try split) <;> (try split) <;> omega
theorem mvI_dn {x k a : Nat} (h : k ≤ x) (h1 : 1 ≤ k) : mvI x (k - 1) a = if a = k then mvI x k (k - 1) else if a = k - 1 then mvI x k k else mvI x k a := by
  unfold mvI
  split <;> (try split) <;> (try split) <;> (try split) <;> (try split) <;> (try split) <;> (try split) <;> (try split) <;> omega
theorem swQ_up {q q2 : Nat → Nat → Int32} {x k n : Nat} (h : x ≤ k) (hk : k + 1 < n) (hq : ∀ a c, a < n → c < 6 → q2 a c = q (mvI x k a) c) : ∀ a c, a < n → c < 6 → swQ q2 k (k + 1) 6 a c = q (mvI x (k + 1) a) c := fun a c ha hc => by
  unfold swQ
  rw [if_pos hc, mvI_up h]
  split
  · exact hq _ _ hk hc
  · split
    · exact hq _ _ (by omega) hc
    · exact hq _ _ ha hc
theorem swQ_dn {q q2 : Nat → Nat → Int32} {x k n : Nat} (h : k ≤ x) (h1 : 1 ≤ k) (hk : k < n) (hq : ∀ a c, a < n → c < 6 → q2 a c = q (mvI x k a) c) : ∀ a c, a < n → c < 6 → swQ q2 k (k - 1) 6 a c = q (mvI x (k - 1) a) c := fun a c ha hc => by
  unfold swQ
  rw [if_pos hc, mvI_dn h h1]
  split
  · exact hq _ _ (by omega) hc
  · split
    · exact hq _ _ (by omega) hc
    · exact hq _ _ ha hc

set_option maxRecDepth 20000 in
set_option maxHeartbeats 2000000 in
theorem m_moves {G : GG} {l : Launch} {h0 : HP} {z m kk len p : Nat} {n : Nat} {g : Option Nat} {t : Nat} {u : Nat → Int32} {q : Nat → Nat → Int32} (S0 : RP G h0 m kk len p (n, g, t, u, q)) (hp : p ≤ 65) (n8 : n ≤ 8) (gw : ∀ i, g = some i → i < n) (tw : t < n ∨ t = 0) {x y : Nat} (hx : x < n) (hy : y < n) : Ct G l 2 0 0 yX5_moves cX5_moves 6 none [.ref m, .int (nI p), .int (nI x), .int (nI y)] h0 z (pR G none h0 z m kk len p (moveA (n, g, t, u, q) x y)) := by
  refine Ct.intro (lv := [(0, .ref m), (1, .int (nI p)), (2, .int (nI x)), (3, .int (nI y))]) (by decide +kernel) (Nat.le_of_ble_eq_true rfl) rfl (fun X Q hQ hnm => ?_)
  have S := S0.rf
  have TL : ∀ (h : HP) (v : Int32) (q2 : Nat → Nat → Int32), RF G h0 h m kk len p (n, g, t, u, q2) → (∀ a c, a < n → c < 6 → q2 a c = q (mvI x y a) c) → ex G l X Q 2 0 0 0 0 cX5_moves yX5_moves.cls 6 none h z 43 [(5, .int (nI y)), (4, .int v), (0, .ref m), (1, .int (nI p)), (2, .int (nI x)), (3, .int (nI y))] [] := by
    intro h v q2 S hq
    rcases g with _ | i
    · refine ex_aload_n 2 dX5_moves_43 rfl rfl ?_
      refine ex_get (v := .ref (m + 1)) fl_X5_7 S.1 rfl dX5_moves_44 ?_
      refine ex_iload_n 3 dX5_moves_47 rfl rfl ?_
      refine ex_bipush (v := nI 9) dX5_moves_48 (by decide) ?_
      refine ex_iaddN dX5_moves_50 ?_
      refine ex_aload_n 2 dX5_moves_51 rfl rfl ?_
      refine ex_get (v := .ref (m + 1)) fl_X5_7 S.1 rfl dX5_moves_52 ?_
      refine ex_iload_n 3 dX5_moves_55 rfl rfl ?_
      refine ex_bipush (v := nI 9) dX5_moves_56 (by decide) ?_
      refine ex_iaddN dX5_moves_58 ?_
      refine exM_ld (p := p) (i := 9) (v := (-1)) S hp rfl (by decide) rfl dX5_moves_59 ?_
      refine ex_if_ge (tgt := 67) dX5_moves_60 (by decide) (fun c_60 => absurd c_60 (by decide)) (fun c_60 => ?_)
      refine ex_iconst (v := (-1)) dX5_moves_63 (by decide) ?_
      refine ex_goto (tgt := 81) dX5_moves_64 (by decide) ?_
      refine exM_stG (p := p) (g1 := none) S hp rfl rfl dX5_moves_81 (fun h S => ?_)
      refine ex_aload_n 2 dX5_moves_82 rfl rfl ?_
      refine ex_get (v := .ref (m + 1)) fl_X5_7 S.1 rfl dX5_moves_83 ?_
      refine ex_iload_n 3 dX5_moves_86 rfl rfl ?_
      refine ex_bipush (v := nI 10) dX5_moves_87 (by decide) ?_
      refine ex_iaddN dX5_moves_89 ?_
      refine ex_aload_n 2 dX5_moves_90 rfl rfl ?_
      refine ex_get (v := .ref (m + 1)) fl_X5_7 S.1 rfl dX5_moves_91 ?_
      refine ex_iload_n 3 dX5_moves_94 rfl rfl ?_
      refine ex_bipush (v := nI 10) dX5_moves_95 (by decide) ?_
      refine ex_iaddN dX5_moves_97 ?_
      refine exM_ld (p := p) (i := 10) (v := nI t) S hp rfl (by decide) rfl dX5_moves_98 ?_
      refine ex_iload_n 4 dX5_moves_99 rfl rfl ?_
      refine ex_iload_n 5 dX5_moves_100 rfl rfl ?_
      refine ex_callS0 (As := [.int (nI t), .int (nI x), .int (nI y)]) (v := .int (nI (mvP t x y))) vl_X5_77 (m_moved (by omega) (by omega) (by omega)) rfl (by decide) (Nat.le_of_ble_eq_true rfl) (Nat.le_refl _) (Nat.le_refl _) rfl dX5_moves_101 ?_
      refine exM_stT (p := p) (t1 := mvP t x y) S hp rfl rfl dX5_moves_104 (fun h S => ?_)
      exact ex_vret hQ rfl (by refine ⟨rfl, rfl, S.to (fun b _ => mu_q b) (Nat.le_refl _) (fun a c ha hc => (hq a c ha hc).symm)⟩) dX5_moves_105
    · have hi : i < n := gw i rfl
      refine ex_aload_n 2 dX5_moves_43 rfl rfl ?_
      refine ex_get (v := .ref (m + 1)) fl_X5_7 S.1 rfl dX5_moves_44 ?_
      refine ex_iload_n 3 dX5_moves_47 rfl rfl ?_
      refine ex_bipush (v := nI 9) dX5_moves_48 (by decide) ?_
      refine ex_iaddN dX5_moves_50 ?_
      refine ex_aload_n 2 dX5_moves_51 rfl rfl ?_
      refine ex_get (v := .ref (m + 1)) fl_X5_7 S.1 rfl dX5_moves_52 ?_
      refine ex_iload_n 3 dX5_moves_55 rfl rfl ?_
      refine ex_bipush (v := nI 9) dX5_moves_56 (by decide) ?_
      refine ex_iaddN dX5_moves_58 ?_
      refine exM_ld (p := p) (i := 9) (v := nI i) S hp rfl (by decide) rfl dX5_moves_59 ?_
      refine ex_if_ge (tgt := 67) dX5_moves_60 (by decide) (fun c_60 => ?_) (fun c_60 => absurd (nI_pos' (by omega)) c_60)
      refine ex_aload_n 2 dX5_moves_67 rfl rfl ?_
      refine ex_get (v := .ref (m + 1)) fl_X5_7 S.1 rfl dX5_moves_68 ?_
      refine ex_iload_n 3 dX5_moves_71 rfl rfl ?_
      refine ex_bipush (v := nI 9) dX5_moves_72 (by decide) ?_
      refine ex_iaddN dX5_moves_74 ?_
      refine exM_ld (p := p) (i := 9) (v := nI i) S hp rfl (by decide) rfl dX5_moves_75 ?_
      refine ex_iload_n 4 dX5_moves_76 rfl rfl ?_
      refine ex_iload_n 5 dX5_moves_77 rfl rfl ?_
      refine ex_callS0 (As := [.int (nI i), .int (nI x), .int (nI y)]) (v := .int (nI (mvP i x y))) vl_X5_77 (m_moved (by omega) (by omega) (by omega)) rfl (by decide) (Nat.le_of_ble_eq_true rfl) (Nat.le_refl _) (Nat.le_refl _) rfl dX5_moves_78 ?_
      refine exM_stG (p := p) (g1 := (some (mvP i x y))) S hp rfl rfl dX5_moves_81 (fun h S => ?_)
      refine ex_aload_n 2 dX5_moves_82 rfl rfl ?_
      refine ex_get (v := .ref (m + 1)) fl_X5_7 S.1 rfl dX5_moves_83 ?_
      refine ex_iload_n 3 dX5_moves_86 rfl rfl ?_
      refine ex_bipush (v := nI 10) dX5_moves_87 (by decide) ?_
      refine ex_iaddN dX5_moves_89 ?_
      refine ex_aload_n 2 dX5_moves_90 rfl rfl ?_
      refine ex_get (v := .ref (m + 1)) fl_X5_7 S.1 rfl dX5_moves_91 ?_
      refine ex_iload_n 3 dX5_moves_94 rfl rfl ?_
      refine ex_bipush (v := nI 10) dX5_moves_95 (by decide) ?_
      refine ex_iaddN dX5_moves_97 ?_
      refine exM_ld (p := p) (i := 10) (v := nI t) S hp rfl (by decide) rfl dX5_moves_98 ?_
      refine ex_iload_n 4 dX5_moves_99 rfl rfl ?_
      refine ex_iload_n 5 dX5_moves_100 rfl rfl ?_
      refine ex_callS0 (As := [.int (nI t), .int (nI x), .int (nI y)]) (v := .int (nI (mvP t x y))) vl_X5_77 (m_moved (by omega) (by omega) (by omega)) rfl (by decide) (Nat.le_of_ble_eq_true rfl) (Nat.le_refl _) (Nat.le_refl _) rfl dX5_moves_101 ?_
      refine exM_stT (p := p) (t1 := mvP t x y) S hp rfl rfl dX5_moves_104 (fun h S => ?_)
      exact ex_vret hQ rfl (by refine ⟨rfl, rfl, S.to (fun b _ => mu_q b) (Nat.le_refl _) (fun a c ha hc => (hq a c ha hc).symm)⟩) dX5_moves_105
  refine ex_iload_n 3 dX5_moves_0 rfl rfl ?_
  refine ex_iload_n 2 dX5_moves_1 rfl rfl ?_
  refine ex_icmp_le (tgt := 9) dX5_moves_2 (by decide) (fun c_2 => ?_) (fun c_2 => ?_)
  · have n_2 : y ≤ x := (nI_leI (by omega) (by omega)).mp c_2
    refine ex_iconst (v := (-1)) dX5_moves_9 (by decide) ?_
    refine ex_istore (lv' := [(4, .int (-1)), (0, .ref m), (1, .int (nI p)), (2, .int (nI x)), (3, .int (nI y))]) dX5_moves_10 (by decide) rfl ?_
    refine ex_iload_n 3 dX5_moves_12 rfl rfl ?_
    refine ex_istore (lv' := [(5, .int (nI x)), (4, .int (-1)), (0, .ref m), (1, .int (nI p)), (2, .int (nI x)), (3, .int (nI y))]) dX5_moves_13 (by decide) rfl ?_
    suffices H : ∀ (k2 k : Nat) (h : HP) (q2 : Nat → Nat → Int32), y + k2 = k → k ≤ x → RF G h0 h m kk len p (n, g, t, u, q2) → (∀ a c, a < n → c < 6 → q2 a c = q (mvI x k a) c) → ex G l X Q 2 0 0 0 0 cX5_moves yX5_moves.cls 6 none h z 15 [(5, .int (nI k)), (4, .int (-1)), (0, .ref m), (1, .int (nI p)), (2, .int (nI x)), (3, .int (nI y))] [] from by
      have e2 := H (x - y) x h0 q (by omega) (Nat.le_refl _) S (fun a c _ _ => by rw [mvI_self])
      refine ex_lv (lv2 := [(5, .int (nI x)), (4, .int (-1)), (0, .ref m), (1, .int (nI p)), (2, .int (nI x)), (3, .int (nI y))]) [0, 1, 2, 3, 4, 5] rfl ?_
      exact e2
    intro k2
    induction k2 with
    | zero =>
      intro k h q2 hk hx2 S hq
      obtain rfl : k = y := by omega
      refine ex_iload 0 dX5_moves_15 rfl ?_
      refine ex_iload_n 5 dX5_moves_17 rfl rfl ?_
      refine ex_icmp_eq (tgt := 43) dX5_moves_18 (by decide) (fun c_18 => ?_) (fun c_18 => absurd (rfl) c_18)
      exact TL h _ q2 S hq
    | succ k2 ih =>
      intro k h q2 hk hx2 S hq
      refine ex_iload 0 dX5_moves_15 rfl ?_
      refine ex_iload_n 5 dX5_moves_17 rfl rfl ?_
      refine ex_icmp_eq (tgt := 43) dX5_moves_18 (by decide) (fun c_18 => absurd c_18 (fun q9 => absurd ((nI_eq (by omega) (by omega)).mp q9) (by omega))) (fun c_18 => ?_)
      refine ex_aload_n 2 dX5_moves_21 rfl rfl ?_
      refine ex_iload_n 3 dX5_moves_22 rfl rfl ?_
      refine ex_iload 0 dX5_moves_23 rfl ?_
      refine ex_iload 0 dX5_moves_25 rfl ?_
      refine ex_iload 1 dX5_moves_27 rfl ?_
      refine ex_iadd dX5_moves_29 ?_
      rw [nI_m1 (by omega)]
      refine exM_call (As := [.int (nI p), .int (nI k), .int (nI (k - 1))]) (r0 := none) (B := (n, g, t, u, (swQ q2 k (k - 1) 6))) vl_X5_73 rfl S (fun S1 => m_changes S1 hp n8 (show k < n by omega) (show k - 1 < n by omega) (by omega)) rfl (by decide) (Nat.le_of_ble_eq_true rfl) (Nat.le_refl _) (Nat.le_refl _) rfl dX5_moves_30 (fun h S => ?_)
      refine ex_iload 0 dX5_moves_33 rfl ?_
      refine ex_iload 1 dX5_moves_35 rfl ?_
      refine ex_iadd dX5_moves_37 ?_
      rw [nI_m1 (by omega)]
      refine ex_istore (lv' := [(5, .int (nI (k - 1))), (4, .int (-1)), (0, .ref m), (1, .int (nI p)), (2, .int (nI x)), (3, .int (nI y))]) dX5_moves_38 (by decide) rfl ?_
      refine ex_goto (tgt := 15) dX5_moves_40 (by decide) ?_
      have e2 := ih (k - 1) h _ (by omega) (by omega) S (swQ_dn hx2 (by omega) (by omega) hq)
      refine ex_lv (lv2 := [(5, .int (nI (k - 1))), (4, .int (-1)), (0, .ref m), (1, .int (nI p)), (2, .int (nI x)), (3, .int (nI y))]) [0, 1, 2, 3, 4, 5] rfl ?_
      exact e2
  · have n_2 : ¬ (y ≤ x) := fun q9 => c_2 ((nI_leI (by omega) (by omega)).mpr q9)
    refine ex_iconst (v := nI 1) dX5_moves_5 (by decide) ?_
    refine ex_goto (tgt := 10) dX5_moves_6 (by decide) ?_
    refine ex_istore (lv' := [(4, .int (nI 1)), (0, .ref m), (1, .int (nI p)), (2, .int (nI x)), (3, .int (nI y))]) dX5_moves_10 (by decide) rfl ?_
    refine ex_iload_n 3 dX5_moves_12 rfl rfl ?_
    refine ex_istore (lv' := [(5, .int (nI x)), (4, .int (nI 1)), (0, .ref m), (1, .int (nI p)), (2, .int (nI x)), (3, .int (nI y))]) dX5_moves_13 (by decide) rfl ?_
    suffices H : ∀ (k2 k : Nat) (h : HP) (q2 : Nat → Nat → Int32), k + k2 = y → x ≤ k → RF G h0 h m kk len p (n, g, t, u, q2) → (∀ a c, a < n → c < 6 → q2 a c = q (mvI x k a) c) → ex G l X Q 2 0 0 0 0 cX5_moves yX5_moves.cls 6 none h z 15 [(5, .int (nI k)), (4, .int (nI 1)), (0, .ref m), (1, .int (nI p)), (2, .int (nI x)), (3, .int (nI y))] [] from by
      have e2 := H (y - x) x h0 q (by omega) (Nat.le_refl _) S (fun a c _ _ => by rw [mvI_self])
      refine ex_lv (lv2 := [(5, .int (nI x)), (4, .int (nI 1)), (0, .ref m), (1, .int (nI p)), (2, .int (nI x)), (3, .int (nI y))]) [0, 1, 2, 3, 4, 5] rfl ?_
      exact e2
    intro k2
    induction k2 with
    | zero =>
      intro k h q2 hk hx2 S hq
      obtain rfl : k = y := by omega
      refine ex_iload 0 dX5_moves_15 rfl ?_
      refine ex_iload_n 5 dX5_moves_17 rfl rfl ?_
      refine ex_icmp_eq (tgt := 43) dX5_moves_18 (by decide) (fun c_18 => ?_) (fun c_18 => absurd (rfl) c_18)
      exact TL h _ q2 S hq
    | succ k2 ih =>
      intro k h q2 hk hx2 S hq
      refine ex_iload 0 dX5_moves_15 rfl ?_
      refine ex_iload_n 5 dX5_moves_17 rfl rfl ?_
      refine ex_icmp_eq (tgt := 43) dX5_moves_18 (by decide) (fun c_18 => absurd c_18 (fun q9 => absurd ((nI_eq (by omega) (by omega)).mp q9) (by omega))) (fun c_18 => ?_)
      refine ex_aload_n 2 dX5_moves_21 rfl rfl ?_
      refine ex_iload_n 3 dX5_moves_22 rfl rfl ?_
      refine ex_iload 0 dX5_moves_23 rfl ?_
      refine ex_iload 0 dX5_moves_25 rfl ?_
      refine ex_iload 1 dX5_moves_27 rfl ?_
      refine ex_iaddN dX5_moves_29 ?_
      refine exM_call (As := [.int (nI p), .int (nI k), .int (nI (k + 1))]) (r0 := none) (B := (n, g, t, u, (swQ q2 k (k + 1) 6))) vl_X5_73 rfl S (fun S1 => m_changes S1 hp n8 (show k < n by omega) (show k + 1 < n by omega) (by omega)) rfl (by decide) (Nat.le_of_ble_eq_true rfl) (Nat.le_refl _) (Nat.le_refl _) rfl dX5_moves_30 (fun h S => ?_)
      refine ex_iload 0 dX5_moves_33 rfl ?_
      refine ex_iload 1 dX5_moves_35 rfl ?_
      refine ex_iaddN dX5_moves_37 ?_
      refine ex_istore (lv' := [(5, .int (nI (k + 1))), (4, .int (nI 1)), (0, .ref m), (1, .int (nI p)), (2, .int (nI x)), (3, .int (nI y))]) dX5_moves_38 (by decide) rfl ?_
      refine ex_goto (tgt := 15) dX5_moves_40 (by decide) ?_
      have e2 := ih (k + 1) h _ (by omega) (by omega) S (swQ_up hx2 (by omega) hq)
      refine ex_lv (lv2 := [(5, .int (nI (k + 1))), (4, .int (nI 1)), (0, .ref m), (1, .int (nI p)), (2, .int (nI x)), (3, .int (nI y))]) [0, 1, 2, 3, 4, 5] rfl ?_
      exact e2

