set_option maxRecDepth 20000 in
set_option maxHeartbeats 2000000 in
theorem c_dropOldest {G : GG} {l : Launch} {h0 : HP} {z b k : Nat} {r : Nat → Option Nat} {P : Nat → AS} {σ : Nat → Nat} (S : HA G h0 h0 b k r P) (hr : ∀ j, j < 6 → r j = some (b + 2 + 11 * σ j)) (hσ : ∀ j, j < 6 → σ j < 6) : Ct G l 0 0 0 yX0_dropOldest cX0_dropOldest 3 none [.ref b] h0 z (fun rr h1 z1 => rr = none ∧ z1 = z ∧ ∃ r1 : Nat → Option Nat, HA G h0 h1 b 5 r1 P ∧ ∀ j, j < 6 → r1 j = some (b + 2 + 11 * (if j < 5 then σ (j + 1) else σ 0))) := by
  refine Ct.intro (lv := [(0, .ref b)]) (by decide +kernel) (Nat.le_of_ble_eq_true rfl) rfl (fun X Q hQ hnm => ?_)
  refine ex_aload_n 0 dX0_dropOldest_0 rfl rfl ?_
  refine ex_get (v := .ref (b + 1)) fl_X0_11 S.1 rfl dX0_dropOldest_1 ?_
  refine ex_iconst (v := nI 0) dX0_dropOldest_4 (by decide) ?_
  refine exH_ld (i := 0) (v := b + 2 + 11 * (σ 0)) S rfl (by omega) (hr 0 (by decide)) dX0_dropOldest_5 ?_
  refine ex_astore_n (lv' := [(1, .ref (b + 2 + 11 * (σ 0))), (0, .ref b)]) dX0_dropOldest_6 rfl (by decide) rfl ?_
  refine ex_iconst (v := nI 1) dX0_dropOldest_7 (by decide) ?_
  refine ex_istore_n (lv' := [(2, .int (nI 1)), (1, .ref (b + 2 + 11 * (σ 0))), (0, .ref b)]) dX0_dropOldest_8 rfl (by decide) rfl ?_
  suffices H : ∀ (k2 m : Nat) (h : HP) (r2 : Nat → Option Nat), m + k2 = 6 → 1 ≤ m → HA G h0 h b k r2 P → (∀ j, j < 6 → r2 j = some (b + 2 + 11 * σ (if j + 1 < m then j + 1 else j))) → ex G l X Q 0 0 0 0 0 cX0_dropOldest yX0_dropOldest.cls 3 none h z 9 [(2, .int (nI m)), (1, .ref (b + 2 + 11 * (σ 0))), (0, .ref b)] [] from by
    have e2 := H 5 1 h0 r (by omega) (by omega) S (fun j hj => by rw [hr j hj, if_neg (by omega)])
    refine ex_lv (lv2 := [(2, .int (nI 1)), (1, .ref (b + 2 + 11 * (σ 0))), (0, .ref b)]) [0, 1, 2] rfl ?_
    exact e2
  intro k2
  induction k2 with
  | zero =>
    intro m h r2 hm h1 S hr2
    refine ex_iload_n 0 dX0_dropOldest_9 rfl rfl ?_
    refine ex_bipush (v := nI 6) dX0_dropOldest_10 (by decide) ?_
    refine ex_icmp_ge (tgt := 35) dX0_dropOldest_12 (by decide) (fun c_12 => ?_) (fun c_12 => absurd ((nI_leI (by omega) (by omega)).mpr (by omega)) c_12)
    refine ex_aload_n 2 dX0_dropOldest_35 rfl rfl ?_
    refine ex_get (v := .ref (b + 1)) fl_X0_11 S.1 rfl dX0_dropOldest_36 ?_
    refine ex_iconst (v := nI 5) dX0_dropOldest_39 (by decide) ?_
    refine ex_aload_n 1 dX0_dropOldest_40 rfl rfl ?_
    refine exH_st (i := 5) (s := (σ 0)) S rfl (by omega) (hσ _ (by omega)) dX0_dropOldest_41 (fun h S => ?_)
    refine ex_aload_n 2 dX0_dropOldest_42 rfl rfl ?_
    refine ex_iconst (v := nI 5) dX0_dropOldest_43 (by decide) ?_
    refine exH_len (k2 := 5) S fl_X0_17 rfl dX0_dropOldest_44 (fun h S => ?_)
    exact ex_vret hQ rfl ⟨rfl, rfl, _, S, fun j hj => by
          show (if j = 5 then _ else r2 j) = _
          by_cases e : j = 5
          · rw [if_pos e, if_neg (by omega)]
          · rw [if_neg e, hr2 j hj, if_pos (by omega), if_pos (by omega)]⟩ dX0_dropOldest_47
  | succ k2 ih =>
    intro m h r2 hm h1 S hr2
    refine ex_iload_n 0 dX0_dropOldest_9 rfl rfl ?_
    refine ex_bipush (v := nI 6) dX0_dropOldest_10 (by decide) ?_
    refine ex_icmp_ge (tgt := 35) dX0_dropOldest_12 (by decide) (fun c_12 => absurd c_12 (fun q9 => absurd ((nI_leI (by omega) (by omega)).mp q9) (by omega))) (fun c_12 => ?_)
    refine ex_aload_n 2 dX0_dropOldest_15 rfl rfl ?_
    refine ex_get (v := .ref (b + 1)) fl_X0_11 S.1 rfl dX0_dropOldest_16 ?_
    refine ex_iload_n 0 dX0_dropOldest_19 rfl rfl ?_
    refine ex_iconst (v := nI 1) dX0_dropOldest_20 (by decide) ?_
    refine ex_isubN dX0_dropOldest_21 (by omega) ?_
    refine ex_aload_n 2 dX0_dropOldest_22 rfl rfl ?_
    refine ex_get (v := .ref (b + 1)) fl_X0_11 S.1 rfl dX0_dropOldest_23 ?_
    refine ex_iload_n 0 dX0_dropOldest_26 rfl rfl ?_
    refine exH_ld (i := m) (v := b + 2 + 11 * (σ m)) S rfl (by omega) (by rw [hr2 _ (by omega), if_neg (by omega)]) dX0_dropOldest_27 ?_
    refine exH_st (i := m - 1) (s := (σ m)) S rfl (by omega) (hσ _ (by omega)) dX0_dropOldest_28 (fun h S => ?_)
    refine ex_iinc (v := nI (m + 1)) (lv' := [(2, .int (nI (m + 1))), (1, .ref (b + 2 + 11 * (σ 0))), (0, .ref b)]) 0 dX0_dropOldest_29 rfl (nI_1 m) (by decide) rfl ?_
    refine ex_goto (tgt := 9) dX0_dropOldest_32 (by decide) ?_
    have e2 := ih (m + 1) h _ (by omega) (by omega) S (fun j hj => by
      show (if j = m - 1 then _ else r2 j) = _
      by_cases e : j = m - 1
      · rw [if_pos e, if_pos (by omega), show j + 1 = m by omega]
      · rw [if_neg e, hr2 j hj]
        by_cases e1 : j + 1 < m
        · rw [if_pos e1, if_pos (by omega)]
        · rw [if_neg e1, if_neg (by omega)])
    refine ex_lv (lv2 := [(2, .int (nI (m + 1))), (1, .ref (b + 2 + 11 * (σ 0))), (0, .ref b)]) [0, 1, 2] rfl ?_
    exact e2

def recR (k : Nat) (Rs : Nat → AS) (A : AS) : Nat → AS := fun j => if k < 6 then (if j = k then A else Rs j) else (if j = 5 then A else Rs (j + 1))
def rot (σ : Nat → Nat) : Nat → Nat := fun j => if j < 5 then σ (j + 1) else σ 0
theorem rot_lt {σ : Nat → Nat} (h : ∀ j, j < 6 → σ j < 6) : ∀ j, j < 6 → rot σ j < 6 := fun j hj => by
  unfold rot
  split
  · exact h _ (by omega)
  · exact h _ (by omega)
theorem rot_inj {σ : Nat → Nat} (h : ∀ i j, i < 6 → j < 6 → σ i = σ j → i = j) : ∀ i j, i < 6 → j < 6 → rot σ i = rot σ j → i = j := fun i j hi hj e => by
  unfold rot at e
  split at e <;> split at e
  · have := h _ _ (by omega) (by omega) e
    omega
  · have := h _ _ (by omega) (by omega) e
    omega
  · have := h _ _ (by omega) (by omega) e
    omega
  · omega

set_option maxRecDepth 20000 in
set_option maxHeartbeats 2000000 in
theorem c_record {G : GG} {l : Launch} {h0 : HP} {z b k o : Nat} {r : Nat → Option Nat} {P : Nat → AS} {σ π : Nat → Nat} {A : AS} (S : HA G h0 h0 b k r P) (hr : ∀ j, j < 6 → r j = some (b + 2 + 11 * σ j)) (hσ : ∀ j, j < 6 → σ j < 6) (hi : ∀ i j, i < 6 → j < 6 → σ i = σ j → i = j) (k6 : k ≤ 6) (T : SP G h0 o π A) (hap : o + 11 ≤ b ∨ b + 68 ≤ o) (n8 : A.1 ≤ 8) : Ct G l 2 0 0 yX0_record cX0_record 2 none [.ref b, .ref o] h0 z (fun rr h1 z1 => rr = none ∧ z1 = z ∧ ∃ (σ1 : Nat → Nat) (P1 : Nat → AS), HS G h0 h1 b σ1 (if k < 6 then k + 1 else 6) P1 ∧ ∀ j, j < (if k < 6 then k + 1 else 6) → P1 (σ1 j) = recR k (fun j => P (σ j)) A j) := by
  refine Ct.intro (lv := [(0, .ref b), (1, .ref o)]) (by decide +kernel) (Nat.le_of_ble_eq_true rfl) rfl (fun X Q hQ hnm => ?_)
  have TL : ∀ (h : HP) (k1 : Nat) (r1 : Nat → Option Nat) (s1 : Nat → Nat), k1 < 6 → HA G h0 h b k1 r1 P → (∀ j, j < 6 → r1 j = some (b + 2 + 11 * s1 j)) → (∀ j, j < 6 → s1 j < 6) → (∀ i j, i < 6 → j < 6 → s1 i = s1 j → i = j) → (k < 6 → k1 = k ∧ s1 = σ) → (¬ k < 6 → k1 = 5 ∧ s1 = rot σ) → (if k < 6 then k + 1 else 6) = k1 + 1 → ex G l X Q 2 0 0 0 0 cX0_record yX0_record.cls 2 none h z 13 [(0, .ref b), (1, .ref o)] [] := by
    intro h k1 r1 s1 hk1 S hr1 hs1 hi1 c1 c2 kk
    refine ex_aload_n 0 dX0_record_13 rfl rfl ?_
    refine ex_get (v := .int (nI k1)) fl_X0_17 S.1 rfl dX0_record_14 ?_
    refine ex_if_lt (tgt := 64) dX0_record_17 (by decide) (fun c_17 => absurd c_17 (nI_pos (by omega))) (fun c_17 => ?_)
    refine ex_aload_n 0 dX0_record_20 rfl rfl ?_
    refine ex_get (v := .int (nI k1)) fl_X0_17 S.1 rfl dX0_record_21 ?_
    refine ex_bipush (v := nI 6) dX0_record_24 (by decide) ?_
    refine ex_icmp_ge (tgt := 64) dX0_record_26 (by decide) (fun c_26 => absurd c_26 (fun q9 => absurd ((nI_leI (by omega) (by omega)).mp q9) (by omega))) (fun c_26 => ?_)
    refine ex_aload_n 0 dX0_record_29 rfl rfl ?_
    refine ex_get (v := .ref (b + 1)) fl_X0_11 S.1 rfl dX0_record_30 ?_
    refine ex_aload_n 0 dX0_record_33 rfl rfl ?_
    refine ex_get (v := .int (nI k1)) fl_X0_17 S.1 rfl dX0_record_34 ?_
    refine exH_ld (i := k1) (v := b + 2 + 11 * (s1 k1)) S rfl (by omega) (hr1 _ (by omega)) dX0_record_37 ?_
    refine ex_ifnull dX0_record_38 ?_
    refine ex_aload_n 0 dX0_record_41 rfl rfl ?_
    refine ex_get (v := .ref (b + 1)) fl_X0_11 S.1 rfl dX0_record_42 ?_
    refine ex_aload_n 0 dX0_record_45 rfl rfl ?_
    refine ex_get (v := .int (nI k1)) fl_X0_17 S.1 rfl dX0_record_46 ?_
    refine exH_ld (i := k1) (v := b + 2 + 11 * (s1 k1)) S rfl (by omega) (hr1 _ (by omega)) dX0_record_49 ?_
    refine ex_aload_n 1 dX0_record_50 rfl rfl ?_
    obtain ⟨π1, hπ⟩ := S.2.2.1 (s1 k1) (hs1 k1 (by omega))
    refine ex_callV (As := [.ref o]) (ci := 3) vl_X0_25 rfl (c_copy hπ (T.kept (fun a g1 g2 => S.2.2.2 a (by omega))) (by have := hs1 k1 (by omega); omega) n8) hπ.ob rfl (by decide) (Nat.le_of_ble_eq_true rfl) (Nat.le_refl _) (Nat.le_refl _) rfl dX0_record_51 (fun r9 h9 z9 hp => ?_)
    obtain ⟨rfl, rfl, S9⟩ := hp
    have S := S.setP (hs1 k1 (by omega)) S9
    refine ex_aload_n 0 dX0_record_54 rfl rfl ?_
    refine ex_dup dX0_record_55 rfl ?_
    refine ex_get (v := .int (nI k1)) fl_X0_17 S.1 rfl dX0_record_56 ?_
    refine ex_iconst (v := nI 1) dX0_record_59 (by decide) ?_
    refine ex_iaddN dX0_record_60 ?_
    refine exH_len (k2 := k1 + 1) S fl_X0_17 rfl dX0_record_61 (fun h S => ?_)
    exact ex_vret hQ rfl (by
            refine ⟨rfl, rfl, s1, (fun i => if i = s1 k1 then A else P i), ?_⟩
            rw [kk]
            refine ⟨⟨r1, S, hr1, hs1, hi1, by omega⟩, fun j hj => ?_⟩
            show (if s1 j = s1 k1 then A else P (s1 j)) = _
            unfold recR
            by_cases c : k < 6
            · obtain ⟨rfl, rfl⟩ := c1 c
              rw [if_pos c]
              by_cases e : j = k1
              · rw [if_pos (by rw [e]), if_pos e]
              · rw [if_neg (fun q => e (hi1 _ _ (by omega) (by omega) q)), if_neg e]
            · obtain ⟨rfl, rfl⟩ := c2 c
              rw [if_neg c]
              by_cases e : j = 5
              · rw [if_pos (by rw [e]), if_pos e]
              · rw [if_neg (fun q => e (hi1 _ _ (by omega) (by omega) q)), if_neg e]
                show P (rot σ j) = P (σ (j + 1))
                unfold rot
                rw [if_pos (by omega)]) dX0_record_64
  rcases Nat.lt_or_ge k 6 with hlt | hge
  · refine ex_aload_n 0 dX0_record_0 rfl rfl ?_
    refine ex_get (v := .int (nI k)) fl_X0_17 S.1 rfl dX0_record_1 ?_
    refine ex_bipush (v := nI 6) dX0_record_4 (by decide) ?_
    refine ex_icmp_lt (tgt := 13) dX0_record_6 (by decide) (fun c_6 => ?_) (fun c_6 => absurd ((nI_ltI (by omega) (by omega)).mpr (by omega)) c_6)
    exact TL _ _ _ _ hlt S hr hσ hi (fun _ => ⟨rfl, rfl⟩) (fun q => absurd hlt q) (by rw [if_pos hlt])
  · refine ex_aload_n 0 dX0_record_0 rfl rfl ?_
    refine ex_get (v := .int (nI k)) fl_X0_17 S.1 rfl dX0_record_1 ?_
    refine ex_bipush (v := nI 6) dX0_record_4 (by decide) ?_
    refine ex_icmp_lt (tgt := 13) dX0_record_6 (by decide) (fun c_6 => absurd c_6 (fun q9 => absurd ((nI_ltI (by omega) (by omega)).mp q9) (by omega))) (fun c_6 => ?_)
    refine ex_aload_n 0 dX0_record_9 rfl rfl ?_
    obtain rfl : k = 6 := by omega
    refine ex_callV (As := []) (ci := 0) vl_X0_22 rfl (c_dropOldest S hr hσ) S.1 rfl (by decide) (Nat.le_of_ble_eq_true rfl) (Nat.le_refl _) (Nat.le_refl _) rfl dX0_record_10 (fun r9 h9 z9 hp => ?_)
    obtain ⟨rfl, rfl, r1, S, hr1⟩ := hp
    exact TL _ 5 _ (rot σ) (by omega) S hr1 (rot_lt hσ) (rot_inj hi) (fun q => absurd q (by omega)) (fun _ => ⟨rfl, rfl⟩) (by rw [if_neg (by omega)])

set_option maxRecDepth 20000 in
set_option maxHeartbeats 2000000 in
theorem c_takeBack {G : GG} {l : Launch} {h0 : HP} {z b k o : Nat} {r : Nat → Option Nat} {P : Nat → AS} {σ π : Nat → Nat} {A : AS} (S : HA G h0 h0 b k r P) (hr : ∀ j, j < 6 → r j = some (b + 2 + 11 * σ j)) (hσ : ∀ j, j < 6 → σ j < 6) (hi : ∀ i j, i < 6 → j < 6 → σ i = σ j → i = j) (k6 : k ≤ 6) (k1 : 1 ≤ k) (T : SP G h0 o π A) (hap : o + 11 ≤ b ∨ b + 68 ≤ o) (n8 : (P (σ (k - 1))).1 ≤ 8) : Ct G l 2 0 0 yX0_takeBack cX0_takeBack 2 none [.ref b, .ref o] h0 z (fun rr h1 z1 => rr = none ∧ z1 = z ∧ SP G h1 o π (P (σ (k - 1))) ∧ HS G h1 h1 b σ (k - 1) P ∧ ∀ a, (a < b ∨ b + 68 ≤ a) → (a < o ∨ o + 11 ≤ a) → h1 a = h0 a) := by
  refine Ct.intro (lv := [(0, .ref b), (1, .ref o)]) (by decide +kernel) (Nat.le_of_ble_eq_true rfl) rfl (fun X Q hQ hnm => ?_)
  refine ex_aload_n 0 dX0_takeBack_0 rfl rfl ?_
  refine ex_get (v := .int (nI k)) fl_X0_17 S.1 rfl dX0_takeBack_1 ?_
  refine ex_iconst (v := nI 1) dX0_takeBack_4 (by decide) ?_
  refine ex_icmp_lt (tgt := 31) dX0_takeBack_5 (by decide) (fun c_5 => absurd c_5 (fun q9 => absurd ((nI_ltI (by omega) (by omega)).mp q9) (by omega))) (fun c_5 => ?_)
  refine ex_aload_n 0 dX0_takeBack_8 rfl rfl ?_
  refine ex_get (v := .int (nI k)) fl_X0_17 S.1 rfl dX0_takeBack_9 ?_
  refine ex_bipush (v := nI 6) dX0_takeBack_12 (by decide) ?_
  refine ex_icmp_gt (tgt := 31) dX0_takeBack_14 (by decide) (fun c_14 => absurd c_14 (fun q9 => absurd ((nI_ltI (by omega) (by omega)).mp q9) (by omega))) (fun c_14 => ?_)
  refine ex_aload_n 0 dX0_takeBack_17 rfl rfl ?_
  refine ex_get (v := .ref (b + 1)) fl_X0_11 S.1 rfl dX0_takeBack_18 ?_
  refine ex_aload_n 0 dX0_takeBack_21 rfl rfl ?_
  refine ex_get (v := .int (nI k)) fl_X0_17 S.1 rfl dX0_takeBack_22 ?_
  refine ex_iconst (v := nI 1) dX0_takeBack_25 (by decide) ?_
  refine ex_isubN dX0_takeBack_26 (by omega) ?_
  refine exH_ld (i := k - 1) (v := b + 2 + 11 * (σ (k - 1))) S rfl (by omega) (hr _ (by omega)) dX0_takeBack_27 ?_
  refine ex_ifnonnull (tgt := 32) dX0_takeBack_28 (by decide) ?_
  refine ex_aload_n 0 dX0_takeBack_32 rfl rfl ?_
  refine ex_dup dX0_takeBack_33 rfl ?_
  refine ex_get (v := .int (nI k)) fl_X0_17 S.1 rfl dX0_takeBack_34 ?_
  refine ex_iconst (v := nI 1) dX0_takeBack_37 (by decide) ?_
  refine ex_isubN dX0_takeBack_38 (by omega) ?_
  refine exH_len (k2 := k - 1) S fl_X0_17 rfl dX0_takeBack_39 (fun h S => ?_)
  refine ex_aload_n 1 dX0_takeBack_42 rfl rfl ?_
  refine ex_aload_n 0 dX0_takeBack_43 rfl rfl ?_
  refine ex_get (v := .ref (b + 1)) fl_X0_11 S.1 rfl dX0_takeBack_44 ?_
  refine ex_aload_n 0 dX0_takeBack_47 rfl rfl ?_
  refine ex_get (v := .int (nI (k - 1))) fl_X0_17 S.1 rfl dX0_takeBack_48 ?_
  refine exH_ld (i := k - 1) (v := b + 2 + 11 * (σ (k - 1))) S rfl (by omega) (hr _ (by omega)) dX0_takeBack_51 ?_
  obtain ⟨π1, hπ⟩ := S.2.2.1 (σ (k - 1)) (hσ (k - 1) (by omega))
  refine ex_callV (As := [.ref (b + 2 + 11 * (σ (k - 1)))]) (ci := 3) vl_X0_25 rfl (c_copy (T.kept (fun a g1 g2 => S.2.2.2 a (by omega))) hπ (by have := hσ (k - 1) (by omega); omega) n8) (T.kept (fun a g1 g2 => S.2.2.2 a (by omega))).ob rfl (by decide) (Nat.le_of_ble_eq_true rfl) (Nat.le_refl _) (Nat.le_refl _) rfl dX0_takeBack_52 (fun r9 h9 z9 hp => ?_)
  obtain ⟨rfl, rfl, S9⟩ := hp
  exact ex_vret hQ rfl ⟨rfl, rfl, S9.1, ⟨r, S.kept (fun a g1 g2 => S9.2 a (by omega)), hr, hσ, hi, by omega⟩, fun a g1 g2 => by rw [S9.2 a (by omega)]; exact S.2.2.2 a (by omega)⟩ dX0_takeBack_55
