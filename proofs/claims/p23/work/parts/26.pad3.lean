theorem Ct.mono {G : GG} {l : Launch} {d mc ms : Nat} {y : MethodName} {cc : ByteArray} {nL : Nat} {ret : Option FieldType} {as : List Value} {h : HP} {z : Nat} {p1 p2 : Option Value → HP → Nat → Prop} (e : p1 = p2) (C : Ct G l d mc ms y cc nL ret as h z p1) : Ct G l d mc ms y cc nL ret as h z p2 := e ▸ C
theorem arrC : Cond.arrayClass .char ∈ TW := tw_t 154 (by decide +kernel) (by decide +kernel)
theorem arrI : Cond.arrayClass .int ∈ TW := tw_t 70 (by decide +kernel) (by decide +kernel)
set_option maxRecDepth 20000 in
set_option maxHeartbeats 2000000 in
theorem c_Dinit {G : GG} {l : Launch} {h0 : HP} {b : Nat} (H0 : h0 b = some (.inr (1, [.null, .int 0]))) : Ct G l 1 1 60 yX1_init cX1_init 1 none [.ref b] h0 (b + 1) (fun r h1 z1 => r = none ∧ z1 = b + 2 ∧ PD G h0 h1 b 0 (fun _ => 0)) := by
  refine Ct.intro (lv := [(0, .ref b)]) (by decide +kernel) (Nat.le_of_ble_eq_true rfl) rfl (fun X Q hQ hnm => ?_)
  refine ex_heq (hu_id H0) ?_
  refine ex_aload_n 0 dX1_init_0 rfl rfl ?_
  refine ex_objInit oi_X1_3 oi_2 oi_3 (by decide) (Nat.le_of_ble_eq_true rfl) dX1_init_1 ?_
  refine ex_aload_n 0 dX1_init_4 rfl rfl ?_
  refine ex_bipush (v := nI 60) dX1_init_5 (by decide) ?_
  refine ex_newaC arrC (by decide) (by decide) (by decide) dX1_init_7 ?_
  refine ex_cZ (by omega) ?_
  refine ex_putFR (fs1 := [.ref (b + 1), .int 0]) hnm rfl fl_X1_9 rfl rfl (Nat.le_of_ble_eq_true rfl) rfl dX1_init_9 ?_
  refine ex_aload_n 0 dX1_init_12 rfl rfl ?_
  refine ex_iconst (v := nI 0) dX1_init_13 (by decide) ?_
  refine ex_putR (fs1 := [.ref (b + 1), .int (nI 0)]) fl_X1_15 rfl rfl (Nat.le_of_ble_eq_true rfl) rfl dX1_init_14 ?_
  exact ex_vret hQ rfl ⟨rfl, rfl, hu_s, ⟨_, by rw [hu_n (by omega)]; exact hu_s, fun i hi => absurd hi (Nat.not_lt_zero _)⟩, by decide, fun a ha => by rw [hu_n (by omega), hu_n (by omega)]⟩ dX1_init_17

/-- a history in the making: m States stand -/
def HI (G : GG) (h0 h : HP) (b m : Nat) : Prop := h b = some (.inr (0, [.ref (b + 1), .int (nI 0)])) ∧ (∃ r : Nat → Option Nat, h (b + 1) = some (aQ G 4 6 r) ∧ ∀ j, j < m → r j = some (b + 2 + 11 * j)) ∧ (∀ j, j < m → SP G h (b + 2 + 11 * j) (fun j => j) A0) ∧ ∀ a, (a < b ∨ b + 2 + 11 * m ≤ a) → h a = h0 a
theorem HI.done {G : GG} {h0 h : HP} {b : Nat} (H : HI G h0 h b 6) : HS G h0 h b (fun j => j) 0 (fun _ => A0) := by
  obtain ⟨h1, ⟨r, h2, h3⟩, h4, h5⟩ := H
  exact ⟨r, ⟨h1, h2, fun i hi => ⟨_, h4 i hi⟩, h5⟩, h3, fun j hj => hj, fun i j _ _ e => e, by decide⟩
theorem HI.next {G : GG} {h0 h h1 : HP} {b m : Nat} {r : Nat → Option Nat} {e : va_E} (H : HI G h0 h b m) (hr : h (b + 1) = some (aQ G 4 6 r)) (hm : m < 6) (S : SF G (hu h (b + 2 + 11 * m) e) h1 (b + 2 + 11 * m) (fun j => j) A0) : HI G h0 (hu h1 (b + 1) (aQ G 4 6 (va_up r m (some (b + 2 + 11 * m))))) b (m + 1) := by
  obtain ⟨g1, ⟨r', g2, g3⟩, g4, g5⟩ := H
  have e0 : r = r' := by rw [hr] at g2; simpa using g2
  subst e0
  have off : ∀ a, (a < b + 2 + 11 * m ∨ b + 2 + 11 * m + 11 ≤ a) → h1 a = h a := fun a ha => by rw [S.2 a ha, hu_n (by omega)]
  refine ⟨by rw [hu_n (by omega), off b (by omega)]; exact g1, ⟨_, hu_s, fun j hj => ?_⟩, fun j hj => ?_, fun a ha => by rw [hu_n (by omega), off a (by omega)]; exact g5 a (by omega)⟩
  · show (if j = m then _ else r j) = _
    by_cases e : j = m
    · rw [if_pos e, e]
    · rw [if_neg e]
      exact g3 j (by omega)
  · by_cases e : j = m
    · subst e
      exact S.1.kept (fun a a1 a2 => by rw [hu_n (by omega)])
    · exact (g4 j (by omega)).kept (fun a a1 a2 => by rw [hu_n (by omega), off a (by omega)])

set_option maxRecDepth 20000 in
set_option maxHeartbeats 2000000 in
theorem c_Hinit {G : GG} {l : Launch} {h0 : HP} {b : Nat} (H0 : h0 b = some (.inr (0, [.null, .int 0]))) : Ct G l 3 67 456 yX0_init cX0_init 2 none [.ref b] h0 (b + 1) (fun r h1 z1 => r = none ∧ z1 = b + 68 ∧ HS G h0 h1 b (fun j => j) 0 (fun _ => A0)) := by
  refine Ct.intro (lv := [(0, .ref b)]) (by decide +kernel) (Nat.le_of_ble_eq_true rfl) rfl (fun X Q hQ hnm => ?_)
  refine ex_heq (hu_id H0) ?_
  refine ex_aload_n 0 dX0_init_0 rfl rfl ?_
  refine ex_objInit oi_X0_3 oi_2 oi_3 (by decide) (Nat.le_of_ble_eq_true rfl) dX0_init_1 ?_
  refine ex_aload_n 0 dX0_init_4 rfl rfl ?_
  refine ex_bipush (v := nI 6) dX0_init_5 (by decide) ?_
  refine ex_anew (t := 4) rfl cl_X0_9 (Or.inr rfl) (by decide) (by decide) (by decide) dX0_init_7 ?_
  refine ex_cZ (by omega) ?_
  refine ex_putFR (fs1 := [.ref (b + 1), .int 0]) hnm rfl fl_X0_11 rfl rfl (Nat.le_of_ble_eq_true rfl) rfl dX0_init_10 ?_
  refine ex_aload_n 0 dX0_init_13 rfl rfl ?_
  refine ex_iconst (v := nI 0) dX0_init_14 (by decide) ?_
  refine ex_putR (fs1 := [.ref (b + 1), .int (nI 0)]) fl_X0_17 rfl rfl (Nat.le_of_ble_eq_true rfl) rfl dX0_init_15 ?_
  refine ex_iconst (v := nI 0) dX0_init_18 (by decide) ?_
  refine ex_istore_n (lv' := [(1, .int (nI 0)), (0, .ref b)]) dX0_init_19 rfl (by decide) rfl ?_
  suffices H : ∀ (k m : Nat) (h : HP), m + k = 6 → HI G h0 h b m → ex G l X Q 3 67 456 (1 + 11 * m) (6 + 75 * m) cX0_init yX0_init.cls 2 none h (b + 2 + 11 * m) 20 [(1, .int (nI m)), (0, .ref b)] [] from by
    refine ex_widen (c2 := 1 + 11 * 0) (s2 := 6 + 75 * 0) (by decide) (by decide) ?_
    exact H 6 0 _ (by omega) ⟨hu_s, ⟨_, by rw [hu_n (by omega)]; exact hu_s, fun j hj => absurd hj (Nat.not_lt_zero _)⟩, fun j hj => absurd hj (Nat.not_lt_zero _), fun a ha => by rw [hu_n (by omega), hu_n (by omega)]⟩
  intro k
  induction k with
  | zero =>
    intro m h hm S
    obtain rfl : m = 6 := by omega
    refine ex_iload_n 0 dX0_init_20 rfl rfl ?_
    refine ex_bipush (v := nI 6) dX0_init_21 (by decide) ?_
    refine ex_icmp_ge (tgt := 45) dX0_init_23 (by decide) (fun c_23 => ?_) (fun c_23 => absurd ((nI_leI (by omega) (by omega)).mpr (by omega)) c_23)
    exact ex_vret hQ rfl ⟨rfl, rfl, S.done⟩ dX0_init_45
  | succ k ih =>
    intro m h hm S
    obtain ⟨r, hr, -⟩ := S.2.1
    refine ex_iload_n 0 dX0_init_20 rfl rfl ?_
    refine ex_bipush (v := nI 6) dX0_init_21 (by decide) ?_
    refine ex_icmp_ge (tgt := 45) dX0_init_23 (by decide) (fun c_23 => absurd c_23 (fun q9 => absurd ((nI_leI (by omega) (by omega)).mp q9) (by omega))) (fun c_23 => ?_)
    refine ex_aload_n 1 dX0_init_26 rfl rfl ?_
    refine ex_get (v := .ref (b + 1)) fl_X0_11 S.1 rfl dX0_init_27 ?_
    refine ex_iload_n 0 dX0_init_30 rfl rfl ?_
    refine ex_new nl_X0_9 (by omega) (by omega) dX0_init_31 ?_
    refine ex_dup dX0_init_34 rfl ?_
    refine ex_callI (As := []) vl_X0_21 (c_Sinit hu_s) rfl (by decide) (Nat.le_of_ble_eq_true rfl) (by omega) (by omega) rfl dX0_init_35 (fun r1 h1 z1 hp => ?_)
    obtain ⟨rfl, rfl, S1⟩ := hp
    refine ex_aast (t := 4) (ci := 3) (r := (RX3, TX3, 13)) (n := 6) (f := r) (j := m) rfl rfl (by rw [S1.2 _ (by omega), hu_n (by omega)]; exact hr) S1.ob rfl (by omega) (by decide) dX0_init_38 ?_
    refine ex_iinc (v := nI (m + 1)) (lv' := [(1, .int (nI (m + 1))), (0, .ref b)]) 0 dX0_init_39 rfl (nI_1 m) (by decide) rfl ?_
    refine ex_goto (tgt := 20) dX0_init_42 (by decide) ?_
    refine ex_widen (c2 := 1 + 11 * (m + 1)) (s2 := 6 + 75 * (m + 1)) (by omega) (by omega) ?_
    refine ex_zeq (show b + 2 + 11 * m + 11 = b + 2 + 11 * (m + 1) by omega) ?_
    exact ih (m + 1) _ (by omega) (S.next hr (by omega) S1)
