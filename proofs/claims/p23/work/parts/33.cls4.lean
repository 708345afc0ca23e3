/-- the object as it is made -/
def CI (G : GG) (h0 h : HP) (b : Nat) : Prop := h b = some (.inr (4, ppF b)) ∧ SP G h (b + 1) (fun j => j) A0 ∧ SP G h (b + 12) (fun j => j) A0 ∧ HS G h h (b + 23) (fun j => j) 0 (fun _ => A0) ∧ h (b + 91) = some (aQ G 4 2 (fun _ => none)) ∧ PD G h h (b + 92) 0 (fun _ => 0) ∧ ∀ a, (a < b ∨ b + 94 ≤ a) → h a = h0 a
/-- what the object is at first -/
def x0 : CX := (A0, 0, (fun _ => A0), (fun _ => none), 0, fun _ => 0)
theorem CI.pp {G : GG} {h0 h h1 : HP} {b : Nat} (S : CI G h0 h b) (q : ∀ a, b ≤ a → a < b + 94 → h1 a = h a) : PP G h1 (b + 94) b x0 := by
  obtain ⟨s1, s2, s3, s4, s5, s6, -⟩ := S
  exact ⟨by rw [q _ (by omega) (by omega)]; exact s1, ⟨_, s2.kept (fun a g1 g2 => q a (by omega) (by omega))⟩, ⟨_, A0, s3.kept (fun a g1 g2 => q a (by omega) (by omega))⟩, ⟨fun j => j, fun _ => A0, s4.kept (fun a g1 g2 => q a (by omega) (by omega)), fun j hj => rfl⟩, ⟨fun _ => none, by rw [q _ (by omega) (by omega)]; exact s5, fun i hi => rfl, fun a0 a1 f0 => by cases f0⟩, s6.kept (fun a g1 g2 => q a (by omega) (by omega)), Nat.le_refl _⟩

set_option maxRecDepth 20000 in
set_option maxHeartbeats 2000000 in
theorem c_Xinit {G : GG} {l : Launch} {h0 : HP} {b : Nat} (H0 : h0 b = some (.inr (4, [.null, .null, .null, .null, .null]))) : Ct G l 4 93 672 yX4_init cX4_init 1 none [.ref b] h0 (b + 1) (fun r h1 z1 => r = none ∧ z1 = b + 94 ∧ CI G h0 h1 b) := by
  refine Ct.intro (lv := [(0, .ref b)]) (by decide +kernel) (Nat.le_of_ble_eq_true rfl) rfl (fun X Q hQ hnm => ?_)
  refine ex_aload_n 0 dX4_init_0 rfl rfl ?_
  refine ex_objInit oi_X4_1 oi_2 oi_3 (by decide) (Nat.le_of_ble_eq_true rfl) dX4_init_1 ?_
  refine ex_aload_n 0 dX4_init_4 rfl rfl ?_
  refine ex_new nl_X4_7 (by decide) (by decide) dX4_init_5 ?_
  refine ex_dup dX4_init_8 rfl ?_
  refine ex_callI (As := []) vl_X4_9 (c_Sinit hu_s) rfl (by decide) (Nat.le_of_ble_eq_true rfl) (by decide) (by decide) rfl dX4_init_9 (fun r1 h1 z1 hp => ?_)
  obtain ⟨rfl, rfl, S1⟩ := hp
  refine ex_putF hnm rfl fl_X4_10 (by rw [S1.2 _ (by omega), hu_n (by omega)]; exact H0) rfl rfl (Nat.le_of_ble_eq_true rfl) dX4_init_12 ?_
  refine ex_aload_n 0 dX4_init_15 rfl rfl ?_
  refine ex_new nl_X4_7 (by decide) (by decide) dX4_init_16 ?_
  refine ex_dup dX4_init_19 rfl ?_
  refine ex_callI (As := []) vl_X4_9 (c_Sinit hu_s) rfl (by decide) (Nat.le_of_ble_eq_true rfl) (by decide) (by decide) rfl dX4_init_20 (fun r2 h2 z2 hp => ?_)
  obtain ⟨rfl, rfl, S2⟩ := hp
  refine ex_putF hnm rfl fl_X4_16 (by rw [S2.2 _ (by omega), hu_n (by omega)]; exact hu_s) rfl rfl (Nat.le_of_ble_eq_true rfl) dX4_init_23 ?_
  refine ex_aload_n 0 dX4_init_26 rfl rfl ?_
  refine ex_new nl_X4_19 (by decide) (by decide) dX4_init_27 ?_
  refine ex_dup dX4_init_30 rfl ?_
  refine ex_callI (As := []) vl_X4_21 (c_Hinit hu_s) rfl (by decide) (Nat.le_of_ble_eq_true rfl) (by decide) (by decide) rfl dX4_init_31 (fun r3 h3 z3 hp => ?_)
  obtain ⟨rfl, rfl, HH⟩ := hp
  obtain ⟨r3, S3a, S3b⟩ := HH
  have S3 := And.intro S3a.1 S3a.2.2.2
  refine ex_putF hnm rfl fl_X4_22 (by rw [S3.2 _ (by omega), hu_n (by omega)]; exact hu_s) rfl rfl (Nat.le_of_ble_eq_true rfl) dX4_init_34 ?_
  refine ex_aload_n 0 dX4_init_37 rfl rfl ?_
  refine ex_iconst (v := nI 2) dX4_init_38 (by decide) ?_
  refine ex_anew (t := 4) rfl cl_X4_7 (Or.inr rfl) (by decide) (by decide) (by decide) dX4_init_39 ?_
  refine ex_putF hnm rfl fl_X4_26 (by rw [hu_n (by omega)]; exact hu_s) rfl rfl (Nat.le_of_ble_eq_true rfl) dX4_init_42 ?_
  refine ex_aload_n 0 dX4_init_45 rfl rfl ?_
  refine ex_new nl_X4_30 (by decide) (by decide) dX4_init_46 ?_
  refine ex_dup dX4_init_49 rfl ?_
  refine ex_callIN (As := []) (fun K => K.2.2.2.2.2.1) vn_X4_32 (c_Dinit hu_s) rfl (by decide) (Nat.le_of_ble_eq_true rfl) (by decide) (by decide) rfl dX4_init_50 (fun r5 h5 z5 hp => ?_)
  obtain ⟨rfl, rfl, S5⟩ := hp
  refine ex_putF hnm rfl fl_X4_33 (by rw [S5.2.2.2 _ (by omega), hu_n (by omega)]; exact hu_s) rfl rfl (Nat.le_of_ble_eq_true rfl) dX4_init_53 ?_
  have q5 : ∀ a, a ≠ b → a < b + 92 ∨ b + 94 ≤ a → hu h5 b (.inr (4, ppF b)) a = h5 a := fun a g1 _ => hu_n g1
  have q5b : ∀ a, a < b + 92 ∨ b + 94 ≤ a → a ≠ b → a ≠ b + 91 → h5 a = h3 a := fun a g1 g2 g3 => by rw [S5.2.2.2 _ (by omega), hu_n (by omega), hu_n g2, hu_n g3, hu_n g2]
  have q3 : ∀ a, a < b + 23 ∨ b + 91 ≤ a → a ≠ b → h3 a = h2 a := fun a g1 g2 => by rw [S3.2 _ (by omega), hu_n (by omega), hu_n g2]
  have q2 : ∀ a, a < b + 12 ∨ b + 23 ≤ a → a ≠ b → h2 a = h1 a := fun a g1 g2 => by rw [S2.2 _ (by omega), hu_n (by omega), hu_n g2]
  have q1 : ∀ a, a < b + 1 ∨ b + 12 ≤ a → h1 a = h0 a := fun a g1 => by rw [S1.2 _ (by omega), hu_n (by omega)]
  exact ex_vret hQ rfl ⟨rfl, rfl, hu_s,
      S1.1.kept (fun a g1 g2 => by rw [hu_n (by omega), q5b a (by omega) (by omega) (by omega), q3 a (by omega) (by omega), q2 a (by omega) (by omega)]),
      S2.1.kept (fun a g1 g2 => by rw [hu_n (by omega), q5b a (by omega) (by omega) (by omega), q3 a (by omega) (by omega)]),
      HS.kept ⟨r3, S3a.kept (fun _ _ _ => rfl), S3b⟩ (fun a g1 g2 => by rw [hu_n (by omega), q5b a (by omega) (by omega) (by omega)]),
      by rw [hu_n (by omega), S5.2.2.2 _ (by omega), hu_n (by omega), hu_n (by omega)]; exact hu_s,
      S5.kept (fun a g1 g2 => by rw [hu_n (by omega)]),
      fun a ha => by rw [hu_n (by omega), q5b a (by omega) (by omega) (by omega), q3 a (by omega) (by omega), q2 a (by omega) (by omega), q1 a (by omega)]⟩ dX4_init_56
