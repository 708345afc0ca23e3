/-! a person at each place of the list -/
def nV (R : RX) : Prop := ∀ i B, R.2.2.1 i = some B → B.1 ≤ 8
def sv (A : AS) (R : RX) : RX := (R.1, R.2.1, (fun j => if j = 0 then some A else R.2.2.1 j), R.2.2.2)
theorem X_save_0 {A : AS} {R : RX} : X_save (A, R) (nI 0) = (A.2.2.2.1 6, (A, sv A R)) := by
  unfold X_save
  rw [if_pos (inR_nI (by omega) (by omega)), ixn (by omega)]
  rfl
theorem X_restore_0 {x : CX} {B : AS} (h : x.2.2.2.1 0 = some B) : X_restore x (nI 0) = (B.2.2.2.1 6, recX x B) := by
  unfold X_restore
  rw [if_pos (inR_nI (by omega) (by omega)), ixn (by omega), h]
theorem nV_sv {A : AS} {R : RX} (h : nV R) (n8 : A.1 ≤ 8) : nV (sv A R) := fun i B e => by
  have e : (if i = 0 then some A else R.2.2.1 i) = some B := e
  by_cases c : i = 0
  · rw [if_pos c] at e
    cases e
    exact n8
  · rw [if_neg c] at e
    exact h i B e
theorem c_passX {G : GG} {l : Launch} {h0 : HP} {z b : Nat} {x : CX} {v : Int32} (S0 : PP G h0 z b x) (wf : wfA x.1) (m3 : 0 < x.1.2.2.2.1 3) : Ct G l 5 0 0 yX4_pass cX4_pass 3 (some .int) [.ref b, .int v] h0 z (pX G (X_pass x v) h0 z b) := by
  obtain ⟨⟨n, g, t, u, q⟩, k, L, V, len, c⟩ := x
  exact c_pass S0 wf m3
theorem c_restoreX {G : GG} {l : Launch} {h0 : HP} {z b : Nat} {x : CX} {v : Int32} (S0 : PP G h0 z b x) (n8 : x.1.1 ≤ 8) (hV : nV x.2) : Ct G l 3 0 0 yX4_restore cX4_restore 3 (some .int) [.ref b, .int v] h0 z (pX G (X_restore x v) h0 z b) := by
  obtain ⟨⟨n, g, t, u, q⟩, k, L, V, len, c⟩ := x
  exact c_restore S0 n8 hV
theorem c_saveX {G : GG} {l : Launch} {h0 : HP} {z b : Nat} {x : CX} {v : Int32} (S0 : PP G h0 z b x) (n8 : x.1.1 ≤ 8) : Ct G l 3 11 75 yX4_save cX4_save 2 (some .int) [.ref b, .int v] h0 z (fun r h1 z1 => r = some (.int (X_save x v).1) ∧ z ≤ z1 ∧ z1 ≤ z + 11 ∧ XF G h0 h1 z1 b (X_save x v).2) := by
  obtain ⟨⟨n, g, t, u, q⟩, k, L, V, len, c⟩ := x
  exact c_save S0 n8
theorem c_bestX {G : GG} {l : Launch} {h0 : HP} {z b : Nat} {x : CX} {v w : Int32} (S0 : PP G h0 z b x) (wf : wfA x.1) (m3 : 0 < x.1.2.2.2.1 3) : Ct G l 6 0 0 yX4_bestPlace cX4_bestPlace 7 (some .int) [.ref b, .int v, .int w] h0 z (pX G (X_bestPlace x v w, x) h0 z b) := by
  obtain ⟨⟨n, g, t, u, q⟩, k, L, V, len, c⟩ := x
  exact c_bestPlace S0 wf m3
theorem X_best_0 {x : CX} {p : Nat} (hp : p < x.1.1) (n8 : x.1.1 ≤ 8) : X_bestPlace x (nI p) (nI 0) = nI (bpG x.1 p x.1.1 0 0 (-1)).1 := by
  unfold X_bestPlace
  rw [if_pos (inR_nI hp (by omega)), if_pos (show nI 0 = 0 ∨ nI 0 = nI 1 from Or.inl rfl), if_pos (show nI 0 = 0 from rfl), ixn (by omega)]
theorem X_best_1 {x : CX} {p : Nat} (hp : p < x.1.1) (n8 : x.1.1 ≤ 8) : X_bestPlace x (nI p) (nI 1) = (bpG x.1 p x.1.1 0 0 (-1)).2 := by
  unfold X_bestPlace
  rw [if_pos (inR_nI hp (by omega)), if_pos (show nI 1 = 0 ∨ nI 1 = nI 1 from Or.inr rfl), if_neg (show ¬ nI 1 = 0 by decide), ixn (by omega)]
theorem eA_6 {A : AS} : (eA A).2.2.2.1 6 = A.2.2.2.1 6 := by
  obtain ⟨n, _ | i, t, u, q⟩ := A <;> rfl
theorem mA_6 {A : AS} : (mA A).2.2.2.1 6 = A.2.2.2.1 6 := by
  unfold mA
  split
  · obtain ⟨n, _ | i, t, u, q⟩ := A
    · rfl
    · unfold monthA
      dsimp only
      split <;> rfl
  · rfl
theorem hA_6 {A : AS} : (hA A).1.2.2.2.1 6 = A.2.2.2.1 6 := by
  obtain ⟨n, _ | i, t, u, q⟩ := A
  · show (holdA n t u q).1.2.2.2.1 6 = u 6
    unfold holdA
    split
    · rfl
    · split <;> rfl
  · rfl
theorem dayA_6 {A : AS} : (dayA A).2.2.2.1 6 = A.2.2.2.1 6 + nI 1 := by
  unfold dayA
  rw [eA_6, mA_6, hA_6]
  rfl
theorem it6 {A : AS} : ∀ k, (itA k A).2.2.2.1 6 = A.2.2.2.1 6 + nI k
  | 0 => (Int32.add_zero _).symm
  | k + 1 => by rw [itA, dayA_6, it6 k, Int32.add_assoc, nI_add]
theorem pass_of {x : CX} {k : Nat} (h1 : 1 ≤ k) (h2 : k ≤ 99) (hd : ¬ nI 9999 < x.1.2.2.2.1 6 + nI k) : X_pass x (nI k) = (nI (pcN x.1 k), (itA k x.1, (recX x A0).2)) := (X_pass_k h1 h2 hd).trans (Prod.ext pcN_sub rfl)
theorem dg_eq {A : AS} {p m : Nat} : (itA 40 (itA 60 (moveA A p m))).2.2.2.2 m 5 - (moveA A p m).2.2.2.2 m 5 = dgM A p m := by
  unfold dgM
  rw [show 100 = 60 + 40 from rfl, itA_add]
def pBt (G : GG) (b z : Nat) (A : AS) : Option Value → HP → Nat → Prop := fun r h1 z1 => r = some (.int (nI 1)) ∧ z ≤ z1 ∧ ∃ R : RX, PP G h1 z1 b (A, R) ∧ nV R
theorem pass_ofB {x : CX} {B : AS} {k : Nat} (hB : B = itA k x.1) (h1 : 1 ≤ k) (h2 : k ≤ 99) (hd : ¬ nI 9999 < x.1.2.2.2.1 6 + nI k) : X_pass x (nI k) = (nI (pcN x.1 k), (B, (recX x A0).2)) := by
  rw [hB]
  exact pass_of h1 h2 hd
theorem dg_eqB {A B6 B4 : AS} {p m : Nat} (h6 : B6 = itA 60 (moveA A p m)) (h4 : B4 = itA 40 B6) : B4.2.2.2.2 m 5 - (moveA A p m).2.2.2.2 m 5 = dgM A p m := by
  rw [h4, h6]
  exact dg_eq
