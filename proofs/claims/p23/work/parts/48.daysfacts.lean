/-! days at once -/
theorem rg8 {x y : Int32} : x = y + (x - y) := by rw [Int32.add_comm, Int32.sub_add_cancel]
theorem X_ifPassed_k {x : CX} {k w : Nat} (h1 : 1 ≤ k) (h2 : k ≤ 500) (hw : w < 5) : X_ifPassed x (nI k) (nI w) = ifpN x.1 (itA k x.1) w := by
  unfold X_ifPassed
  rw [if_neg, ixn (by omega), ixn (by omega)]
  rintro (c | c | c | c)
  · have := (nI_ltI (by omega) (by omega)).mp c
    omega
  · have := (nI_ltI (by omega) (by omega)).mp c
    omega
  · exact nI_pos (by omega) c
  · have := (nI_ltI (by omega) (by omega)).mp c
    omega
theorem nx_gen {A : AS} : ∀ k d : Nat, (∀ f, f < d → dayR (itA f A) = none) → (∃ j e, e < d + k ∧ dayR (itA e A) = some j ∧ (∀ f, f < e → dayR (itA f A) = none) ∧ nxG A (nI 0) k d = nI j ∧ nxG A (nI 1) k d = nI (e + 1)) ∨ ((∀ f, f < d + k → dayR (itA f A) = none) ∧ nxG A (nI 0) k d = -6 ∧ nxG A (nI 1) k d = -6)
  | 0, d, h => Or.inr ⟨h, rfl, rfl⟩
  | k + 1, d, h => by
    cases hr : dayR (itA d A) with
    | some j =>
      refine Or.inl ⟨j, d, by omega, hr, h, ?_, ?_⟩
      · rw [nxG, hr]
        exact if_pos rfl
      · rw [nxG, hr]
        exact if_neg (by decide)
    | none =>
      have h2 : ∀ f, f < d + 1 → dayR (itA f A) = none := fun f hf => by
        by_cases c : f = d
        · rw [c]; exact hr
        · exact h f (by omega)
      have e0 : ∀ w, nxG A w (k + 1) d = nxG A w k (d + 1) := fun w => by rw [nxG, hr]
      rw [e0, e0]
      rcases nx_gen k (d + 1) h2 with ⟨j, e, g1, g2⟩ | ⟨g1, g2⟩
      · exact Or.inl ⟨j, e, by omega, g2⟩
      · exact Or.inr ⟨fun f hf => g1 f (by omega), g2⟩
theorem ue_gen {A : AS} : ∀ k d : Nat, (∀ f, f < d → ¬ (itA f A).2.2.2.1 11 = 0) → (∃ e, e < d + k ∧ (itA e A).2.2.2.1 11 = 0 ∧ (∀ f, f < e → ¬ (itA f A).2.2.2.1 11 = 0) ∧ ueG A k d = nI e) ∨ ((∀ f, f < d + k → ¬ (itA f A).2.2.2.1 11 = 0) ∧ ueG A k d = -6)
  | 0, d, h => Or.inr ⟨h, rfl⟩
  | k + 1, d, h => by
    by_cases hr : (itA d A).2.2.2.1 11 = 0
    · refine Or.inl ⟨d, by omega, hr, h, ?_⟩
      rw [ueG, if_pos hr]
    · have h2 : ∀ f, f < d + 1 → ¬ (itA f A).2.2.2.1 11 = 0 := fun f hf => by
        by_cases c : f = d
        · rw [c]; exact hr
        · exact h f (by omega)
      rw [ueG, if_neg hr]
      rcases ue_gen k (d + 1) h2 with ⟨e, g1, g2⟩ | ⟨g1, g2⟩
      · exact Or.inl ⟨e, by omega, g2⟩
      · exact Or.inr ⟨fun f hf => g1 f (by omega), g2⟩
theorem pcN_le {A : AS} : ∀ k, pcN A k ≤ k
  | 0 => Nat.le_refl _
  | k + 1 => by
    have := pcN_le (A := A) k
    rw [pcN]
    split <;> omega
theorem pcN_0 {A : AS} : ∀ k, (∀ f, f < k → dayR (itA f A) = none) → pcN A k = 0
  | 0, _ => rfl
  | k + 1, h => by rw [pcN, if_pos (h k (by omega)), pcN_0 k (fun f hf => h f (by omega))]
theorem pcN_pos {A : AS} {e j : Nat} (hr : dayR (itA e A) = some j) : ∀ k, e < k → 0 < pcN A k
  | 0, h => by omega
  | k + 1, h => by
    rw [pcN]
    by_cases c : e = k
    · subst c
      rw [if_neg (by rw [hr]; simp)]
      omega
    · have := pcN_pos hr k (by omega)
      split <;> omega
/-- purrs at a person's hand in k days -/
def cN (A : AS) (j k : Nat) : Nat := match k with
  | 0 => 0
  | k + 1 => if dayR (itA k A) = some j then cN A j k + 1 else cN A j k
theorem cN_le {A : AS} {j : Nat} : ∀ k, cN A j k ≤ k
  | 0 => Nat.le_refl _
  | k + 1 => by
    have := cN_le (A := A) (j := j) k
    rw [cN]
    split <;> omega
theorem cN_pos {A : AS} {e j : Nat} (hr : dayR (itA e A) = some j) : ∀ k, e < k → 0 < cN A j k
  | 0, h => by omega
  | k + 1, h => by
    rw [cN]
    by_cases c : e = k
    · subst c
      rw [if_pos hr]
      omega
    · have := cN_pos hr k (by omega)
      split <;> omega
theorem eA_q4 {A : AS} {j : Nat} : (eA A).2.2.2.2 j 4 = A.2.2.2.2 j 4 := by
  obtain ⟨n, _ | i, t, u, q⟩ := A
  · rfl
  · rfl
theorem mA_q4 {A : AS} {j : Nat} : (mA A).2.2.2.2 j 4 = A.2.2.2.2 j 4 := by
  unfold mA
  split
  · obtain ⟨n, _ | i, t, u, q⟩ := A
    · rfl
    · unfold monthA
      dsimp only
      split <;> rfl
  · rfl
theorem hA_q4 {A : AS} {j : Nat} : (hA A).1.2.2.2.2 j 4 = if (hA A).2 = some j then A.2.2.2.2 j 4 + nI 1 else A.2.2.2.2 j 4 := by
  obtain ⟨n, _ | i, t, u, q⟩ := A
  · show (holdA n t u q).1.2.2.2.2 j 4 = if (holdA n t u q).2 = some j then q j 4 + nI 1 else q j 4
    unfold holdA
    split
    · rfl
    · rename_i j1 hj
      split
      · show uq q j1 2 (q j1 2 + nI 1) j 4 = _
        rw [uq_k (by decide)]
        rfl
      · show uq q j1 4 (q j1 4 + nI 1) j 4 = if some j1 = some j then q j 4 + nI 1 else q j 4
        by_cases c : j = j1
        · subst c
          rw [uq_s, if_pos rfl]
        · rw [uq_j c, if_neg (fun q9 => c (Option.some.inj q9).symm)]
  · rfl
theorem dayA_q4 {A : AS} {j : Nat} : (dayA A).2.2.2.2 j 4 = if dayR A = some j then A.2.2.2.2 j 4 + nI 1 else A.2.2.2.2 j 4 := by
  unfold dayA
  rw [eA_q4, mA_q4, hA_q4]
  rfl
theorem cN_q {A : AS} {j : Nat} : ∀ k, (itA k A).2.2.2.2 j 4 = A.2.2.2.2 j 4 + nI (cN A j k)
  | 0 => (Int32.add_zero _).symm
  | k + 1 => by
    rw [itA, dayA_q4, cN_q k, cN]
    split
    · rw [Int32.add_assoc, nI_add]
    · rfl
theorem month11 {K : Nat} {A : AS} (h : okA K A) (hz : A.2.2.2.1 11 = 0) : (monthA A).2.2.2.1 11 = 0 := by
  obtain ⟨w, m3, m8, m11, ⟨a1, e1, h1⟩, -⟩ := h
  have key : ∀ a : Nat, a < 2 ^ 31 → (0 : Int32) - mnI (nI a) 0 = 0 := fun a ha => by
    show nI 0 - mnI (nI a) (nI 0) = nI 0
    rw [nI_min ha (by omega), Nat.min_zero]
    rfl
  obtain ⟨n, _ | i, t, u, q⟩ := A
  · change u 1 = nI a1 at e1
    change u 11 = 0 at hz
    show u 11 - mnI (u 1 / nI 2) (u 11) = 0
    rw [hz, e1, nI_div (by decide) (by omega) (by decide)]
    exact key _ (by omega)
  · change u 1 = nI a1 at e1
    change u 11 = 0 at hz
    have e : u 11 - mnI (u 1) (u 11) = 0 := by
      rw [hz, e1]
      exact key _ (by omega)
    unfold monthA
    dsimp only
    split
    · exact e
    · exact e
theorem hA_11 {A : AS} : (hA A).1.2.2.2.1 11 = A.2.2.2.1 11 := by
  obtain ⟨n, _ | i, t, u, q⟩ := A
  · show (holdA n t u q).1.2.2.2.1 11 = u 11
    unfold holdA
    split
    · rfl
    · split <;> rfl
  · rfl
theorem eA_11 {A : AS} : (eA A).2.2.2.1 11 = A.2.2.2.1 11 := by
  obtain ⟨n, _ | i, t, u, q⟩ := A <;> rfl
theorem day11 {K : Nat} {A : AS} (h : okA K A) (hz : A.2.2.2.1 11 = 0) : (dayA A).2.2.2.1 11 = 0 := by
  have h2 : (hA (nA A)).1.2.2.2.1 11 = 0 := by
    rw [hA_11]
    exact hz
  unfold dayA
  rw [eA_11]
  unfold mA
  split
  · exact month11 (hA_ok (nA_ok h)) h2
  · exact h2
theorem it11 {K : Nat} {A : AS} (h : okA K A) {e : Nat} (hz : (itA e A).2.2.2.1 11 = 0) : ∀ m, K + e + m < 2 ^ 30 → (itA (e + m) A).2.2.2.1 11 = 0
  | 0, _ => hz
  | m + 1, hm => day11 (itA_ok h (e + m) (by omega)) (it11 h hz m (by omega))
