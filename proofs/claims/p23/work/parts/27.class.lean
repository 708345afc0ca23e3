/-! the whole object of the class -/
abbrev CX : Type := AS × Nat × (Nat → AS) × (Nat → Option AS) × Nat × (Nat → Nat)
def ppF (b : Nat) : List Value := [.ref (b + 1), .ref (b + 12), .ref (b + 23), .ref (b + 91), .ref (b + 92)]
/-- a slot's State, by its address -/
def slA (G : GG) (h : HP) (z b : Nat) (v : Option AS) (r : Option Nat) : Prop := match v with
  | none => r = none
  | some B => ∃ (a : Nat) (π : Nat → Nat), r = some a ∧ b + 94 ≤ a ∧ a + 11 ≤ z ∧ SP G h a π B
def PP (G : GG) (h : HP) (z b : Nat) (x : CX) : Prop :=
  h b = some (.inr (4, ppF b)) ∧ (∃ π, SP G h (b + 1) π x.1) ∧ (∃ π T, SP G h (b + 12) π T) ∧ (∃ (σ : Nat → Nat) (P : Nat → AS), HS G h h (b + 23) σ x.2.1 P ∧ ∀ j, j < x.2.1 → P (σ j) = x.2.2.1 j) ∧ (∃ r : Nat → Option Nat, h (b + 91) = some (aQ G 4 2 r) ∧ (∀ i, i < 2 → slA G h z b (x.2.2.2.1 i) (r i)) ∧ ∀ a0 a1, r 0 = some a0 → r 1 = some a1 → a0 + 11 ≤ a1 ∨ a1 + 11 ≤ a0) ∧ PD G h h (b + 92) x.2.2.2.2.1 x.2.2.2.2.2 ∧ b + 94 ≤ z
def XF (G : GG) (h0 h : HP) (z b : Nat) (x : CX) : Prop := PP G h z b x ∧ ∀ a, b + 94 ≤ a → a < b + 94 → h a = h0 a
theorem slA.kept {G : GG} {h h1 : HP} {z b : Nat} {v : Option AS} {r : Option Nat} (S : slA G h z b v r) (q : ∀ a, b + 94 ≤ a → h1 a = h a) : slA G h1 z b v r := by
  cases v with
  | none => exact S
  | some B =>
    obtain ⟨a, π, e1, e2, e3, e4⟩ := S
    exact ⟨a, π, e1, e2, e3, e4.kept (fun x g1 g2 => q x (by omega))⟩
theorem HS.kept {G : GG} {h h1 : HP} {b k : Nat} {σ : Nat → Nat} {P : Nat → AS} (S : HS G h h b σ k P) (q : ∀ a, b ≤ a → a < b + 68 → h1 a = h a) : HS G h1 h1 b σ k P := by
  obtain ⟨r, s1, s2⟩ := S
  exact ⟨r, s1.kept q, s2⟩
theorem PP.ob {G : GG} {h : HP} {z b : Nat} {x : CX} (S : PP G h z b x) : h b = some (.inr (4, ppF b)) := S.1
theorem PP.nob {G : GG} {h : HP} {z b : Nat} {x : CX} (S : PP G h z b x) : h (b + 1) = some (.inr (3, stF (b + 1) x.1)) := by
  obtain ⟨π, hN⟩ := S.2.1
  exact hN.ob
theorem PP.tob {G : GG} {h : HP} {z b : Nat} {x : CX} (S : PP G h z b x) : ∃ T : AS, h (b + 12) = some (.inr (3, stF (b + 12) T)) := by
  obtain ⟨π, T, hN⟩ := S.2.2.1
  exact ⟨T, hN.ob⟩
theorem PP.hob {G : GG} {h : HP} {z b : Nat} {x : CX} (S : PP G h z b x) : h (b + 23) = some (.inr (0, [.ref (b + 23 + 1), .int (nI x.2.1)])) := by
  obtain ⟨σ, P, ⟨r, hA, -⟩, -⟩ := S.2.2.2.1
  exact hA.1
theorem PP.pob {G : GG} {h : HP} {z b : Nat} {x : CX} (S : PP G h z b x) : h (b + 92) = some (.inr (1, [.ref (b + 92 + 1), .int (nI x.2.2.2.2.1)])) := S.2.2.2.2.2.1.1
/-- another value of 'now' -/
theorem XF.now {G : GG} {h0 h h1 : HP} {z b : Nat} {x : CX} {π : Nat → Nat} {A : AS} (S : XF G h0 h z b x) (N : SF G h h1 (b + 1) π A) : XF G h0 h1 z b (A, x.2) := by
  obtain ⟨⟨s1, s2, ⟨π3, T, s3⟩, ⟨σ, P, s4, s4'⟩, ⟨r, s5, s5', s5''⟩, s6, s7⟩, s8⟩ := S
  have q : ∀ a, (a < b + 1 ∨ b + 1 + 11 ≤ a) → h1 a = h a := N.2
  exact ⟨⟨by rw [q _ (by omega)]; exact s1, ⟨π, N.1⟩, ⟨π3, T, s3.kept (fun a g1 g2 => q a (by omega))⟩, ⟨σ, P, s4.kept (fun a g1 g2 => q a (by omega)), s4'⟩, ⟨r, by rw [q _ (by omega)]; exact s5, fun i hi => (s5' i hi).kept (fun a g => q a (by omega)), s5''⟩, s6.kept (fun a g1 g2 => q a (by omega)), s7⟩, fun a g1 g2 => by rw [q a (by omega)]; exact s8 a g1 g2⟩
theorem XF.trial {G : GG} {h0 h h1 : HP} {z b : Nat} {x : CX} {π : Nat → Nat} {A : AS} (S : XF G h0 h z b x) (N : SF G h h1 (b + 12) π A) : XF G h0 h1 z b x := by
  obtain ⟨⟨s1, ⟨π2, s2⟩, s3, ⟨σ, P, s4, s4'⟩, ⟨r, s5, s5', s5''⟩, s6, s7⟩, s8⟩ := S
  have q : ∀ a, (a < b + 12 ∨ b + 12 + 11 ≤ a) → h1 a = h a := N.2
  exact ⟨⟨by rw [q _ (by omega)]; exact s1, ⟨π2, s2.kept (fun a g1 g2 => q a (by omega))⟩, ⟨π, A, N.1⟩, ⟨σ, P, s4.kept (fun a g1 g2 => q a (by omega)), s4'⟩, ⟨r, by rw [q _ (by omega)]; exact s5, fun i hi => (s5' i hi).kept (fun a g => q a (by omega)), s5''⟩, s6.kept (fun a g1 g2 => q a (by omega)), s7⟩, fun a g1 g2 => by rw [q a (by omega)]; exact s8 a g1 g2⟩
theorem XF.hist {G : GG} {h0 h h1 : HP} {z b k : Nat} {x : CX} {σ : Nat → Nat} {P L : Nat → AS} (S : XF G h0 h z b x) (N : HS G h h1 (b + 23) σ k P) (hL : ∀ j, j < k → P (σ j) = L j) : XF G h0 h1 z b (x.1, k, L, x.2.2.2) := by
  obtain ⟨⟨s1, ⟨π2, s2⟩, ⟨π3, T, s3⟩, -, ⟨r, s5, s5', s5''⟩, s6, s7⟩, s8⟩ := S
  obtain ⟨r1, n1, n2⟩ := N
  have q : ∀ a, (a < b + 23 ∨ b + 23 + 68 ≤ a) → h1 a = h a := n1.2.2.2
  exact ⟨⟨by rw [q _ (by omega)]; exact s1, ⟨π2, s2.kept (fun a g1 g2 => q a (by omega))⟩, ⟨π3, T, s3.kept (fun a g1 g2 => q a (by omega))⟩, ⟨σ, P, ⟨r1, n1.kept (fun _ _ _ => rfl), n2⟩, hL⟩, ⟨r, by rw [q _ (by omega)]; exact s5, fun i hi => (s5' i hi).kept (fun a g => q a (by omega)), s5''⟩, s6.kept (fun a g1 g2 => q a (by omega)), s7⟩, fun a g1 g2 => by rw [q a (by omega)]; exact s8 a g1 g2⟩
theorem XF.pad {G : GG} {h0 h h1 : HP} {z b len : Nat} {x : CX} {c : Nat → Nat} (S : XF G h0 h z b x) (N : PD G h h1 (b + 92) len c) : XF G h0 h1 z b (x.1, x.2.1, x.2.2.1, x.2.2.2.1, len, c) := by
  obtain ⟨⟨s1, ⟨π2, s2⟩, ⟨π3, T, s3⟩, ⟨σ, P, s4, s4'⟩, ⟨r, s5, s5', s5''⟩, -, s7⟩, s8⟩ := S
  have q : ∀ a, (a < b + 92 ∨ b + 92 + 2 ≤ a) → h1 a = h a := N.2.2.2
  exact ⟨⟨by rw [q _ (by omega)]; exact s1, ⟨π2, s2.kept (fun a g1 g2 => q a (by omega))⟩, ⟨π3, T, s3.kept (fun a g1 g2 => q a (by omega))⟩, ⟨σ, P, s4.kept (fun a g1 g2 => q a (by omega)), s4'⟩, ⟨r, by rw [q _ (by omega)]; exact s5, fun i hi => (s5' i hi).kept (fun a g => q a (by omega)), s5''⟩, N.kept (fun _ _ _ => rfl), s7⟩, fun a g1 g2 => by rw [q a (by omega)]; exact s8 a g1 g2⟩
/-- a slot's State has another value -/
theorem XF.slot {G : GG} {h0 h h1 : HP} {z b i a : Nat} {x : CX} {π : Nat → Nat} {A B : AS} {r : Nat → Option Nat} (S : XF G h0 h z b x) (hr : h (b + 91) = some (aQ G 4 2 r)) (hi : i < 2) (ha : r i = some a) (hV : x.2.2.2.1 i = some B) (N : SF G h h1 a π A) : XF G h0 h1 z b (x.1, x.2.1, x.2.2.1, (fun j => if j = i then some A else x.2.2.2.1 j), x.2.2.2.2) := by
  obtain ⟨⟨s1, ⟨π2, s2⟩, ⟨π3, T, s3⟩, ⟨σ, P, s4, s4'⟩, ⟨r', s5, s5', s5''⟩, s6, s7⟩, s8⟩ := S
  have e : r = r' := by rw [hr] at s5; simpa using s5
  subst e
  have hs := s5' i hi
  rw [hV] at hs
  obtain ⟨a', π', e1, e2, e3, e4⟩ := hs
  obtain rfl : a' = a := by rw [ha] at e1; simpa using e1.symm
  have q : ∀ y, (y < a' ∨ a' + 11 ≤ y) → h1 y = h y := N.2
  refine ⟨⟨by rw [q _ (by omega)]; exact s1, ⟨π2, s2.kept (fun a g1 g2 => q a (by omega))⟩, ⟨π3, T, s3.kept (fun a g1 g2 => q a (by omega))⟩, ⟨σ, P, s4.kept (fun a g1 g2 => q a (by omega)), s4'⟩, ⟨r, by rw [q _ (by omega)]; exact s5, fun j hj => ?_, s5''⟩, s6.kept (fun a g1 g2 => q a (by omega)), s7⟩, fun a g1 g2 => by rw [q a (by omega)]; exact s8 a g1 g2⟩
  show slA G h1 z b (if j = i then some A else x.2.2.2.1 j) (r j)
  by_cases ej : j = i
  · subst ej
    rw [if_pos rfl]
    exact ⟨a', π, ha, e2, e3, N.1⟩
  · rw [if_neg ej]
    have hj2 := s5' j hj
    cases hv : x.2.2.2.1 j with
    | none => rw [hv] at hj2; exact hj2
    | some B2 =>
      rw [hv] at hj2
      obtain ⟨a2, π4, f1, f2, f3, f4⟩ := hj2
      have hap : a' + 11 ≤ a2 ∨ a2 + 11 ≤ a' := by
        rcases (show (i = 0 ∧ j = 1) ∨ (i = 1 ∧ j = 0) by omega) with ⟨rfl, rfl⟩ | ⟨rfl, rfl⟩
        · exact s5'' _ _ ha f1
        · exact (s5'' _ _ f1 ha).symm
      exact ⟨a2, π4, f1, f2, f3, f4.kept (fun y g1 g2 => q y (by omega))⟩
abbrev inR (x : Int32) (n : Nat) : Prop := 0 ≤ x ∧ x < nI n
abbrev ixI (x : Int32) : Nat := x.toNatClampNeg
theorem inR_of {x : Int32} {n : Nat} (h : inR x n) (hn : n < 2 ^ 31) : ∃ j, j < n ∧ x = nI j := by
  obtain ⟨h1, h2⟩ := h
  obtain ⟨j, hj, rfl⟩ := nI_of (Int32.not_lt.mpr h1)
  exact ⟨j, (nI_ltI hj hn).mp h2, rfl⟩
theorem inR_nI {j n : Nat} (h : j < n) (hn : n < 2 ^ 31) : inR (nI j) n := ⟨nI_pos' (by omega), nI_lt h hn⟩
theorem inR_not {x : Int32} {n : Nat} (h : ¬ inR x n) : x < 0 ∨ nI n ≤ x := by
  unfold inR at h
  by_cases c : 0 ≤ x
  · exact Or.inr (Int32.not_lt.mp (fun q => h ⟨c, q⟩))
  · exact Or.inl (Int32.not_le.mp c)
/-- what is recorded ahead of a change -/
def recX (x : CX) (A : AS) : CX := (A, (if x.2.1 < 6 then x.2.1 + 1 else 6), recR x.2.1 x.2.2.1 x.1, x.2.2.2)
