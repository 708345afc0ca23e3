/-! what the changes answer, on numbers that are in range -/
theorem X_move_k {x : CX} {p y : Nat} (hp : p < x.1.1) (hy : y < x.1.1) (n8 : x.1.1 ≤ 8) : X_move x (nI p) (nI y) = (nI (if p = y then 0 else (if p < y then y - p else p - y) + 1), recX x (moveA x.1 p y)) := by
  unfold X_move
  rw [if_pos ⟨inR_nI hp (by omega), inR_nI hy (by omega)⟩, ixn (by omega), ixn (by omega)]
  by_cases c : p = y
  · rw [if_pos (by rw [c]), if_pos c]
  · rw [if_neg (fun q => c ((nI_eq (by omega) (by omega)).mp q)), if_neg c, absn p (by omega) y (by omega), nI_add]
theorem X_appeal_n {x : CX} {p : Nat} (hp : x.1.1 ≤ p) (h9 : p < 2 ^ 31) : X_appeal x (nI p) = (-1, x) := by
  unfold X_appeal
  rw [if_neg]
  intro c
  have := (nI_ltI h9 (by omega)).mp c.2
  omega
theorem X_appeal_0 {x : CX} {p : Nat} (hp : p < x.1.1) (n8 : x.1.1 ≤ 8) (hm : mayI x.1.1 x.1.2.1 x.1.2.2.2.1 x.1.2.2.2.2 p = nI 0) : X_appeal x (nI p) = (-5, x) := by
  unfold X_appeal
  rw [if_pos (inR_nI hp (by omega)), ixn (by omega)]
  exact if_pos hm
theorem X_appeal_1 {n i t p : Nat} {u : Nat → Int32} {q : Nat → Nat → Int32} {R : RX} (hp : p < n) (n8 : n ≤ 8) (hm : ¬ mayI n (some i) u q p = nI 0) : X_appeal ((n, some i, t, u, q), R) (nI p) = ((if (appA n i t u q p).2 = true then nI 1 else nI 0), recX ((n, some i, t, u, q), R) (appA n i t u q p).1) := by
  unfold X_appeal
  rw [if_pos (inR_nI hp (by omega)), ixn (by omega)]
  exact if_neg hm
theorem X_appeal_w {n i t p : Nat} {u : Nat → Int32} {q : Nat → Nat → Int32} {R : RX} (hp : p < n) (n8 : n ≤ 8) (hm : ¬ mayI n (some i) u q p = nI 0) (hw : scI u q i < scI u q p) : X_appeal ((n, some i, t, u, q), R) (nI p) = (nI 1, ((n, none, p, upd (upd u 11 (u 11 + u 2)) 14 (u 14 + nI 1), uq q p 3 (q p 3 - u 2)), (recX ((n, some i, t, u, q), R) A0).2)) := by
  rw [X_appeal_1 hp n8 hm]
  unfold appA
  rw [if_pos hw]
  rfl
theorem X_appeal_l {n i t p : Nat} {u : Nat → Int32} {q : Nat → Nat → Int32} {R : RX} (hp : p < n) (n8 : n ≤ 8) (hm : ¬ mayI n (some i) u q p = nI 0) (hw : ¬ scI u q i < scI u q p) : X_appeal ((n, some i, t, u, q), R) (nI p) = (nI 0, ((n, some i, t, upd (upd u 11 (u 11 + u 2)) 12 (u 12 + nI 1), uq (uq q p 3 (q p 3 - u 2)) p 2 (q p 2 + nI 1)), (recX ((n, some i, t, u, q), R) A0).2)) := by
  rw [X_appeal_1 hp n8 hm]
  unfold appA
  rw [if_neg hw]
  rfl
theorem sc_in {K : Nat} {A : AS} {j : Nat} (h : iv K A) (hj : j < A.1) : ∃ s : Nat, scI A.2.2.2.1 A.2.2.2.2 j + nI 90 = nI s ∧ s ≤ 300 := by
  obtain ⟨a, ea, ha⟩ := h.1.2.2.1
  obtain ⟨-, -, ⟨b, eb, hb⟩, ⟨c, ec, hc⟩⟩ := h.2.2.2.2.2.1 j hj
  refine ⟨a + 5 * c + (90 - 10 * b), ?_, by omega⟩
  unfold scI
  rw [ea, eb, ec, nI_mul, nI_mul, nI_add, ← nI_add (a + 5 * c) (90 - 10 * b), ← nI_sub (by omega), Int32.sub_eq_add_neg, Int32.sub_eq_add_neg]
  ac_rfl
theorem sc_lt {K : Nat} {A : AS} {i j : Nat} (h : iv K A) (hi : i < A.1) (hj : j < A.1) : (scI A.2.2.2.1 A.2.2.2.2 j + nI 1000 ≤ scI A.2.2.2.1 A.2.2.2.2 i + nI 1000) ↔ ¬ scI A.2.2.2.1 A.2.2.2.2 i < scI A.2.2.2.1 A.2.2.2.2 j := by
  obtain ⟨s, es, hs⟩ := sc_in h hi
  obtain ⟨r, er, hr⟩ := sc_in h hj
  generalize scI A.2.2.2.1 A.2.2.2.2 i = x at es
  generalize scI A.2.2.2.1 A.2.2.2.2 j = y at er
  have ex : x = nI s - nI 90 := by rw [← es, Int32.add_sub_cancel]
  have ey : y = nI r - nI 90 := by rw [← er, Int32.add_sub_cancel]
  have e1 : x + nI 1000 = nI (s + 910) := by rw [← nI_add, ← es, Int32.add_assoc]; rfl
  have e2 : y + nI 1000 = nI (r + 910) := by rw [← nI_add, ← er, Int32.add_assoc]; rfl
  rw [e1, e2, ex, ey]
  have key : ∀ a : Nat, a ≤ 300 → (nI a - nI 90).toInt = (a : Int) - 90 := fun a ha => by
    rw [Int32.toInt_sub, nI_toInt (by omega), nI_toInt (by decide)]
    apply Int.bmod_eq_of_le <;> omega
  rw [nI_leI (by omega) (by omega), Int32.lt_iff_toInt_lt, key s hs, key r hr]
  omega
theorem may_s {n p : Nat} {g : Option Nat} {u : Nat → Int32} {q : Nat → Nat → Int32} (h : ¬ mayI n g u q p = nI 0) : ∃ i, g = some i ∧ i ≠ p ∧ q p 2 < u 4 ∧ ¬ q p 3 < u 2 ∧ mayI n g u q p = nI 1 := by
  unfold mayI at h ⊢
  by_cases c : g ≠ none ∧ g ≠ some p ∧ q p 2 < u 4 ∧ ¬ q p 3 < u 2
  · rw [if_pos c]
    cases g with
    | none => exact absurd rfl c.1
    | some i => exact ⟨i, rfl, fun e => c.2.1 (by rw [e]), c.2.2.1, c.2.2.2, rfl⟩
  · rw [if_neg c] at h
    exact absurd rfl h
