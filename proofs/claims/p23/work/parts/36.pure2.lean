/-- on the day of a purr there is no guardian, and who gets it holds out the hand -/
theorem dayR_s {A : AS} {j : Nat} (h : dayR A = some j) : A.2.1 = none ∧ hand A.1 A.2.2.1 A.2.2.2.1 A.2.2.2.2 = some j := by
  obtain ⟨n, _ | i, t, u, q⟩ := A
  · refine ⟨rfl, ?_⟩
    have h2 : (holdA n t (upd u 6 (u 6 + nI 1)) q).2 = some j := h
    have e : hand n t (upd u 6 (u 6 + nI 1)) q = hand n t u q := handF_6 n t
    unfold holdA at h2
    rw [e] at h2
    show hand n t u q = some j
    split at h2
    · cases h2
    · rename_i j1 hj
      split at h2
      · cases h2
      · cases h2
        exact hj
  · cases (show (none : Option Nat) = some j from h)
theorem had_lt {K : Nat} {A : AS} {j : Nat} (h : okA K A) (hK : K < 2 ^ 30) (hr : dayR A = some j) : A.2.2.2.1 13 < (dayA A).2.2.2.1 13 := by
  obtain ⟨a, e, ha⟩ := h.2.2.2.2.2.1
  rw [dayA_13, hr, e]
  show nI a < nI a + nI 1
  rw [nI_add]
  exact (nI_ltI (by omega) (by omega)).mpr (by omega)

