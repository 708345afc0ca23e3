/-! numbers that the law compares -/
theorem bd_lt {x : Int32} {K M : Nat} (h : bdI x K) (hk : K < M) (hM : M < 2 ^ 31) : ¬ nI M ≤ x := by
  obtain ⟨a, rfl, ha⟩ := h
  intro q
  have := (nI_leI hM (by omega)).mp q
  omega
theorem sum_le {K : Nat} {A : AS} (h : iw 0 K A) (hK : K < 2 ^ 31) : ¬ A.2.2.2.1 6 < sF A.2.2.2.2 5 A.1 := by
  obtain ⟨a, d, ea, ed, he, hd⟩ := h.2.2.2.1
  rw [ea, ed]
  intro q
  have := (nI_ltI (by omega) (by omega)).mp q
  omega
