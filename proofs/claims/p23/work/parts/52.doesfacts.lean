/-! one entry of the script -/
def pDo (G : GG) (b z K : Nat) : Option Value → HP → Nat → Prop := fun r h1 z1 => r = some (.int (nI 1)) ∧ z ≤ z1 ∧ ∃ x : CX, PP G h1 z1 b x ∧ iv (K + 300) x.1 ∧ nV x.2
theorem X_add_k {x : CX} {a s : Nat} (h1 : 1 ≤ a) (h9 : a ≤ 9) (hs : s ≤ 100) (hn : x.1.1 < 8) : X_add x (nI a) (nI s) = (nI x.1.1, recX x (admA x.1 (nI a) (nI s))) := by
  unfold X_add
  rw [if_neg, if_pos hn]
  rintro (c | c | c | c)
  · have := (nI_ltI (by omega) (by omega)).mp c
    omega
  · have := (nI_ltI (by omega) (by omega)).mp c
    omega
  · exact nI_pos (by omega) c
  · have := (nI_ltI (by omega) (by omega)).mp c
    omega
theorem X_add_8 {x : CX} {a s : Nat} (h1 : 1 ≤ a) (h9 : a ≤ 9) (hs : s ≤ 100) (hn : x.1.1 = 8) : X_add x (nI a) (nI s) = (-4, x) := by
  unfold X_add
  rw [if_neg, if_neg (by omega)]
  rintro (c | c | c | c)
  · have := (nI_ltI (by omega) (by omega)).mp c
    omega
  · have := (nI_ltI (by omega) (by omega)).mp c
    omega
  · exact nI_pos (by omega) c
  · have := (nI_ltI (by omega) (by omega)).mp c
    omega
theorem adm_k {n t : Nat} {g : Option Nat} {u : Nat → Int32} {q : Nat → Nat → Int32} {w s : Int32} (k : Nat) : (admA (n, g, t, u, q) w s).2.2.2.2 n k = (if k = 0 then w else if k = 1 then s else 0) := if_pos rfl
theorem X_move_0 {x : CX} (hn : x.1.1 = 0) : X_move x (nI 0) (nI 0) = (-1, x) := by
  unfold X_move
  rw [if_neg]
  rintro ⟨c, -⟩
  rw [hn] at c
  exact absurd c.2 (by decide)
theorem X_step_n {n t : Nat} {u : Nat → Int32} {q : Nat → Nat → Int32} {R : RX} : X_stepDown ((n, none, t, u, q), R) = (-5, ((n, none, t, u, q), R)) := rfl
theorem X_step_s {n t i : Nat} {u : Nat → Int32} {q : Nat → Nat → Int32} {R : RX} : X_stepDown ((n, some i, t, u, q), R) = (nI i, ((n, none, bh n i, u, q), (recX ((n, some i, t, u, q), R) A0).2)) := rfl
theorem X_give_t {x : CX} {c : Nat} (h1 : 1 ≤ c) (h2 : c ≤ 9999) (hc : nI 99999 < x.1.2.2.2.1 11 + nI c) : X_give x (nI c) = (-4, x) := by
  unfold X_give
  rw [if_neg, if_pos hc]
  rintro (q | q)
  · have := (nI_ltI (by omega) (by omega)).mp q
    omega
  · have := (nI_ltI (by omega) (by omega)).mp q
    omega
theorem X_give_f {x : CX} {c : Nat} (h1 : 1 ≤ c) (h2 : c ≤ 9999) (hc : ¬ nI 99999 < x.1.2.2.2.1 11 + nI c) : X_give x (nI c) = (x.1.2.2.2.1 11 + nI c, recX x (givA x.1 (nI c))) := by
  unfold X_give
  rw [if_neg, if_neg hc]
  rintro (q | q)
  · have := (nI_ltI (by omega) (by omega)).mp q
    omega
  · have := (nI_ltI (by omega) (by omega)).mp q
    omega
theorem rng_k {s lo hi v : Nat} (hlo : stV 1 s = nI lo) (hhi : stV 2 s = nI hi) (h1 : lo ≤ v) (h2 : v ≤ hi) (hh : hi < 1000) : ¬ (nI v < stV 1 s ∨ stV 2 s < nI v) := by
  rw [hlo, hhi]
  rintro (q | q)
  · have := (nI_ltI (by omega) (by omega)).mp q
    omega
  · have := (nI_ltI (by omega) (by omega)).mp q
    omega
theorem X_set_k {x : CX} {s v : Nat} (hs : s < 6) (h : ¬ (nI v < stV 1 s ∨ stV 2 s < nI v)) : X_set x (nI s) (nI v) = (x.1.2.2.2.1 s, recX x (setA x.1 s (nI v))) := by
  unfold X_set
  rw [if_pos ⟨inR_nI hs (by decide), by rw [ixn (by omega)]; exact h⟩, ixn (by omega)]
theorem X_appeal_iv {K p : Nat} {x : CX} (h : iv K x.1) (hV : nV x.2) (hK : K < 2 ^ 23) (hp : p ≤ x.1.1) : iv (K + 100) (X_appeal x (nI p)).2.1 ∧ nV (X_appeal x (nI p)).2.2 := by
  obtain ⟨⟨n, g, t, u, q⟩, R⟩ := x
  have n8 : n ≤ 8 := h.1.1.1
  have hp : p ≤ n := hp
  by_cases c : n ≤ p
  · rw [X_appeal_n (x := ((n, g, t, u, q), R)) c (by omega)]
    exact ⟨h.up (by omega), hV⟩
  · by_cases hm : mayI n g u q p = nI 0
    · rw [X_appeal_0 (x := ((n, g, t, u, q), R)) (show p < n by omega) n8 hm]
      exact ⟨h.up (by omega), hV⟩
    · obtain ⟨i, rfl, h1, h2, h3, h4⟩ := may_s hm
      rw [X_appeal_1 (show p < n by omega) n8 hm]
      exact ⟨appA_iv (A := (n, some i, t, u, q)) h (by omega) (h.1.1.2.1 i rfl) (show p < n by omega) h2 h3, hV⟩
