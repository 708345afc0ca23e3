/-! a day, as the law foretells it -/
theorem mn_ge {x y : Int32} (h : y ≤ x) : y = mnI x y := by
  unfold mnI
  by_cases c : y < x
  · rw [if_pos c]
  · rw [if_neg c]
    exact Int32.le_antisymm h (Int32.not_lt.mp c)
theorem mn_lt {x y : Int32} (h : ¬ y ≤ x) : x = mnI x y := by
  unfold mnI
  rw [if_neg (fun c => h (Int32.le_of_lt c))]
theorem mn99_le {x : Int32} (h : x ≤ nI 99) : x = mnI (nI 99) x := mn_ge h
theorem mn99_gt {x : Int32} (h : ¬ x ≤ nI 99) : nI 99 = mnI (nI 99) x := mn_lt h
theorem rg5 {x p e : Int32} : x + (p - e) = x + p - e := by
  rw [Int32.sub_eq_add_neg, Int32.sub_eq_add_neg, Int32.add_assoc]
theorem rg6 {x p : Int32} : x = x + p - p := (Int32.add_sub_cancel _ _).symm
theorem rg7 {x d : Int32} : x + d - x = d := by rw [Int32.add_comm, Int32.add_sub_cancel]
theorem iinc_m1 {j : Nat} : nI j + Int32.ofInt (-1) = nI j - nI 1 := by rw [Int32.sub_eq_add_neg]; rfl
theorem bh_1 {n j : Nat} (h : j < n) : (j + 1) % n = bh n j := by
  have e := bh_mod (n := n) (t := j) (k := 0) (by omega)
  rw [Nat.add_zero, Nat.mod_eq_of_lt h] at e
  exact e.symm
theorem X_pass_k {x : CX} {k : Nat} (h1 : 1 ≤ k) (h2 : k ≤ 99) (hd : ¬ nI 9999 < x.1.2.2.2.1 6 + nI k) : X_pass x (nI k) = ((itA k x.1).2.2.2.1 13 - x.1.2.2.2.1 13, recX x (itA k x.1)) := by
  unfold X_pass
  rw [if_neg, if_neg hd, ixn (by omega)]
  rintro (c | c)
  · have := (nI_ltI (by omega) (by omega)).mp c
    omega
  · have := (nI_ltI (by omega) (by omega)).mp c
    omega
theorem X_pass_1 {n t : Nat} {g : Option Nat} {u : Nat → Int32} {q : Nat → Nat → Int32} {R : RX} {B : AS} (hd : ¬ nI 9999 < u 6 + nI 1) (hB1 : (hA (nA (n, g, t, u, q))).1 = B) : X_pass ((n, g, t, u, q), R) (nI 1) = (hB (dayR (n, g, t, u, q)), (eA (mA B), (recX ((n, g, t, u, q), R) A0).2)) := by
  subst hB1
  rw [X_pass_k (x := ((n, g, t, u, q), R)) (k := 1) (by omega) (by omega) hd]
  have e1 : itA 1 (n, g, t, u, q) = dayA (n, g, t, u, q) := rfl
  rw [e1, dayA_13]
  have e2 : ∀ y, u 13 + y - u 13 = y := fun y => rg7
  exact Prod.ext (e2 _) (Prod.ext rfl rfl)
theorem hA_s {n t i : Nat} {u : Nat → Int32} {q : Nat → Nat → Int32} : hA (nA (n, some i, t, u, q)) = ((n, some i, t, upd u 6 (u 6 + nI 1), q), none) := rfl
theorem hA_n {n t : Nat} {u : Nat → Int32} {q : Nat → Nat → Int32} (h : hand n t u q = none) : hA (nA (n, none, t, u, q)) = ((n, none, t, upd u 6 (u 6 + nI 1), q), none) := by
  have h6 : hand n t (upd u 6 (u 6 + nI 1)) q = none := by rw [← h]; exact handF_6 n t
  show holdA n t (upd u 6 (u 6 + nI 1)) q = _
  unfold holdA
  rw [h6]
theorem hA_l {n t j : Nat} {u : Nat → Int32} {q : Nat → Nat → Int32} (h : hand n t u q = some j) (hs : scI u q j < u 0) : hA (nA (n, none, t, u, q)) = ((n, none, bh n j, upd (upd (upd u 6 (u 6 + nI 1)) 12 (u 12 + nI 1)) 8 (mxI (nI 0) (u 8 - nI 3)), uq q j 2 (q j 2 + nI 1)), none) := by
  have h6 : hand n t (upd u 6 (u 6 + nI 1)) q = some j := by rw [← h]; exact handF_6 n t
  show holdA n t (upd u 6 (u 6 + nI 1)) q = _
  unfold holdA
  rw [h6]
  exact if_pos hs
theorem hA_w {n t j : Nat} {u : Nat → Int32} {q : Nat → Nat → Int32} (h : hand n t u q = some j) (hs : ¬ scI u q j < u 0) : hA (nA (n, none, t, u, q)) = ((n, some j, t, upd (upd u 6 (u 6 + nI 1)) 13 (u 13 + nI 1), uq q j 4 (q j 4 + nI 1)), some j) := by
  have h6 : hand n t (upd u 6 (u 6 + nI 1)) q = some j := by rw [← h]; exact handF_6 n t
  show holdA n t (upd u 6 (u 6 + nI 1)) q = _
  unfold holdA
  rw [h6]
  exact if_neg hs
/-- the first hand, from the k-th place behind the turn on -/
def hF (n t : Nat) (u : Nat → Int32) (q : Nat → Nat → Int32) (k : Nat) : Option Nat := handF n u q ((t + k) % n) (n - k)
theorem hF_n {n t : Nat} {u : Nat → Int32} {q : Nat → Nat → Int32} : hF n t u q n = none := by
  unfold hF
  rw [Nat.sub_self]
  rfl
theorem hF_0 {n t : Nat} {u : Nat → Int32} {q : Nat → Nat → Int32} (ht : t < n ∨ t = 0) : hF n t u q 0 = hand n t u q := by
  unfold hF hand
  rw [Nat.add_zero, Nat.sub_zero]
  rcases ht with h | h
  · rw [Nat.mod_eq_of_lt h]
  · subst h
    rw [Nat.zero_mod]
theorem hF_t {n t k : Nat} {u : Nat → Int32} {q : Nat → Nat → Int32} (hk : k < n) (h : q ((t + k) % n) 2 < u 4) : hF n t u q k = some ((t + k) % n) := by
  unfold hF
  obtain ⟨m, hm⟩ : ∃ m, n - k = m + 1 := ⟨n - k - 1, by omega⟩
  rw [hm, handF, if_pos h]
theorem hF_f {n t k : Nat} {u : Nat → Int32} {q : Nat → Nat → Int32} (hk : k < n) (h : ¬ q ((t + k) % n) 2 < u 4) : hF n t u q (k + 1) = hF n t u q k := by
  unfold hF
  obtain ⟨m, hm⟩ : ∃ m, n - k = m + 1 := ⟨n - k - 1, by omega⟩
  rw [hm, handF, if_neg h, bh_mod (by omega), show n - (k + 1) = m by omega]
theorem mth {n t : Nat} {T : Option Nat} {u1 u : Nat → Int32} {q1 : Nat → Nat → Int32} (e3 : u1 3 = u 3) (e6 : u1 6 = u 6 + nI 1) (hm : u 6 + nI 1 - (u 6 + nI 1) / u 3 * u 3 = 0) : mA (n, T, t, u1, q1) = monthA (n, T, t, u1, q1) := by
  unfold mA
  rw [if_pos (by show u1 6 - u1 6 / u1 3 * u1 3 = 0; rw [e3, e6]; exact hm)]
theorem mth0 {n t : Nat} {T : Option Nat} {u1 u : Nat → Int32} {q1 : Nat → Nat → Int32} (e3 : u1 3 = u 3) (e6 : u1 6 = u 6 + nI 1) (hm : ¬ u 6 + nI 1 - (u 6 + nI 1) / u 3 * u 3 = 0) : mA (n, T, t, u1, q1) = (n, T, t, u1, q1) := by
  unfold mA
  rw [if_neg (by show ¬ u1 6 - u1 6 / u1 3 * u1 3 = 0; rw [e3, e6]; exact hm)]
