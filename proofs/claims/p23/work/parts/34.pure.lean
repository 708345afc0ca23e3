theorem mnI_comm {a b : Int32} : mnI a b = mnI b a := by
  unfold mnI
  by_cases c1 : b < a
  · rw [if_pos c1, if_neg (Int32.not_lt.mpr (Int32.le_of_lt c1))]
  · by_cases c2 : a < b
    · rw [if_neg c1, if_pos c2]
    · rw [if_neg c1, if_neg c2]
      exact Int32.le_antisymm (Int32.not_lt.mp c1) (Int32.not_lt.mp c2)
theorem nI_mod {a n : Nat} (hn : 0 < n) (ha : a < 1000) (hn2 : n < 1000) : nI a - nI a / nI n * nI n = nI (a % n) := by
  have e1 : nI a / nI n = nI (a / n) := by
    apply Int32.toInt_inj.mp
    rw [Int32.toInt_div, nI_toInt (by omega), nI_toInt (by omega), nI_toInt (by have := Nat.div_le_self a n; omega)]
    rw [← Int.ofNat_tdiv]
    have hw := Nat.div_le_self a n
    generalize a / n = w at hw
    apply Int.bmod_eq_of_le
    · omega
    · omega
  rw [e1]
  have e2 : nI a = nI (a / n * n) + nI (a % n) := by
    rw [show nI (a / n * n) + nI (a % n) = nI (a / n * n + a % n) from (Int32.ofNat_add _ _).symm, Nat.div_add_mod']
  rw [show nI (a / n) * nI n = nI (a / n * n) from (Int32.ofNat_mul _ _).symm]
  conv => lhs; lhs; rw [e2]
  rw [Int32.add_comm, Int32.add_sub_cancel]
def hB (r : Option Nat) : Int32 := match r with
  | none => nI 0
  | some _ => nI 1

theorem bh_mod {n t k : Nat} (hn : 0 < n) : bh n ((t + k) % n) = (t + (k + 1)) % n := by
  have h1 := Nat.mod_lt (t + k) hn
  have e : (t + (k + 1)) % n = ((t + k) % n + 1) % n := by rw [← Nat.add_assoc, Nat.add_mod, Nat.add_mod ((t + k) % n) 1 n, Nat.mod_mod]
  rw [e]
  unfold bh
  by_cases c : (t + k) % n + 1 < n
  · rw [if_pos c, Nat.mod_eq_of_lt c]
  · rw [if_neg c, show (t + k) % n + 1 = n by omega, Nat.mod_self]

theorem mx3a {x : Int32} (hm : 0 ≤ x) (h : x < nI 3) : mxI (nI 0) (x - nI 3) = nI 0 := by
  unfold mxI
  obtain ⟨j, hj, rfl⟩ := nI_of (Int32.not_lt.mpr hm)
  have := (nI_ltI hj (by decide)).mp h
  rcases (show j = 0 ∨ j = 1 ∨ j = 2 by omega) with rfl | rfl | rfl <;> decide
theorem nI_sub {a b : Nat} (h : b ≤ a) : nI a - nI b = nI (a - b) := by
  have e : nI a = nI (a - b) + nI b := by rw [nI_add, Nat.sub_add_cancel h]
  rw [e, Int32.add_sub_cancel]
theorem mx3b {x : Int32} (hm : 0 ≤ x) (h : ¬ x < nI 3) : mxI (nI 0) (x - nI 3) = x - nI 3 := by
  unfold mxI
  obtain ⟨j, hj, rfl⟩ := nI_of (Int32.not_lt.mpr hm)
  have h3 : 3 ≤ j := Nat.not_lt.mp (fun q => h ((nI_ltI hj (by decide)).mpr q))
  rw [nI_sub h3]
  by_cases c : nI 0 < nI (j - 3)
  · rw [if_pos c]
  · rw [if_neg c]
    have h9 : ¬ 0 < j - 3 := fun q => c ((nI_ltI (by decide) (by omega)).mpr q)
    congr 1
    omega

theorem cp50 {x : Int32} : (x < nI 50 → cpI (nI 50) x = nI 1) ∧ (¬ x < nI 50 → nI 50 < x → cpI (nI 50) x = (-1)) ∧ (¬ x < nI 50 → ¬ nI 50 < x → cpI (nI 50) x = nI 0) := by
  unfold cpI
  refine ⟨fun h => ?_, fun h h2 => by rw [if_pos h2], fun h h2 => ?_⟩
  · have h1 : ¬ nI 50 < x := Int32.not_lt.mpr (Int32.le_of_lt h)
    have h2 : ¬ nI 50 = x := fun q => Int32.lt_irrefl (q ▸ h : x < x)
    rw [if_neg h1, if_neg h2]
  · rw [if_neg h2, if_pos (Int32.le_antisymm (Int32.not_lt.mp h) (Int32.not_lt.mp h2))]
theorem nI_m1 {k : Nat} (h : 1 ≤ k) : nI k + (-1) = nI (k - 1) := by
  rw [← nI_sub h, Int32.sub_eq_add_neg]
  rfl

theorem hB_n {r : Option Nat} : narrow .boolean (.int (hB r)) = .int (hB r) := by
  cases r
  · decide
  · exact (by decide : narrow .boolean (.int (nI 1)) = .int (nI 1))

theorem hB_0 {r : Option Nat} (h : hB r = 0) : r = none := by
  cases r
  · rfl
  · exact absurd (show nI 1 = 0 from h) (by decide)
theorem hB_1 {r : Option Nat} (h : ¬ hB r = 0) : ¬ r = none := fun q => h (by rw [q]; rfl)

theorem mvI_self {x a : Nat} : mvI x x a = a := by
  unfold mvI
  by_cases h : a = x
  · rw [if_pos h, h]
  · rw [if_neg h, if_neg (by omega), if_neg (by omega)]
theorem absn : ∀ a, a < 8 → ∀ b, b < 8 → abI (nI a - nI b) = nI (if a < b then b - a else a - b) := by decide

theorem handF_6 {n : Nat} {u : Nat → Int32} {q : Nat → Nat → Int32} {v : Int32} : ∀ (k t : Nat), handF n (upd u 6 v) q t k = handF n u q t k
  | 0, _ => rfl
  | k + 1, t => by
    rw [handF, handF, handF_6 k, upd_n (by decide)]
