theorem dgN_d {len : Nat} {c : Nat → Nat} {i d : Nat} (h : dgN len c i = some d) : i < len ∧ 48 ≤ c i ∧ c i ≤ 57 := by
  have := dgN_s h
  omega
theorem seN_t {len p e : Nat} {c : Nat → Nat} (h : seN len c p = (true, e)) : p < e ∧ e ≤ p + 3 ∧ ∀ i, p ≤ i → i < e → i < len ∧ 48 ≤ c i ∧ c i ≤ 57 := by
  unfold seN at h
  cases hd : dgN len c p with
  | none => rw [hd] at h; cases h
  | some d =>
    have q0 := dgN_d hd
    rw [hd] at h
    dsimp only at h
    by_cases c1 : d = 0 ∨ dgN len c (p + 1) = none
    · rw [if_pos c1] at h
      cases h
      exact ⟨by omega, by omega, fun i a b => by rw [show i = p by omega]; exact q0⟩
    · rw [if_neg c1] at h
      cases hd1 : dgN len c (p + 1) with
      | none => exact absurd (Or.inr hd1) c1
      | some d1 =>
        have q1 := dgN_d hd1
        rw [hd1] at h
        by_cases c2 : d = 1 ∧ (some d1 : Option Nat) = some 0 ∧ dgN len c (p + 2) = some 0
        · rw [if_pos c2] at h
          cases h
          have q2 := dgN_d c2.2.2
          refine ⟨by omega, by omega, fun i a b => ?_⟩
          rcases (show i = p ∨ i = p + 1 ∨ i = p + 2 by omega) with rfl | rfl | rfl
          · exact q0
          · exact q1
          · exact q2
        · rw [if_neg c2] at h
          cases h
          refine ⟨by omega, by omega, fun i a b => ?_⟩
          rcases (show i = p ∨ i = p + 1 by omega) with rfl | rfl
          · exact q0
          · exact q1
theorem seN_l {len p e : Nat} {c : Nat → Nat} (h : seN len c p = (true, e)) : e ≤ len := by
  obtain ⟨h1, h2, h3⟩ := seN_t h
  have := h3 (e - 1) (by omega) (by omega)
  omega
theorem peN_t {len p e : Nat} {c : Nat → Nat} (h : peN len c p = (true, e)) : ∃ d, dgN len c p = some d ∧ d ≠ 0 ∧ p + 1 < len ∧ c (p + 1) = 102 ∧ seN len c (p + 2) = (true, e) := by
  unfold peN at h
  cases hd : dgN len c p with
  | none => rw [hd] at h; cases h
  | some d =>
    rw [hd] at h
    dsimp only at h
    by_cases d0 : d = 0
    · rw [if_pos d0] at h; cases h
    · rw [if_neg d0] at h
      by_cases cf : p + 1 < len ∧ c (p + 1) = 102
      · rw [if_pos cf] at h
        exact ⟨d, rfl, d0, cf.1, cf.2, h⟩
      · rw [if_neg cf] at h; cases h
/-- a text without a fault -/
theorem okT {len p : Nat} {c : Nat → Nat} (hp : p ≤ len) (h : ffG len c (len - p) p 0 (nI 0) = none) : ∃ e, peN len c p = (true, e) ∧ (e = len ∨ (e < len ∧ c e = 44 ∧ ffG len c (len - (e + 1)) (e + 1) 0 (nI 0) = none)) := by
  rw [ff_person (by omega)] at h
  rcases hr : peN len c p with ⟨_ | _, e⟩
  · rw [hr] at h; cases h
  · rw [hr] at h
    refine ⟨e, rfl, ?_⟩
    have h : tlN len c e = none := h
    unfold tlN at h
    obtain ⟨d, -, -, -, -, hs⟩ := peN_t hr
    have hl := seN_l hs
    by_cases q : e = len
    · exact Or.inl q
    · rw [if_neg q] at h
      by_cases q2 : c e = 44
      · rw [if_pos q2] at h
        exact Or.inr ⟨by omega, q2, h⟩
      · rw [if_neg q2] at h; cases h
theorem cms_n {c : Nat → Nat} {p : Nat} : ∀ k, (∀ j, j < k → c (p + j) ≠ 44) → cms c (p + k) = cms c p
  | 0, _ => rfl
  | k + 1, h => by
    show (if c (p + k) = 44 then cms c (p + k) + 1 else cms c (p + k)) = _
    rw [if_neg (h k (by omega)), cms_n k (fun j hj => h j (by omega))]
theorem peN_c {len p e : Nat} {c : Nat → Nat} (h : peN len c p = (true, e)) : p + 2 < e ∧ e ≤ len ∧ cms c e = cms c p := by
  obtain ⟨d, h1, h2, h3, h4, h5⟩ := peN_t h
  obtain ⟨g1, g2, g3⟩ := seN_t h5
  have q0 := dgN_s h1
  refine ⟨g1, seN_l h5, ?_⟩
  have := cms_n (c := c) (p := p) (e - p) (fun j hj => by
    by_cases j0 : j = 0
    · rw [j0, Nat.add_zero]; omega
    · by_cases j1 : j = 1
      · rw [j1, h4]; decide
      · have := g3 (p + j) (by omega) (by omega)
        omega)
  rw [show p + (e - p) = e by omega] at this
  exact this
/-- a share's value -/
def shV (c : Nat → Nat) (p k : Nat) : Nat := match k with
  | 0 => 0
  | k + 1 => 10 * shV c p k + (c (p + k) - 48)
theorem apG_dig {len p K : Nat} {c : Nat → Nat} {w : Int32} {A : AS} (hw : ¬ w = 0) : ∀ k, (∀ j, j < k → p + j < len ∧ 48 ≤ c (p + j) ∧ c (p + j) ≤ 57) → apG len c (K + k) p w (nI 0) A = apG len c K (p + k) w (nI (shV c p k)) A
  | 0, _ => rfl
  | k + 1, h => by
    have e := apG_dig (K := K + 1) (A := A) hw k (fun j hj => h j (by omega))
    rw [show K + (k + 1) = K + 1 + k by omega, e, apG]
    obtain ⟨h1, h2, h3⟩ := h k (by omega)
    have hc : chA len c (p + k) = c (p + k) := if_pos h1
    rw [hc, if_neg (by omega), if_neg hw, if_neg (by omega), shW_n (show c (p + k) = (c (p + k) - 48) + 48 by omega)]
    rfl
/-- one person of the text -/
theorem apG_person {len p e K : Nat} {c : Nat → Nat} {A : AS} (h : peN len c p = (true, e)) (he : e = len ∨ c e = 44) (hK : p + K = len + 1) : ∃ d, dgN len c p = some d ∧ apG len c K p (nI 0) (nI 0) A = apG len c (len - e) (e + 1) (nI 0) (nI 0) (adm8 A (nI d) (nI (shV c (p + 2) (e - (p + 2))))) := by
  obtain ⟨d, h1, h2, h3, h4, h5⟩ := peN_t h
  obtain ⟨g1, g2, g3⟩ := seN_t h5
  have hl := seN_l h5
  obtain ⟨q1, q2, q3⟩ := dgN_s h1
  refine ⟨d, h1, ?_⟩
  obtain ⟨K2, rfl⟩ : ∃ K2, K = K2 + 1 + (e - (p + 2)) + 1 + 1 := ⟨K - 3 - (e - (p + 2)), by omega⟩
  have c0 : chA len c p = c p := if_pos q1
  have c1 : chA len c (p + 1) = 102 := by
    unfold chA
    rw [if_pos h3, h4]
  have c2 : chA len c e = 44 := by
    unfold chA
    rcases he with z | z
    · rw [if_neg (by omega)]
    · split
      · exact z
      · rfl
  have hw : ¬ nI d = 0 := nI_ne0 (by omega) (by omega)
  rw [apG, c0, if_neg (by omega), if_pos (show nI 0 = 0 from rfl), show nI (c p) - nI 48 = nI d from by rw [nI_sub (by omega)]; congr 1; omega]
  rw [apG, c1, if_neg (by decide), if_neg hw, if_pos rfl]
  rw [apG_dig (p := p + 1 + 1) hw (e - (p + 2)) (fun j hj => g3 _ (by omega) (by omega))]
  rw [apG, show p + 1 + 1 + (e - (p + 2)) = e by omega, c2, if_pos rfl, show K2 = len - e by omega]
def sgI (len : Nat) (c : Nat → Nat) (i : Nat) : Int32 := if i < len then nI (c i) else (-1)
def dgI (r : Option Nat) : Int32 := match r with
  | none => (-1)
  | some d => nI d
def rsI (r : Bool × Nat) : Int32 := match r with
  | (true, e) => nI e
  | (false, f) => (-1) - nI f
theorem rsI_2 {p : Nat} : (-2) - nI p = rsI (false, p + 1) := by
  show (-2) - nI p = (-1) - nI (p + 1)
  rw [← nI_1 p, Int32.sub_eq_add_neg, Int32.sub_eq_add_neg, Int32.neg_add, Int32.sub_eq_add_neg, Int32.add_comm (-nI p), ← Int32.add_assoc]
  rfl
theorem rsI_f {f : Nat} (h : f < 1000) : rsI (false, f) < 0 := by
  show (-1) - nI f < 0
  apply Int32.lt_iff_toInt_lt.mpr
  rw [Int32.toInt_sub, nI_toInt (by omega), show (-1 : Int32).toInt = -1 from by decide, show (0 : Int32).toInt = 0 from by decide, Int.bmod_eq_of_le (by omega) (by omega)]
  omega
theorem rsI_n {f : Nat} : (-1) - rsI (false, f) = nI f := by
  show (-1) - ((-1) - nI f) = nI f
  rw [Int32.sub_eq_add_neg (-1) (nI f), Int32.sub_eq_add_neg, Int32.neg_add, Int32.sub_eq_add_neg, ← Int32.add_assoc, Int32.neg_neg]
  show 0 + _ = _
  rw [Int32.zero_add]
  exact Int32.neg_neg
