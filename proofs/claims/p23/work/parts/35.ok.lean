/-! the numbers keep within bounds -/
theorem nI_div {a b : Nat} (hb : 0 < b) (ha : a < 2 ^ 31) (hb2 : b < 2 ^ 31) : nI a / nI b = nI (a / b) := by
  have hw := Nat.div_le_self a b
  apply Int32.toInt_inj.mp
  rw [Int32.toInt_div, nI_toInt ha, nI_toInt hb2, nI_toInt (by omega), ← Int.ofNat_tdiv]
  generalize a / b = w at hw
  apply Int.bmod_eq_of_le
  · omega
  · omega
theorem nI_mul {a b : Nat} : nI a * nI b = nI (a * b) := (Int32.ofNat_mul _ _).symm
theorem nI_min {a b : Nat} (ha : a < 2 ^ 31) (hb : b < 2 ^ 31) : mnI (nI a) (nI b) = nI (min a b) := by
  unfold mnI
  by_cases c : b < a
  · rw [if_pos ((nI_ltI hb ha).mpr c), Nat.min_eq_right (by omega)]
  · rw [if_neg (fun q => c ((nI_ltI hb ha).mp q)), Nat.min_eq_left (by omega)]
def bdI (x : Int32) (K : Nat) : Prop := ∃ a : Nat, x = nI a ∧ a ≤ K
theorem bdI.up {x : Int32} {K K2 : Nat} (h : bdI x K) (hk : K ≤ K2) : bdI x K2 := by
  obtain ⟨a, e, h⟩ := h
  exact ⟨a, e, by omega⟩
def okA (K : Nat) (A : AS) : Prop := wfA A ∧ (∃ a : Nat, A.2.2.2.1 3 = nI a ∧ 1 ≤ a ∧ a ≤ 40) ∧ bdI (A.2.2.2.1 8) 99 ∧ bdI (A.2.2.2.1 11) K ∧ bdI (A.2.2.2.1 1) 200 ∧ bdI (A.2.2.2.1 13) K ∧ bdI (A.2.2.2.1 2) 99 ∧ ∀ j, j < A.1 → bdI (A.2.2.2.2 j 1) 100
theorem okA.up {K K2 : Nat} {A : AS} (h : okA K A) (hk : K ≤ K2) : okA K2 A := ⟨h.1, h.2.1, h.2.2.1, h.2.2.2.1.up hk, h.2.2.2.2.1, h.2.2.2.2.2.1.up hk, h.2.2.2.2.2.2⟩
theorem okA.wf {K : Nat} {A : AS} (h : okA K A) : wfA A := h.1
theorem okA.m3 {K : Nat} {A : AS} (h : okA K A) : 0 < A.2.2.2.1 3 := by
  obtain ⟨-, ⟨a, e, h1, h2⟩, -⟩ := h
  rw [e]
  exact (nI_ltI (a := 0) (by omega) (by omega)).mpr (by omega)
theorem bdI.pos {x : Int32} {K : Nat} (h : bdI x K) (hK : K < 2 ^ 31) : 0 ≤ x := by
  obtain ⟨a, e, h⟩ := h
  rw [e]
  exact nI_pos' (by omega)
theorem okA.m8 {K : Nat} {A : AS} (h : okA K A) : 0 ≤ A.2.2.2.1 8 := h.2.2.1.pos (by decide)
theorem nA_ok {K : Nat} {A : AS} (h : okA K A) : okA K (nA A) := by
  obtain ⟨n, g, t, u, q⟩ := A
  exact h
theorem mx3_bd {x : Int32} (h : bdI x 99) : bdI (mxI (nI 0) (x - nI 3)) 99 := by
  obtain ⟨a, rfl, ha⟩ := h
  by_cases c : a < 3
  · exact ⟨0, mx3a (nI_pos' (by omega)) ((nI_ltI (by omega) (by omega)).mpr c), by omega⟩
  · exact ⟨a - 3, by rw [mx3b (nI_pos' (by omega)) (fun q => c ((nI_ltI (by omega) (by omega)).mp q)), nI_sub (by omega)], by omega⟩
theorem hA_ok {K : Nat} {A : AS} (h : okA K A) : okA (K + 1) (hA A).1 := by
  have hw := hA_wf h.1
  obtain ⟨n, _ | i, t, u, q⟩ := A
  · obtain ⟨w, m3, m8, m11, m1, m13, m2, sh⟩ := h
    change wfA (holdA n t u q).1 at hw
    show okA (K + 1) (holdA n t u q).1
    unfold holdA at hw ⊢
    split
    · exact ⟨w, m3, m8, m11.up (by omega), m1, m13.up (by omega), m2, sh⟩
    · rename_i j hj
      split
      · rename_i c
        rw [hj] at hw
        dsimp only at hw
        rw [if_pos c] at hw
        refine ⟨hw, m3, mx3_bd m8, m11.up (by omega), m1, m13.up (by omega), m2, fun a ha => ?_⟩
        show bdI (uq q j 2 (q j 2 + nI 1) a 1) 100
        rw [uq_k (by decide)]
        exact sh a ha
      · rename_i c
        rw [hj] at hw
        dsimp only at hw
        rw [if_neg c] at hw
        refine ⟨hw, m3, m8, m11.up (by omega), m1, ?_, m2, fun a ha => ?_⟩
        · obtain ⟨a, e, ha⟩ := m13
          exact ⟨a + 1, by show u 13 + nI 1 = _; rw [show u 13 = nI a from e, nI_add], by omega⟩
        · show bdI (uq q j 4 (q j 4 + nI 1) a 1) 100
          rw [uq_k (by decide)]
          exact sh a ha
  · exact h.up (by omega)
theorem monthA_ok {K : Nat} {A : AS} (h : okA K A) (hK : K < 2 ^ 30) : okA K (monthA A) := by
  have hw := monthA_wf h.1
  obtain ⟨n, _ | i, t, u, q⟩ := A
  · obtain ⟨w, m3, m8, ⟨a11, e11, h11⟩, ⟨a1, e1, h1⟩, m13, m2, sh⟩ := h
    have e11 : u 11 = nI a11 := e11
    have e1 : u 1 = nI a1 := e1
    refine ⟨hw, m3, m8, ⟨a11 - min (a1 / 2) a11, ?_, by omega⟩, ⟨a1, e1, h1⟩, m13, m2, sh⟩
    show u 11 - mnI (u 1 / nI 2) (u 11) = _
    rw [e11, e1, nI_div (by decide) (by omega) (by decide), nI_min (by omega) (by omega), nI_sub (by omega)]
  · obtain ⟨w, m3, ⟨a8, e8, h8⟩, ⟨a11, e11, h11⟩, ⟨a1, e1, h1⟩, m13, m2, sh⟩ := h
    have e11 : u 11 = nI a11 := e11
    have e1 : u 1 = nI a1 := e1
    have e8 : u 8 = nI a8 := e8
    obtain ⟨s, es, hs⟩ := sh i (w.2.1 i rfl)
    have es : q i 1 = nI s := es
    have hmul : min a1 a11 * s ≤ 200 * 100 := Nat.mul_le_mul (by omega) hs
    have ep : mnI (u 1) (u 11) = nI (min a1 a11) := by rw [e1, e11, nI_min (by omega) (by omega)]
    have ef : mnI (u 1) (u 11) * q i 1 / nI 100 = nI (min a1 a11 * s / 100) := by rw [ep, es, nI_mul, nI_div (by decide) (by omega) (by decide)]
    have eh : mnI (u 1) (u 11) * q i 1 / nI 100 / nI 2 = nI (min a1 a11 * s / 100 / 2) := by rw [ef, nI_div (by decide) (by omega) (by decide)]
    have em : mnI (nI 99) (u 8 + mnI (u 1) (u 11) * q i 1 / nI 100 / nI 2) = nI (min 99 (a8 + min a1 a11 * s / 100 / 2)) := by rw [eh, e8, nI_add, nI_min (by omega) (by omega)]
    have e5 : u 11 - mnI (u 1) (u 11) = nI (a11 - min a1 a11) := by rw [ep, e11, nI_sub (by omega)]
    unfold monthA at hw ⊢
    dsimp only at hw ⊢
    have q1 : ∀ a, a < n → bdI (uq q i 3 (q i 3 + (mnI (u 1) (u 11) - mnI (u 1) (u 11) * q i 1 / nI 100)) a 1) 100 := fun a ha => by
      rw [uq_k (by decide)]
      exact sh a ha
    split
    · rename_i c
      rw [if_pos c] at hw
      exact ⟨hw, m3, ⟨_, em, by omega⟩, ⟨_, e5, by omega⟩, ⟨a1, e1, h1⟩, m13, m2, q1⟩
    · rename_i c
      rw [if_neg c] at hw
      exact ⟨hw, m3, ⟨_, em, by omega⟩, ⟨_, e5, by omega⟩, ⟨a1, e1, h1⟩, m13, m2, q1⟩
theorem mA_ok {K : Nat} {A : AS} (h : okA K A) (hK : K < 2 ^ 30) : okA K (mA A) := by
  unfold mA
  split
  · exact monthA_ok h hK
  · exact h
theorem cp50_bd {x : Int32} (h : bdI x 99) : bdI (x + cpI (nI 50) x) 99 := by
  obtain ⟨a, rfl, ha⟩ := h
  by_cases c : nI a < nI 50
  · have := (nI_ltI (by omega) (by omega)).mp c
    rw [cp50.1 c]
    exact ⟨a + 1, nI_add a 1, by omega⟩
  · by_cases c2 : nI 50 < nI a
    · have := (nI_ltI (by omega) (by omega)).mp c2
      rw [cp50.2.1 c c2, nI_m1 (by omega)]
      exact ⟨a - 1, rfl, by omega⟩
    · rw [cp50.2.2 c c2]
      exact ⟨a + 0, nI_add a 0, by omega⟩
theorem eA_ok {K : Nat} {A : AS} (h : okA K A) : okA K (eA A) := by
  have hw := eA_wf h.1
  obtain ⟨n, _ | i, t, u, q⟩ := A
  · obtain ⟨w, m3, m8, rest⟩ := h
    exact ⟨hw, m3, cp50_bd m8, rest⟩
  · obtain ⟨w, m3, m8, m11, m1, m13, m2, sh⟩ := h
    refine ⟨hw, m3, cp50_bd m8, m11, m1, m13, m2, fun a ha => ?_⟩
    show bdI (uq q i 5 (q i 5 + nI 1) a 1) 100
    rw [uq_k (by decide)]
    exact sh a ha
theorem dayA_ok {K : Nat} {A : AS} (h : okA K A) (hK : K + 1 < 2 ^ 30) : okA (K + 1) (dayA A) := eA_ok (mA_ok (hA_ok (nA_ok h)) hK)
theorem itA_ok {K : Nat} {A : AS} (h : okA K A) : ∀ k, K + k < 2 ^ 30 → okA (K + k) (itA k A)
  | 0, _ => h
  | k + 1, hk => dayA_ok (itA_ok h k (by omega)) (by omega)
/-- how often the cat purrs in k days -/
def pcN (A : AS) (k : Nat) : Nat := match k with
  | 0 => 0
  | k + 1 => if dayR (itA k A) = none then pcN A k else pcN A k + 1
theorem monthA_13 {A : AS} : (monthA A).2.2.2.1 13 = A.2.2.2.1 13 := by
  obtain ⟨n, _ | j, t, u, q⟩ := A
  · rfl
  · unfold monthA
    dsimp only
    split <;> rfl
theorem dayA_13 {A : AS} : (dayA A).2.2.2.1 13 = A.2.2.2.1 13 + hB (dayR A) := by
  have e1 : (dayA A).2.2.2.1 13 = (mA (hA (nA A)).1).2.2.2.1 13 := by
    unfold dayA
    generalize mA (hA (nA A)).1 = B
    obtain ⟨n, _ | i, t, u, q⟩ := B <;> rfl
  have e2 : (mA (hA (nA A)).1).2.2.2.1 13 = (hA (nA A)).1.2.2.2.1 13 := by
    unfold mA
    split
    · exact monthA_13
    · rfl
  rw [e1, e2]
  unfold dayR
  obtain ⟨n, _ | i, t, u, q⟩ := A
  · show (holdA n t _ q).1.2.2.2.1 13 = u 13 + hB (holdA n t _ q).2
    unfold holdA
    split
    · exact (Int32.add_zero _).symm
    · split
      · exact (Int32.add_zero _).symm
      · rfl
  · exact (Int32.add_zero _).symm
theorem pcN_13 {A : AS} : ∀ k, (itA k A).2.2.2.1 13 = A.2.2.2.1 13 + nI (pcN A k)
  | 0 => (Int32.add_zero _).symm
  | k + 1 => by
    rw [itA, dayA_13, pcN_13 k, pcN]
    cases dayR (itA k A) with
    | none => rw [if_pos rfl]; exact Int32.add_zero _
    | some j => rw [if_neg (by simp), Int32.add_assoc]; exact congrArg _ (nI_add _ 1)
theorem pcN_sub {A : AS} {k : Nat} : (itA k A).2.2.2.1 13 - A.2.2.2.1 13 = nI (pcN A k) := by
  rw [pcN_13, Int32.add_comm, Int32.add_sub_cancel]
theorem moveA_ok {K : Nat} {A : AS} {x y : Nat} (h : okA K A) (hx : x < A.1) (hy : y < A.1) : okA K (moveA A x y) := by
  have hw := moveA_wf h.1 hx hy
  obtain ⟨n, g, t, u, q⟩ := A
  obtain ⟨w, m3, m8, m11, m1, m13, m2, sh⟩ := h
  exact ⟨hw, m3, m8, m11, m1, m13, m2, fun a ha => sh _ (mvI_lt hx hy ha)⟩
