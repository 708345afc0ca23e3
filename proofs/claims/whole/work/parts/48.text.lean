/-! the text of a pad, by its people -/
def dgN (len : Nat) (c : Nat → Nat) (i : Nat) : Option Nat := if i < len ∧ 48 ≤ c i ∧ c i ≤ 57 then some (c i - 48) else none
def seN (len : Nat) (c : Nat → Nat) (p : Nat) : Bool × Nat := match dgN len c p with
  | none => (false, p)
  | some d => if d = 0 ∨ dgN len c (p + 1) = none then (true, p + 1) else if d = 1 ∧ dgN len c (p + 1) = some 0 ∧ dgN len c (p + 2) = some 0 then (true, p + 3) else (true, p + 2)
def peN (len : Nat) (c : Nat → Nat) (p : Nat) : Bool × Nat := match dgN len c p with
  | none => (false, p)
  | some d => if d = 0 then (false, p) else if p + 1 < len ∧ c (p + 1) = 102 then seN len c (p + 2) else (false, p + 1)
/-- what follows behind a person -/
def tlN (len : Nat) (c : Nat → Nat) (e : Nat) : Option Nat := if e = len then none else if c e = 44 then ffG len c (len - (e + 1)) (e + 1) 0 (nI 0) else some e
theorem dI_t {x : Nat} : dI x = true ↔ 48 ≤ x ∧ x ≤ 57 := by
  unfold dI
  simp
theorem dgN_s {len : Nat} {c : Nat → Nat} {i d : Nat} (h : dgN len c i = some d) : i < len ∧ c i = d + 48 ∧ d ≤ 9 := by
  unfold dgN at h
  split at h
  · rename_i q
    cases h
    omega
  · cases h
theorem dgN_n {len : Nat} {c : Nat → Nat} {i : Nat} (h : dgN len c i = none) (hi : i < len) : ¬ (48 ≤ c i ∧ c i ≤ 57) := by
  unfold dgN at h
  split at h
  · cases h
  · rename_i q
    omega
theorem shW_n {a x d : Nat} (h : x = d + 48) : shW (nI a) x = nI (10 * a + d) := by
  unfold shW
  rw [nI_mul, nI_add, nI_sub (by omega)]
  congr 1
  omega
theorem canS_3 {s : Int32} {x : Nat} : canS 3 s x = true ↔ x = 44 ∨ (dI x = true ∧ 0 < s ∧ shW s x ≤ nI 100) := by
  unfold canS
  simp
theorem canS_0 {s : Int32} {x : Nat} : canS 0 s x = true ↔ 49 ≤ x ∧ x ≤ 57 := by
  unfold canS
  simp
theorem ff_tail {len k e : Nat} {c : Nat → Nat} {s : Int32} (hk : e + k = len) (h : e < len → ¬ (dI (c e) = true ∧ 0 < s ∧ shW s (c e) ≤ nI 100)) : ffG len c k e 3 s = tlN len c e := by
  unfold tlN
  cases k with
  | zero => rw [ffG, if_pos rfl, if_pos (by omega)]
  | succ k =>
    rw [ffG, if_neg (show ¬ e = len by omega)]
    by_cases q : c e = 44
    · rw [if_pos (canS_3.mpr (Or.inl q)), if_pos q, q]
      rw [show len - (e + 1) = k by omega]
      rfl
    · rw [if_neg q, if_neg (fun z => (canS_3.mp z).elim q (h (by omega)))]
theorem ff_dig {len k e a d : Nat} {c : Nat → Nat} (hd : dgN len c e = some d) (ha : 0 < a) (h : 10 * a + d ≤ 100) : ffG len c (k + 1) e 3 (nI a) = ffG len c k (e + 1) 3 (nI (10 * a + d)) := by
  obtain ⟨h1, h2, h3⟩ := dgN_s hd
  have hI : dI (c e) = true := dI_t.mpr (by omega)
  rw [ffG, if_pos (canS_3.mpr (Or.inr ⟨hI, (nI_ltI (a := 0) (by omega) (by omega)).mpr ha, by rw [shW_n h2]; exact (nI_leI (by omega) (by omega)).mpr h⟩)), if_pos ⟨by decide, hI⟩, shW_n h2]
  have : dueB 3 (c e) = 3 := by
    unfold dueB
    show (if c e = 44 then 0 else 3) = 3
    rw [if_neg (by omega)]
  rw [this]
/-- a digit that would be too much -/
theorem ff_over {len k e a : Nat} {c : Nat → Nat} (hk : e + k = len) (ha : a ≤ 1000) (h : ∀ d, dgN len c e = some d → a = 0 ∨ 100 < 10 * a + d) : ffG len c k e 3 (nI a) = tlN len c e := by
  refine ff_tail hk (fun hi q => ?_)
  obtain ⟨q1, q2, q3⟩ := q
  have hd := dI_t.mp q1
  have hs : dgN len c e = some (c e - 48) := by
    unfold dgN
    rw [if_pos ⟨hi, hd⟩]
  have h2 : c e = (c e - 48) + 48 := by omega
  rw [shW_n h2] at q3
  have q3 := (nI_leI (by omega) (by omega)).mp q3
  have q2 := (nI_ltI (a := 0) (by omega) (by omega)).mp q2
  rcases h _ hs with z | z <;> omega
def rsT (len : Nat) (c : Nat → Nat) (r : Bool × Nat) : Option Nat := match r with
  | (true, e) => tlN len c e
  | (false, f) => some f
theorem ff_share {len k p : Nat} {c : Nat → Nat} (hk : p + k = len) : ffG len c k p 2 (nI 0) = rsT len c (seN len c p) := by
  cases k with
  | zero =>
    have hn : dgN len c p = none := by
      unfold dgN
      rw [if_neg (by omega)]
    have es : seN len c p = (false, p) := by
      unfold seN
      rw [hn]
    rw [es, ffG, if_neg (by decide)]
    show some len = some p
    congr 1
    omega
  | succ k =>
    cases hd : dgN len c p with
    | none =>
      have hn := dgN_n hd (by omega)
      have es : seN len c p = (false, p) := by
        unfold seN
        rw [hd]
      rw [es, ffG, if_neg (show ¬ canS 2 (nI 0) (c p) = true from fun z => hn (dI_t.mp z))]
      rfl
    | some d =>
      obtain ⟨h1, h2, h3⟩ := dgN_s hd
      have hI : dI (c p) = true := dI_t.mpr (by omega)
      have e1 : ffG len c (k + 1) p 2 (nI 0) = ffG len c k (p + 1) 3 (nI d) := by
        rw [ffG, if_pos (show canS 2 (nI 0) (c p) = true from hI), if_pos ⟨by decide, hI⟩, shW_n h2]
        show ffG len c k (p + 1) 3 (nI (10 * 0 + d)) = _
        rw [show 10 * 0 + d = d by omega]
      rw [e1]
      have es : seN len c p = if d = 0 ∨ dgN len c (p + 1) = none then (true, p + 1) else if d = 1 ∧ dgN len c (p + 1) = some 0 ∧ dgN len c (p + 2) = some 0 then (true, p + 3) else (true, p + 2) := by
        unfold seN
        rw [hd]
      rw [es]
      by_cases c1 : d = 0 ∨ dgN len c (p + 1) = none
      · rw [if_pos c1]
        show _ = tlN len c (p + 1)
        refine ff_over (by omega) (by omega) (fun d2 hd2 => ?_)
        rcases c1 with z | z
        · exact Or.inl z
        · rw [hd2] at z
          cases z
      · rw [if_neg c1]
        have hd0 : 0 < d := Nat.pos_of_ne_zero (fun z => c1 (Or.inl z))
        cases hd2 : dgN len c (p + 1) with
        | none => exact absurd (Or.inr hd2) c1
        | some d2 =>
          obtain ⟨g1, g2, g3⟩ := dgN_s hd2
          obtain ⟨k', rfl⟩ : ∃ k', k = k' + 1 := ⟨k - 1, by omega⟩
          rw [ff_dig hd2 hd0 (by omega)]
          by_cases c2 : d = 1 ∧ (some d2 : Option Nat) = some 0 ∧ dgN len c (p + 2) = some 0
          · rw [if_pos c2]
            show _ = tlN len c (p + 3)
            obtain ⟨rfl, e2, e3⟩ := c2
            cases e2
            obtain ⟨l1, l2, l3⟩ := dgN_s e3
            obtain ⟨k2, rfl⟩ : ∃ k2, k' = k2 + 1 := ⟨k' - 1, by omega⟩
            rw [ff_dig (e := p + 1 + 1) e3 (by omega) (by omega)]
            exact ff_over (by omega) (by omega) (fun d3 _ => Or.inr (by omega))
          · rw [if_neg c2]
            show _ = tlN len c (p + 2)
            refine ff_over (e := p + 1 + 1) (by omega) (by omega) (fun d3 hd3 => Or.inr ?_)
            have hd3' : dgN len c (p + 2) = some d3 := hd3
            by_cases z : d = 1 ∧ d2 = 0
            · obtain ⟨rfl, rfl⟩ := z
              have : d3 ≠ 0 := fun z => c2 ⟨rfl, rfl, by rw [hd3', z]⟩
              omega
            · omega
theorem ff_person {len k p : Nat} {c : Nat → Nat} {s : Int32} (hk : p + k = len) : ffG len c k p 0 s = rsT len c (peN len c p) := by
  cases k with
  | zero =>
    have hn : dgN len c p = none := by
      unfold dgN
      rw [if_neg (by omega)]
    have ep : peN len c p = (false, p) := by
      unfold peN
      rw [hn]
    rw [ep, ffG, if_neg (by decide)]
    show some len = some p
    congr 1
    omega
  | succ k =>
    cases hd : dgN len c p with
    | none =>
      have hn := dgN_n hd (by omega)
      have ep : peN len c p = (false, p) := by
        unfold peN
        rw [hd]
      rw [ep, ffG, if_neg (show ¬ canS 0 s (c p) = true from fun z => hn (by have := canS_0.mp z; omega))]
      rfl
    | some d =>
      obtain ⟨h1, h2, h3⟩ := dgN_s hd
      by_cases d0 : d = 0
      · have ep : peN len c p = (false, p) := by
          unfold peN
          rw [hd]
          dsimp only
          rw [if_pos d0]
        rw [ep, ffG, if_neg (show ¬ canS 0 s (c p) = true from fun z => by have := canS_0.mp z; omega)]
        rfl
      · have hc : canS 0 s (c p) = true := by
          simp [canS]
          omega
        rw [ffG, if_pos hc, if_neg (fun z => z.1 rfl)]
        show ffG len c k (p + 1) 1 (nI 0) = _
        have ep : peN len c p = if p + 1 < len ∧ c (p + 1) = 102 then seN len c (p + 2) else (false, p + 1) := by
          unfold peN
          rw [hd]
          dsimp only
          rw [if_neg d0]
        rw [ep]
        cases k with
        | zero =>
          rw [if_neg (by omega), ffG, if_neg (by decide)]
          show some len = some (p + 1)
          congr 1
          omega
        | succ k =>
          by_cases cf : c (p + 1) = 102
          · rw [if_pos ⟨by omega, cf⟩, ffG, if_pos (show canS 1 (nI 0) (c (p + 1)) = true by simp [canS, cf]), if_neg (by rw [cf]; decide)]
            exact ff_share (p := p + 2) (by omega)
          · rw [if_neg (fun z => cf z.2), ffG, if_neg (show ¬ canS 1 (nI 0) (c (p + 1)) = true by simp [canS, cf])]
            rfl
