/-! what holds between two calls -/
def okX (K : Nat) (x : CX) : Prop := okA K x.1 ∧ (∀ j, j < x.2.1 → okA K (x.2.2.1 j)) ∧ x.2.1 ≤ 6 ∧ (∀ i B, x.2.2.2.1 i = some B → okA K B) ∧ (∀ i, i < x.2.2.2.2.1 → x.2.2.2.2.2 i < 65536) ∧ x.2.2.2.2.1 ≤ 60
theorem okX.up {K K2 : Nat} {x : CX} (h : okX K x) (hk : K ≤ K2) : okX K2 x := ⟨h.1.up hk, fun j hj => (h.2.1 j hj).up hk, h.2.2.1, fun i B e => (h.2.2.2.1 i B e).up hk, h.2.2.2.2⟩
theorem rec_ok {K : Nat} {x : CX} {A : AS} (h : okX K x) (hA : okA K A) : okX K (recX x A) := by
  obtain ⟨h1, h2, h3, h4, h5⟩ := h
  refine ⟨hA, fun j hj => ?_, ?_, h4, h5⟩
  · have hj : j < (if x.2.1 < 6 then x.2.1 + 1 else 6) := hj
    show okA K (recR x.2.1 x.2.2.1 x.1 j)
    unfold recR
    by_cases c : x.2.1 < 6
    · rw [if_pos c] at hj ⊢
      split
      · exact h1
      · exact h2 j (by omega)
    · rw [if_neg c] at hj ⊢
      split
      · exact h1
      · exact h2 (j + 1) (by omega)
  · show (if x.2.1 < 6 then x.2.1 + 1 else 6) ≤ 6
    split <;> omega
theorem setA_ok {K i : Nat} {A : AS} {v : Int32} (h : okA K A) (hi : i < 6) (hv : ¬ (v < stV 1 i ∨ stV 2 i < v)) : okA K (setA A i v) := by
  obtain ⟨w, m3, m8, m11, m1, m13, m2, sh⟩ := h
  have lo : ¬ v < stV 1 i := fun q => hv (Or.inl q)
  have hi2 : v ≤ stV 2 i := Int32.not_lt.mp (fun q => hv (Or.inr q))
  have key : ∀ j, j ≠ i → upd A.2.2.2.1 i v j = A.2.2.2.1 j := fun j hj => upd_n hj
  refine ⟨w, ?_, ?_, ?_, ?_, ?_, ?_, sh⟩
  · show ∃ a : Nat, upd A.2.2.2.1 i v 3 = nI a ∧ 1 ≤ a ∧ a ≤ 40
    by_cases c : i = 3
    · subst c
      rw [upd_s]
      obtain ⟨j, j1, j2, e⟩ := rngI (a := 5) (b := 40) (by decide) (by decide) lo hi2
      exact ⟨j, e, by omega, j2⟩
    · rw [key 3 (Ne.symm c)]; exact m3
  · show bdI (upd A.2.2.2.1 i v 8) 99
    rw [key 8 (by omega)]; exact m8
  · show bdI (upd A.2.2.2.1 i v 11) K
    rw [key 11 (by omega)]; exact m11
  · show bdI (upd A.2.2.2.1 i v 1) 200
    by_cases c : i = 1
    · subst c
      rw [upd_s]
      obtain ⟨j, j1, j2, e⟩ := rngI (a := 0) (b := 200) (by decide) (by decide) lo hi2
      exact ⟨j, e, j2⟩
    · rw [key 1 (Ne.symm c)]; exact m1
  · show bdI (upd A.2.2.2.1 i v 13) K
    rw [key 13 (by omega)]; exact m13
  · show bdI (upd A.2.2.2.1 i v 2) 99
    by_cases c : i = 2
    · subst c
      rw [upd_s]
      obtain ⟨j, j1, j2, e⟩ := rngI (a := 0) (b := 99) (by decide) (by decide) lo hi2
      exact ⟨j, e, j2⟩
    · rw [key 2 (Ne.symm c)]; exact m2
theorem X_set_ok {K : Nat} {x : CX} {s v : Int32} (h : okX K x) : okX K (X_set x s v).2 := by
  unfold X_set
  split
  · rename_i c
    obtain ⟨j, hj, rfl⟩ := inR_of c.1 (by decide)
    have c2 := c.2
    rw [ixn (by omega)] at c2 ⊢
    exact rec_ok h (setA_ok h.1 hj c2)
  · exact h
theorem admA_ok {K : Nat} {A : AS} {w s : Int32} (h : okA K A) (hn : A.1 < 8) (hs : bdI s 100) : okA K (admA A w s) := by
  obtain ⟨n, g, t, u, q⟩ := A
  obtain ⟨⟨w1, w2, w3⟩, m3, m8, m11, m1, m13, m2, sh⟩ := h
  have hn : n < 8 := hn
  have w3 : t < n ∨ t = 0 := w3
  refine ⟨⟨show n + 1 ≤ 8 by omega, fun i hi => by have h9 : i < n := w2 i hi; show i < n + 1; omega, show t < n + 1 ∨ t = 0 by omega⟩, m3, m8, m11, m1, m13, m2, fun a ha => ?_⟩
  have ha : a < n + 1 := ha
  show bdI (if a = n then (if 1 = 0 then w else if 1 = 1 then s else 0) else q a 1) 100
  by_cases e : a = n
  · rw [if_pos e]; exact hs
  · rw [if_neg e]; exact sh a (show a < n by omega)
theorem X_add_ok {K : Nat} {x : CX} {w s : Int32} (h : okX K x) : okX K (X_add x w s).2 := by
  unfold X_add
  split
  · exact h
  · rename_i c
    split
    · rename_i c2
      refine rec_ok h (admA_ok h.1 c2 ?_)
      obtain ⟨j, j1, j2, e⟩ := rngI (a := 0) (b := 100) (by decide) (by decide) (fun q => c (Or.inr (Or.inr (Or.inl q)))) (Int32.not_lt.mp (fun q => c (Or.inr (Or.inr (Or.inr q)))))
      exact ⟨j, e, j2⟩
    · exact h
theorem X_move_ok {K : Nat} {x : CX} {p y : Int32} (h : okX K x) : okX K (X_move x p y).2 := by
  unfold X_move
  split
  · rename_i c
    have n8 := h.1.1.1
    obtain ⟨i, hi, rfl⟩ := inR_of c.1 (by omega)
    obtain ⟨j, hj, rfl⟩ := inR_of c.2 (by omega)
    rw [ixn (by omega), ixn (by omega)]
    exact rec_ok h (moveA_ok h.1 hi hj)
  · exact h
theorem lvA_ok {K i : Nat} {A : AS} (h : okA K A) (hi : A.2.1 = some i) : okA K (lvA A i) := by
  obtain ⟨⟨w1, w2, w3⟩, rest⟩ := h
  have := w2 i hi
  exact ⟨⟨w1, fun j hj => (by cases hj), Or.inl (bh_lt (show 0 < A.1 by omega))⟩, rest⟩
theorem X_stepDown_ok {K : Nat} {x : CX} (h : okX K x) : okX K (X_stepDown x).2 := by
  unfold X_stepDown
  split
  · exact h
  · rename_i i hi
    exact rec_ok h (lvA_ok h.1 hi)
theorem appA_ok {K i j : Nat} {A : AS} (h : okA K A) (hK : K < 2 ^ 29) (hi : i < A.1) (hj : j < A.1) : okA (K + 100) (appA A.1 i A.2.2.1 A.2.2.2.1 A.2.2.2.2 j).1 := by
  obtain ⟨n, g, t, u, q⟩ := A
  obtain ⟨⟨w1, w2, w3⟩, m3, m8, ⟨a, ea, ha⟩, m1, m13, ⟨b, eb, hb⟩, sh⟩ := h
  have e11 : bdI (u 11 + u 2) (K + 100) := ⟨a + b, by rw [show u 11 = nI a from ea, show u 2 = nI b from eb, nI_add], by omega⟩
  unfold appA
  dsimp only
  split
  · refine ⟨⟨w1, fun k hk => (by cases hk), Or.inl hj⟩, m3, m8, e11, m1, m13.up (by omega), ⟨b, eb, hb⟩, fun k hk => ?_⟩
    show bdI (uq q j 3 (q j 3 - u 2) k 1) 100
    rw [uq_k (by decide)]
    exact sh k hk
  · refine ⟨⟨w1, fun k hk => (by cases hk; exact hi), w3⟩, m3, m8, e11, m1, m13.up (by omega), ⟨b, eb, hb⟩, fun k hk => ?_⟩
    show bdI (uq (uq q j 3 (q j 3 - u 2)) j 2 (q j 2 + nI 1) k 1) 100
    rw [uq_k (by decide), uq_k (by decide)]
    exact sh k hk
theorem X_appeal_ok {K : Nat} {x : CX} {p : Int32} (h : okX K x) (hK : K < 2 ^ 29) : okX (K + 100) (X_appeal x p).2 := by
  unfold X_appeal
  have n8 := h.1.1.1
  split
  · rename_i c
    obtain ⟨j, hj, rfl⟩ := inR_of c (by omega)
    rw [ixn (by omega)]
    split
    · exact h.up (by omega)
    · split
      · exact h.up (by omega)
      · rename_i i hi
        exact rec_ok (h.up (by omega)) (appA_ok h.1 hK (h.1.1.2.1 i hi) hj)
  · exact h.up (by omega)
theorem X_give_ok {K : Nat} {x : CX} {v : Int32} (h : okX K x) (h0 : 100000 ≤ K) (hK : K < 2 ^ 29) : okX K (X_give x v).2 := by
  unfold X_give
  split
  · exact h
  · rename_i c
    split
    · exact h
    · rename_i c2
      refine rec_ok h ?_
      obtain ⟨j, j1, j2, rfl⟩ := rngI (a := 1) (b := 9999) (by decide) (by decide) (fun q => c (Or.inl q)) (Int32.not_lt.mp (fun q => c (Or.inr q)))
      obtain ⟨w, m3, m8, ⟨a, ea, ha⟩, m1, m13, m2, sh⟩ := h.1
      refine ⟨w, m3, m8, ⟨a + j, ?_, ?_⟩, m1, m13, m2, sh⟩
      · show x.1.2.2.2.1 11 + nI j = _
        rw [ea, nI_add]
      · rw [ea, nI_add] at c2
        have := (nI_leI (by omega) (by decide)).mp (Int32.not_lt.mp c2)
        omega
theorem X_pass_ok {K : Nat} {x : CX} {v : Int32} (h : okX K x) (hK : K < 2 ^ 29) : okX (K + 100) (X_pass x v).2 := by
  unfold X_pass
  split
  · exact h.up (by omega)
  · rename_i c
    split
    · exact h.up (by omega)
    · obtain ⟨j, j1, j2, rfl⟩ := rngI (a := 1) (b := 99) (by decide) (by decide) (fun q => c (Or.inl q)) (Int32.not_lt.mp (fun q => c (Or.inr q)))
      rw [ixn (by omega)]
      exact rec_ok (h.up (by omega)) ((itA_ok h.1 j (by omega)).up (by omega))
theorem X_put_ok {K : Nat} {x : CX} {c : Int64} (h : okX K x) : okX K (X_put x c).2 := by
  unfold X_put
  split
  · exact h
  · split
    · rename_i c1 c2
      obtain ⟨h1, h2, h3, h4, h5, h6⟩ := h
      refine ⟨h1, h2, h3, h4, fun i hi => ?_, c2⟩
      show putC x.2.2.2.2.1 x.2.2.2.2.2 c (pcs c) i < 65536
      unfold putC
      split
      · rename_i q
        exact h5 i q
      · exact Nat.lt_trans cdN_lt (by decide)
    · exact h
theorem X_wipe_ok {K : Nat} {x : CX} (h : okX K x) : okX K (X_wipe x).2 := ⟨h.1, h.2.1, h.2.2.1, h.2.2.2.1, fun i hi => absurd hi (Nat.not_lt_zero _), Nat.zero_le _⟩
theorem X_undo_ok {K : Nat} {x : CX} (h : okX K x) : okX K (X_undo x).2 := by
  unfold X_undo
  split
  · exact h
  · rename_i c
    exact ⟨h.2.1 (x.2.1 - 1) (by omega), fun j hj => h.2.1 j (by have : j < x.2.1 - 1 := hj; omega), by have := h.2.2.1; show x.2.1 - 1 ≤ 6; omega, h.2.2.2⟩
theorem X_save_ok {K : Nat} {x : CX} {s : Int32} (h : okX K x) : okX K (X_save x s).2 := by
  unfold X_save
  split
  · refine ⟨h.1, h.2.1, h.2.2.1, fun i B e => ?_, h.2.2.2.2⟩
    have e : (if i = ixI s then some x.1 else x.2.2.2.1 i) = some B := e
    split at e
    · cases e
      exact h.1
    · exact h.2.2.2.1 i B e
  · exact h
theorem X_restore_ok {K : Nat} {x : CX} {s : Int32} (h : okX K x) : okX K (X_restore x s).2 := by
  unfold X_restore
  split
  · split
    · exact h
    · rename_i B e
      exact rec_ok h (h.2.2.2.1 _ B e)
  · exact h
theorem shV_le {len p e : Nat} {c : Nat → Nat} (h : seN len c p = (true, e)) : shV c p (e - p) ≤ 100 := by
  obtain ⟨h1, h2, h3⟩ := seN_t h
  have q0 := h3 p (by omega) h1
  rcases (show e = p + 1 ∨ e = p + 2 ∨ e = p + 3 by omega) with rfl | rfl | rfl
  · rw [show p + 1 - p = 1 by omega]
    show 10 * 0 + (c (p + 0) - 48) ≤ 100
    rw [Nat.add_zero]
    omega
  · have q1 := h3 (p + 1) (by omega) (by omega)
    rw [show p + 2 - p = 2 by omega]
    show 10 * (10 * 0 + (c (p + 0) - 48)) + (c (p + 1) - 48) ≤ 100
    rw [Nat.add_zero]
    omega
  · unfold seN at h
    cases hd : dgN len c p with
    | none => rw [hd] at h; cases h
    | some d =>
      have g0 := dgN_s hd
      rw [hd] at h
      dsimp only at h
      by_cases c1 : d = 0 ∨ dgN len c (p + 1) = none
      · rw [if_pos c1] at h
        have := congrArg Prod.snd h
        dsimp only at this
        omega
      · rw [if_neg c1] at h
        by_cases c2 : d = 1 ∧ dgN len c (p + 1) = some 0 ∧ dgN len c (p + 2) = some 0
        · have g1 := dgN_s c2.2.1
          have g2 := dgN_s c2.2.2
          rw [show p + 3 - p = 3 by omega]
          show 10 * (10 * (10 * 0 + (c (p + 0) - 48)) + (c (p + 1) - 48)) + (c (p + 2) - 48) ≤ 100
          rw [Nat.add_zero]
          omega
        · rw [if_neg c2] at h
          have := congrArg Prod.snd h
          dsimp only at this
          omega
theorem apG_ok {K len : Nat} {c : Nat → Nat} : ∀ (F p : Nat) (B : AS), len + 1 - p < F → (p = len + 1 ∨ (p ≤ len ∧ ffG len c (len - p) p 0 (nI 0) = none)) → okA K B → okA K (apG len c (len + 1 - p) p (nI 0) (nI 0) B)
  | 0, p, B, hF, _, _ => by omega
  | F + 1, p, B, hF, hI, hB => by
    rcases hI with rfl | ⟨hp, hn⟩
    · rw [show len + 1 - (len + 1) = 0 by omega]
      exact hB
    · obtain ⟨e, he, hn2⟩ := okT hp hn
      obtain ⟨g1, g2, g3⟩ := peN_c he
      obtain ⟨d0, hd, hap⟩ := apG_person (A := B) he (hn2.imp (fun z => z) (fun z => z.2.1)) (show p + (len + 1 - p) = len + 1 by omega)
      obtain ⟨d1, x1, x2, x3, x4, hse⟩ := peN_t he
      rw [hap, show len - e = len + 1 - (e + 1) by omega]
      refine apG_ok F (e + 1) _ (by omega) ?_ ?_
      · rcases hn2 with z | ⟨z1, z2, z3⟩
        · exact Or.inl (by omega)
        · exact Or.inr ⟨by omega, z3⟩
      · unfold adm8
        split
        · rename_i h8
          exact admA_ok hB h8 ⟨_, rfl, shV_le hse⟩
        · exact hB
theorem X_read_ok {K : Nat} {x : CX} (h : okX K x) : okX K (X_read x).2 := by
  unfold X_read
  split
  · rename_i c1
    split
    · have hA := apG_ok (K := K) (x.2.2.2.2.1 + 2) 0 x.1 (by omega) (Or.inr ⟨by omega, c1⟩) h.1
      have h2 := rec_ok h hA
      exact ⟨h2.1, h2.2.1, h2.2.2.1, h2.2.2.2.1, fun i hi => absurd hi (Nat.not_lt_zero _), Nat.zero_le _⟩
    · exact h
  · exact h
theorem x0_ok {K : Nat} (h0 : 100000 ≤ K) : okX K x0 := by
  refine ⟨⟨⟨by decide, fun i hi => (by cases hi), Or.inr rfl⟩, ⟨28, rfl, by decide, by decide⟩, ⟨50, rfl, by decide⟩, ⟨1000, rfl, by omega⟩, ⟨30, rfl, by decide⟩, ⟨0, rfl, by omega⟩, ⟨10, rfl, by decide⟩, fun j hj => absurd hj (Nat.not_lt_zero _)⟩, fun j hj => absurd hj (Nat.not_lt_zero _), by decide, fun i B e => (by cases e), fun i hi => absurd hi (Nat.not_lt_zero _), by decide⟩
