theorem setA_ok {K i : Nat} {A : AS} {v : Int32} (h : okA K A) (hi : i < 6) (hv : ¬ (v < stV 1 i ∨ stV 2 i < v)) : okA K (setA A i v) := by
  obtain ⟨w, m3, m8, m11, m1, m13, m2, sh⟩ := h
  have lo : ¬ v < stV 1 i := fun q => hv (Or.inl q)
  have hi2 : v ≤ stV 2 i := Int32.not_lt.mp (fun q => hv (Or.inr q))
  have key : ∀ j, j ≠ i → upd A.2.2.2.1 i v j = A.2.2.2.1 j := fun j hj => upd_n hj
  refine ⟨w, ?_, ?_, ?_, ?_, ?_, ?_, sh⟩
  · show ∃ a : Nat, upd A.2.2.2.1 i v 3 = nI a ∧ 1 ≤ a ∧ a ≤ 40
    by_cases c : i = 3
    · subst c
      rw [upd_s]
      obtain ⟨j, j1, j2, e⟩ := rngI (a := 5) (b := 40) (by decide) (by decide) lo hi2
      exact ⟨j, e, by omega, j2⟩
    · rw [key 3 (Ne.symm c)]; exact m3
  · show bdI (upd A.2.2.2.1 i v 8) 99
    rw [key 8 (by omega)]; exact m8
  · show bdI (upd A.2.2.2.1 i v 11) K
    rw [key 11 (by omega)]; exact m11
  · show bdI (upd A.2.2.2.1 i v 1) 200
    by_cases c : i = 1
    · subst c
      rw [upd_s]
      obtain ⟨j, j1, j2, e⟩ := rngI (a := 0) (b := 200) (by decide) (by decide) lo hi2
      exact ⟨j, e, j2⟩
    · rw [key 1 (Ne.symm c)]; exact m1
  · show bdI (upd A.2.2.2.1 i v 13) K
    rw [key 13 (by omega)]; exact m13
  · show bdI (upd A.2.2.2.1 i v 2) 99
    by_cases c : i = 2
    · subst c
      rw [upd_s]
      obtain ⟨j, j1, j2, e⟩ := rngI (a := 0) (b := 99) (by decide) (by decide) lo hi2
      exact ⟨j, e, j2⟩
    · rw [key 2 (Ne.symm c)]; exact m2
theorem admA_ok {K : Nat} {A : AS} {w s : Int32} (h : okA K A) (hn : A.1 < 8) (hs : bdI s 100) : okA K (admA A w s) := by
  obtain ⟨n, g, t, u, q⟩ := A
  obtain ⟨⟨w1, w2, w3⟩, m3, m8, m11, m1, m13, m2, sh⟩ := h
  have hn : n < 8 := hn
  have w3 : t < n ∨ t = 0 := w3
  refine ⟨⟨show n + 1 ≤ 8 by omega, fun i hi => by have h9 : i < n := w2 i hi; show i < n + 1; omega, show t < n + 1 ∨ t = 0 by omega⟩, m3, m8, m11, m1, m13, m2, fun a ha => ?_⟩
  have ha : a < n + 1 := ha
  show bdI (if a = n then (if 1 = 0 then w else if 1 = 1 then s else 0) else q a 1) 100
  by_cases e : a = n
  · rw [if_pos e]; exact hs
  · rw [if_neg e]; exact sh a (show a < n by omega)
theorem lvA_ok {K i : Nat} {A : AS} (h : okA K A) (hi : A.2.1 = some i) : okA K (lvA A i) := by
  obtain ⟨⟨w1, w2, w3⟩, rest⟩ := h
  have := w2 i hi
  exact ⟨⟨w1, fun j hj => (by cases hj), Or.inl (bh_lt (show 0 < A.1 by omega))⟩, rest⟩
theorem appA_ok {K i j : Nat} {A : AS} (h : okA K A) (hK : K < 2 ^ 29) (hi : i < A.1) (hj : j < A.1) : okA (K + 100) (appA A.1 i A.2.2.1 A.2.2.2.1 A.2.2.2.2 j).1 := by
  obtain ⟨n, g, t, u, q⟩ := A
  obtain ⟨⟨w1, w2, w3⟩, m3, m8, ⟨a, ea, ha⟩, m1, m13, ⟨b, eb, hb⟩, sh⟩ := h
  have e11 : bdI (u 11 + u 2) (K + 100) := ⟨a + b, by rw [show u 11 = nI a from ea, show u 2 = nI b from eb, nI_add], by omega⟩
  unfold appA
  dsimp only
  split
  · refine ⟨⟨w1, fun k hk => (by cases hk), Or.inl hj⟩, m3, m8, e11, m1, m13.up (by omega), ⟨b, eb, hb⟩, fun k hk => ?_⟩
    show bdI (uq q j 3 (q j 3 - u 2) k 1) 100
    rw [uq_k (by decide)]
    exact sh k hk
  · refine ⟨⟨w1, fun k hk => (by cases hk; exact hi), w3⟩, m3, m8, e11, m1, m13.up (by omega), ⟨b, eb, hb⟩, fun k hk => ?_⟩
    show bdI (uq (uq q j 3 (q j 3 - u 2)) j 2 (q j 2 + nI 1) k 1) 100
    rw [uq_k (by decide), uq_k (by decide)]
    exact sh k hk
