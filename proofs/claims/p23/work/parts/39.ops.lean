/-! the other changes keep the invariants -/
theorem setA_iv {K i : Nat} {A : AS} {v : Int32} (h : iv K A) (hi : i < 6) (hv : ¬ (v < stV 1 i ∨ stV 2 i < v)) : iv K (setA A i v) := by
  refine ⟨setA_ok h.1 hi hv, ?_⟩
  obtain ⟨h1, h2, h3, ⟨a, d, ea, ed, he, hd⟩, h5, h6⟩ := h.2
  have key : ∀ j, j ≠ i → upd A.2.2.2.1 i v j = A.2.2.2.1 j := fun j hj => upd_n hj
  refine ⟨?_, ?_, ?_, ⟨a, d, ea, ?_, he, hd⟩, h5, ?_⟩
  · show upd A.2.2.2.1 i v 12 = _
    rw [key 12 (by omega)]; exact h1
  · show upd A.2.2.2.1 i v 13 = _
    rw [key 13 (by omega)]; exact h2
  · show upd A.2.2.2.1 i v 11 + _ + upd A.2.2.2.1 i v 15 = _ + upd A.2.2.2.1 i v 16
    rw [key 11 (by omega), key 15 (by omega), key 16 (by omega)]; exact h3
  · show upd A.2.2.2.1 i v 6 = _
    rw [key 6 (by omega)]; exact ed
  · show bdI (upd A.2.2.2.1 i v 4) 9
    by_cases c : i = 4
    · subst c
      rw [upd_s]
      obtain ⟨j, j1, j2, e⟩ := rngI (a := 1) (b := 9) (by decide) (by decide) (fun q => hv (Or.inl q)) (Int32.not_lt.mp (fun q => hv (Or.inr q)))
      exact ⟨j, e, j2⟩
    · rw [key 4 (Ne.symm c)]; exact h6
theorem admA_iv {K : Nat} {A : AS} {w s : Int32} (h : iv K A) (hn : A.1 < 8) (hw : bdI w 9) (hs : bdI s 100) : iv K (admA A w s) := by
  refine ⟨admA_ok h.1 hn hs, ?_⟩
  obtain ⟨n, g, t, u, q⟩ := A
  obtain ⟨h1, h2, h3, ⟨a, d, ea, ed, he, hd⟩, h5, h6⟩ := h.2
  change u 12 = sF q 2 n at h1
  change u 13 = sF q 4 n at h2
  change u 11 + sF q 3 n + u 15 = nI 1000 + u 16 at h3
  change sF q 5 n = nI a at ea
  have key : ∀ k, 2 ≤ k → sF (fun a b => if a = n then (if b = 0 then w else if b = 1 then s else 0) else q a b) k (n + 1) = sF q k n := fun k hk => by
    show sF _ k n + (if n = n then (if k = 0 then w else if k = 1 then s else 0) else q n k) = _
    rw [if_pos rfl, if_neg (by omega), if_neg (by omega), Int32.add_zero]
    exact sF_eq n (fun a ha => if_neg (by omega))
  refine ⟨?_, ?_, ?_, ⟨a, d, ?_, ed, he, hd⟩, fun j hj => ?_, h6⟩
  · exact h1.trans (key 2 (by decide)).symm
  · exact h2.trans (key 4 (by decide)).symm
  · exact (congrArg (fun s => u 11 + s + u 15) (key 3 (by decide))).trans h3
  · exact (key 5 (by decide)).trans ea
  · have hj : j < n + 1 := hj
    show bdI (if j = n then (if 3 = 0 then w else if 3 = 1 then s else 0) else q j 3) _ ∧ bdI (if j = n then (if 4 = 0 then w else if 4 = 1 then s else 0) else q j 4) _ ∧ bdI (if j = n then (if 2 = 0 then w else if 2 = 1 then s else 0) else q j 2) _ ∧ bdI (if j = n then (if 0 = 0 then w else if 0 = 1 then s else 0) else q j 0) _
    by_cases c : j = n
    · rw [if_pos c, if_pos c, if_pos c, if_pos c]
      exact ⟨⟨0, rfl, by omega⟩, ⟨0, rfl, by omega⟩, ⟨0, rfl, by omega⟩, hw⟩
    · rw [if_neg c, if_neg c, if_neg c, if_neg c]
      exact h5 j (show j < n by omega)
theorem moveA_iv {K : Nat} {A : AS} {x y : Nat} (h : iv K A) (hx : x < A.1) (hy : y < A.1) : iv K (moveA A x y) := by
  refine ⟨moveA_ok h.1 hx hy, ?_⟩
  obtain ⟨n, g, t, u, q⟩ := A
  obtain ⟨h1, h2, h3, ⟨a, d, ea, ed, he, hd⟩, h5, h6⟩ := h.2
  refine ⟨?_, ?_, ?_, ⟨a, d, ?_, ed, he, hd⟩, fun j hj => h5 _ (mvI_lt hx hy hj), h6⟩
  · show u 12 = sF (fun a b => q (mvI x y a) b) 2 n
    rw [sF_mv hx hy]; exact h1
  · show u 13 = sF (fun a b => q (mvI x y a) b) 4 n
    rw [sF_mv hx hy]; exact h2
  · show u 11 + sF (fun a b => q (mvI x y a) b) 3 n + u 15 = nI 1000 + u 16
    rw [sF_mv hx hy]; exact h3
  · show sF (fun a b => q (mvI x y a) b) 5 n = nI a
    rw [sF_mv hx hy]; exact ea
theorem lvA_iv {K i : Nat} {A : AS} (h : iv K A) (hi : A.2.1 = some i) : iv K (lvA A i) := ⟨lvA_ok h.1 hi, h.2⟩
theorem givA_iv {K : Nat} {A : AS} {j : Nat} (h : iv K A) (h0 : 100000 ≤ K) (hK : K < 2 ^ 29) (hj : j < 10000) (c2 : ¬ nI 99999 < A.2.2.2.1 11 + nI j) : iv K (givA A (nI j)) := by
  obtain ⟨w, m3, m8, ⟨a, ea, ha⟩, m1, m13, m2, sh⟩ := h.1
  refine ⟨⟨w, m3, m8, ⟨a + j, ?_, ?_⟩, m1, m13, m2, sh⟩, ?_⟩
  · show A.2.2.2.1 11 + nI j = _
    rw [ea, nI_add]
  · rw [ea, nI_add] at c2
    have := (nI_leI (by omega) (by decide)).mp (Int32.not_lt.mp c2)
    omega
  · obtain ⟨h1, h2, h3, h4, h5, h6⟩ := h.2
    refine ⟨h1, h2, ?_, h4, h5, h6⟩
    show A.2.2.2.1 11 + nI j + sF A.2.2.2.2 3 A.1 + A.2.2.2.1 15 = nI 1000 + (A.2.2.2.1 16 + nI j)
    exact rg4 h3
theorem appA_iv {K i j : Nat} {A : AS} (h : iv K A) (hK : K < 2 ^ 29) (hi : i < A.1) (hj : j < A.1) (hb : A.2.2.2.2 j 2 < A.2.2.2.1 4) (hc : ¬ A.2.2.2.2 j 3 < A.2.2.2.1 2) : iv (K + 100) (appA A.1 i A.2.2.1 A.2.2.2.1 A.2.2.2.2 j).1 := by
  refine ⟨appA_ok h.1 hK hi hj, ?_⟩
  obtain ⟨w, m3, m8, m11, m1, m13, ⟨b2, e2, hb2⟩, sh⟩ := h.1
  have hw := h.2
  obtain ⟨n, g, t, u, q⟩ := A
  obtain ⟨h1, h2, h3, ⟨a, d, ea, ed, he, hd⟩, h5, ⟨b4, e4, hb4⟩⟩ := hw
  change u 12 = sF q 2 n at h1
  change u 13 = sF q 4 n at h2
  change u 11 + sF q 3 n + u 15 = nI 1000 + u 16 at h3
  change sF q 5 n = nI a at ea
  change u 4 = nI b4 at e4
  change u 2 = nI b2 at e2
  change q j 2 < u 4 at hb
  change ¬ q j 3 < u 2 at hc
  change j < n at hj
  obtain ⟨p, epp, hp⟩ := (h5 j hj).1
  change q j 3 = nI p at epp
  obtain ⟨s, es, hs9⟩ := (h5 j hj).2.2.1
  change q j 2 = nI s at es
  rw [es, e4] at hb
  have hs4 := (nI_ltI (by omega) (by omega)).mp hb
  rw [epp, e2] at hc
  have hpc : b2 ≤ p := Nat.not_lt.mp (fun q9 => hc ((nI_ltI (by omega) (by omega)).mpr q9))
  have eM : q j 3 - u 2 = q j 3 + (-u 2) := Int32.sub_eq_add_neg _ _
  have eS3 : sF (uq q j 3 (q j 3 - u 2)) 3 n = sF q 3 n + (-u 2) := by rw [eM, sF_uqs n hj]
  have eP : q j 3 - u 2 = nI (p - b2) := by rw [epp, e2, nI_sub hpc]
  unfold appA
  dsimp only
  split
  · refine ⟨?_, ?_, ?_, ⟨a, d, ?_, ed, he, by omega⟩, fun k hk => ?_, ⟨b4, e4, hb4⟩⟩
    · show u 12 = sF (uq q j 3 (q j 3 - u 2)) 2 n
      rw [sF_uqk (by decide)]; exact h1
    · show u 13 = sF (uq q j 3 (q j 3 - u 2)) 4 n
      rw [sF_uqk (by decide)]; exact h2
    · show u 11 + u 2 + sF (uq q j 3 (q j 3 - u 2)) 3 n + u 15 = nI 1000 + u 16
      rw [eS3, rg3]; exact h3
    · show sF (uq q j 3 (q j 3 - u 2)) 5 n = nI a
      rw [sF_uqk (by decide)]; exact ea
    · have hk : k < n := hk
      show bdI (uq q j 3 (q j 3 - u 2) k 3) _ ∧ bdI (uq q j 3 (q j 3 - u 2) k 4) _ ∧ bdI (uq q j 3 (q j 3 - u 2) k 2) _ ∧ bdI (uq q j 3 (q j 3 - u 2) k 0) _
      rw [uq_k (show 4 ≠ 3 by decide), uq_k (show 2 ≠ 3 by decide), uq_k (show 0 ≠ 3 by decide)]
      refine ⟨?_, (h5 k hk).2.1.up (by omega), (h5 k hk).2.2⟩
      by_cases c : k = j
      · subst c
        rw [uq_s, eP]
        exact ⟨_, rfl, by omega⟩
      · rw [uq_j c]
        exact (h5 k hk).1.up (by omega)
  · refine ⟨?_, ?_, ?_, ⟨a, d, ?_, ed, he, by omega⟩, fun k hk => ?_, ⟨b4, e4, hb4⟩⟩
    · show u 12 + nI 1 = sF (uq (uq q j 3 (q j 3 - u 2)) j 2 (q j 2 + nI 1)) 2 n
      have e9 : uq q j 3 (q j 3 - u 2) j 2 = q j 2 := uq_k (by decide)
      rw [← e9, sF_uqs n hj, sF_uqk (by decide), h1]
    · show u 13 = sF (uq (uq q j 3 (q j 3 - u 2)) j 2 (q j 2 + nI 1)) 4 n
      rw [sF_uqk (by decide), sF_uqk (by decide)]; exact h2
    · show u 11 + u 2 + sF (uq (uq q j 3 (q j 3 - u 2)) j 2 (q j 2 + nI 1)) 3 n + u 15 = nI 1000 + u 16
      rw [sF_uqk (by decide), eS3, rg3]; exact h3
    · show sF (uq (uq q j 3 (q j 3 - u 2)) j 2 (q j 2 + nI 1)) 5 n = nI a
      rw [sF_uqk (by decide), sF_uqk (by decide)]; exact ea
    · have hk : k < n := hk
      show bdI (uq (uq q j 3 (q j 3 - u 2)) j 2 (q j 2 + nI 1) k 3) _ ∧ bdI (uq (uq q j 3 (q j 3 - u 2)) j 2 (q j 2 + nI 1) k 4) _ ∧ bdI (uq (uq q j 3 (q j 3 - u 2)) j 2 (q j 2 + nI 1) k 2) _ ∧ bdI (uq (uq q j 3 (q j 3 - u 2)) j 2 (q j 2 + nI 1) k 0) _
      rw [uq_k (show 3 ≠ 2 by decide), uq_k (show 4 ≠ 2 by decide), uq_k (show 0 ≠ 2 by decide), uq_k (show 4 ≠ 3 by decide), uq_k (show 0 ≠ 3 by decide)]
      refine ⟨?_, (h5 k hk).2.1.up (by omega), ?_, (h5 k hk).2.2.2⟩
      · by_cases c : k = j
        · subst c
          rw [uq_s, eP]
          exact ⟨_, rfl, by omega⟩
        · rw [uq_j c]
          exact (h5 k hk).1.up (by omega)
      · by_cases c : k = j
        · subst c
          rw [uq_s, es, nI_add]
          exact ⟨_, rfl, by omega⟩
        · rw [uq_j c, uq_k (by decide)]
          exact (h5 k hk).2.2.1
theorem A0_iv {K : Nat} (h0 : 100000 ≤ K) : iv K A0 := by
  refine ⟨⟨⟨by decide, fun i hi => (by cases hi), Or.inr rfl⟩, ⟨28, rfl, by decide, by decide⟩, ⟨50, rfl, by decide⟩, ⟨1000, rfl, by omega⟩, ⟨30, rfl, by decide⟩, ⟨0, rfl, by omega⟩, ⟨10, rfl, by decide⟩, fun j hj => absurd hj (Nat.not_lt_zero _)⟩, ⟨rfl, rfl, rfl, ⟨0, 0, rfl, rfl, by decide, by omega⟩, fun j hj => absurd hj (Nat.not_lt_zero _), ⟨3, rfl, by decide⟩⟩⟩
