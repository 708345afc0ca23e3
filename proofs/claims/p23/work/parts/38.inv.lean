/-! sums over the people, and what the law's checks rest on -/
def sF (q : Nat → Nat → Int32) (k m : Nat) : Int32 := match m with
  | 0 => nI 0
  | j + 1 => sF q k j + q j k
theorem sumP_sF {q : Nat → Nat → Int32} : ∀ m, sumP q m = sF q 3 m
  | 0 => rfl
  | m + 1 => by rw [sumP, sF, sumP_sF m]
theorem sF_eq {q q1 : Nat → Nat → Int32} {k : Nat} : ∀ m, (∀ a, a < m → q1 a k = q a k) → sF q1 k m = sF q k m
  | 0, _ => rfl
  | m + 1, h => by rw [sF, sF, sF_eq m (fun a ha => h a (by omega)), h m (by omega)]
theorem sF_uqk {q : Nat → Nat → Int32} {j k k2 : Nat} {v : Int32} (h : k2 ≠ k) (m : Nat) : sF (uq q j k v) k2 m = sF q k2 m := sF_eq m (fun a _ => uq_k h)
theorem sF_uqs {q : Nat → Nat → Int32} {j k : Nat} {d : Int32} : ∀ m, j < m → sF (uq q j k (q j k + d)) k m = sF q k m + d
  | 0, h => by omega
  | m + 1, h => by
    rw [sF, sF]
    by_cases e : m = j
    · subst e
      rw [uq_s, sF_eq m (fun a ha => uq_j (by omega)), Int32.add_assoc]
    · rw [sF_uqs m (by omega), uq_j e, Int32.add_assoc, Int32.add_assoc, Int32.add_comm d]
theorem mvI_y {x y : Nat} : mvI x y y = x := by
  unfold mvI
  rw [if_pos rfl]
theorem mvI_up1 {x y a : Nat} (h : x ≤ a) (h2 : a < y) : mvI x y a = a + 1 := by
  unfold mvI
  rw [if_neg (by omega), if_pos ⟨h, h2⟩]
theorem mvI_dn1 {x y a : Nat} (h : y < a) (h2 : a ≤ x) : mvI x y a = a - 1 := by
  unfold mvI
  rw [if_neg (by omega), if_neg (by omega), if_pos ⟨h, h2⟩]
theorem mvI_out {x y a : Nat} (h : (a < x ∧ a < y) ∨ (x < a ∧ y < a)) : mvI x y a = a := by
  unfold mvI
  rw [if_neg (by omega), if_neg (by omega), if_neg (by omega)]
theorem mv_mv {x y p : Nat} : mvI x y (mvP p x y) = p := by
  unfold mvI mvP
  split <;> split <;> (repeat' split) <;> omega
theorem sF_mvU {q : Nat → Nat → Int32} {x y k : Nat} (hxy : x ≤ y) : ∀ m, (m ≤ x → sF (fun a b => q (mvI x y a) b) k m = sF q k m) ∧ (x < m → m ≤ y → sF (fun a b => q (mvI x y a) b) k m + q x k = sF q k (m + 1)) ∧ (y < m → sF (fun a b => q (mvI x y a) b) k m = sF q k m)
  | 0 => ⟨fun _ => rfl, fun h => by omega, fun h => by omega⟩
  | m + 1 => by
    obtain ⟨i1, i2, i3⟩ := sF_mvU hxy m (q := q) (k := k)
    have e0 : sF (fun a b => q (mvI x y a) b) k (m + 1) = sF (fun a b => q (mvI x y a) b) k m + q (mvI x y m) k := rfl
    have e1 : sF q k (m + 1) = sF q k m + q m k := rfl
    have e2 : sF q k (m + 1 + 1) = sF q k m + q m k + q (m + 1) k := rfl
    refine ⟨fun h => ?_, fun h1 h2 => ?_, fun h => ?_⟩
    · rw [e0, e1, i1 (by omega), mvI_out (by omega)]
    · rw [e0, e2, mvI_up1 (by omega) (by omega)]
      by_cases c : m = x
      · subst c
        rw [i1 (by omega), Int32.add_assoc, Int32.add_comm (q (m + 1) k), Int32.add_assoc]
      · rw [Int32.add_assoc, Int32.add_comm (q (m + 1) k), ← Int32.add_assoc, i2 (by omega) (by omega), e1]
    · by_cases c : m = y
      · subst c
        rw [e0, mvI_y]
        by_cases c2 : x = m
        · subst c2
          rw [i1 (by omega), e1]
        · rw [i2 (by omega) (by omega)]
      · rw [e0, e1, i3 (by omega), mvI_out (by omega)]
theorem sF_mvD {q : Nat → Nat → Int32} {x y k : Nat} (hxy : y < x) : ∀ m, (m ≤ y → sF (fun a b => q (mvI x y a) b) k m = sF q k m) ∧ (y < m → m ≤ x → sF (fun a b => q (mvI x y a) b) k m = sF q k (m - 1) + q x k) ∧ (x < m → sF (fun a b => q (mvI x y a) b) k m = sF q k m)
  | 0 => ⟨fun _ => rfl, fun h => by omega, fun h => by omega⟩
  | m + 1 => by
    obtain ⟨i1, i2, i3⟩ := sF_mvD hxy m (q := q) (k := k)
    have e0 : sF (fun a b => q (mvI x y a) b) k (m + 1) = sF (fun a b => q (mvI x y a) b) k m + q (mvI x y m) k := rfl
    have e1 : sF q k (m + 1) = sF q k m + q m k := rfl
    have e3 : 1 ≤ m → sF q k m = sF q k (m - 1) + q (m - 1) k := fun h => by
      obtain ⟨p, rfl⟩ : ∃ p, m = p + 1 := ⟨m - 1, by omega⟩
      rfl
    refine ⟨fun h => ?_, fun h1 h2 => ?_, fun h => ?_⟩
    · rw [e0, e1, i1 (by omega), mvI_out (by omega)]
    · rw [e0, Nat.add_sub_cancel]
      by_cases c : m = y
      · subst c
        rw [i1 (by omega), mvI_y]
      · rw [i2 (by omega) (by omega), mvI_dn1 (by omega) (by omega), e3 (by omega), Int32.add_assoc, Int32.add_comm (q x k), ← Int32.add_assoc]
    · by_cases c : m = x
      · subst c
        rw [e0, e1, i2 (by omega) (by omega), mvI_dn1 (by omega) (by omega), e3 (by omega), Int32.add_assoc, Int32.add_comm (q m k), ← Int32.add_assoc]
      · rw [e0, e1, i3 (by omega), mvI_out (by omega)]
theorem sF_mv {q : Nat → Nat → Int32} {x y k n : Nat} (hx : x < n) (hy : y < n) : sF (fun a b => q (mvI x y a) b) k n = sF q k n := by
  by_cases c : x ≤ y
  · exact (sF_mvU c n).2.2 hy
  · exact (sF_mvD (by omega) n).2.2 hx
theorem rg1 {x m s y : Int32} : x - m + s + (y + m) = x + s + y := by
  rw [Int32.sub_eq_add_neg, show x + -m + s + (y + m) = (x + s + y) + (-m + m) by ac_rfl, Int32.add_left_neg, Int32.add_zero]
theorem rg2 {x p s f y : Int32} : x - p + (s + (p - f)) + (y + f) = x + s + y := by
  rw [Int32.sub_eq_add_neg, Int32.sub_eq_add_neg, show x + -p + (s + (p + -f)) + (y + f) = (x + s + y) + (-p + p) + (-f + f) by ac_rfl, Int32.add_left_neg, Int32.add_left_neg, Int32.add_zero, Int32.add_zero]
theorem rg3 {x c s y : Int32} : x + c + (s + (-c)) + y = x + s + y := by
  rw [show x + c + (s + -c) + y = (x + s + y) + (-c + c) by ac_rfl, Int32.add_left_neg, Int32.add_zero]
theorem rg4 {x v s y z w : Int32} (h : x + s + y = z + w) : x + v + s + y = z + (w + v) := by
  rw [show x + v + s + y = (x + s + y) + v by ac_rfl, h, Int32.add_assoc]
def iw (e K : Nat) (A : AS) : Prop := A.2.2.2.1 12 = sF A.2.2.2.2 2 A.1 ∧ A.2.2.2.1 13 = sF A.2.2.2.2 4 A.1 ∧ A.2.2.2.1 11 + sF A.2.2.2.2 3 A.1 + A.2.2.2.1 15 = nI 1000 + A.2.2.2.1 16 ∧ (∃ a d : Nat, sF A.2.2.2.2 5 A.1 = nI a ∧ A.2.2.2.1 6 = nI d ∧ a + e ≤ d ∧ d ≤ K) ∧ (∀ j, j < A.1 → bdI (A.2.2.2.2 j 3) (200 * K) ∧ bdI (A.2.2.2.2 j 4) K ∧ bdI (A.2.2.2.2 j 2) 9 ∧ bdI (A.2.2.2.2 j 0) 9) ∧ bdI (A.2.2.2.1 4) 9
theorem iw.up {e K K2 : Nat} {A : AS} (h : iw e K A) (hk : K ≤ K2) : iw e K2 A := by
  obtain ⟨h1, h2, h3, ⟨a, d, ea, ed, he, hd⟩, h5, h6⟩ := h
  exact ⟨h1, h2, h3, ⟨a, d, ea, ed, he, by omega⟩, fun j hj => ⟨(h5 j hj).1.up (by omega), (h5 j hj).2.1.up hk, (h5 j hj).2.2⟩, h6⟩
theorem nA_iw {K : Nat} {A : AS} (h : iw 0 K A) : iw 1 (K + 1) (nA A) := by
  obtain ⟨n, g, t, u, q⟩ := A
  obtain ⟨h1, h2, h3, ⟨a, d, ea, ed, he, hd⟩, h5, h6⟩ := h
  refine ⟨h1, h2, h3, ⟨a, d + 1, ea, ?_, by omega, by omega⟩, fun j hj => ⟨(h5 j hj).1.up (by omega), (h5 j hj).2.1.up (by omega), (h5 j hj).2.2⟩, h6⟩
  show u 6 + nI 1 = nI (d + 1)
  rw [show u 6 = nI d from ed, nI_add]
theorem handF_nb {n : Nat} {u : Nat → Int32} {q : Nat → Nat → Int32} : ∀ (k t j : Nat), handF n u q t k = some j → q j 2 < u 4
  | 0, _, _, h => by simp [handF] at h
  | k + 1, t, j, h => by
    rw [handF] at h
    split at h
    · rename_i c
      cases h
      exact c
    · exact handF_nb k _ j h
theorem hA_iw {K : Nat} {A : AS} (w : wfA A) (h : iw 1 K A) : iw 1 (K + 1) (hA A).1 := by
  have h0 := h.up (show K ≤ K + 1 by omega)
  obtain ⟨n, _ | i, t, u, q⟩ := A
  · obtain ⟨h1, h2, h3, ⟨a, d, ea, ed, he, hd⟩, h5, ⟨b4, e4, hb4⟩⟩ := h
    change u 12 = sF q 2 n at h1
    change u 13 = sF q 4 n at h2
    change u 11 + sF q 3 n + u 15 = nI 1000 + u 16 at h3
    change sF q 5 n = nI a at ea
    show iw 1 (K + 1) (holdA n t u q).1
    unfold holdA
    split
    · exact h0
    · rename_i j hj
      have hjn : j < n := hand_lt w.2.2 hj
      split
      · refine ⟨?_, ?_, ?_, ⟨a, d, ?_, ed, he, by omega⟩, fun i hi => ⟨?_, ?_, ?_, ?_⟩, ⟨b4, e4, hb4⟩⟩
        · show u 12 + nI 1 = sF (uq q j 2 (q j 2 + nI 1)) 2 n
          rw [sF_uqs n hjn, h1]
        · show u 13 = sF (uq q j 2 (q j 2 + nI 1)) 4 n
          rw [sF_uqk (by decide), h2]
        · show u 11 + sF (uq q j 2 (q j 2 + nI 1)) 3 n + u 15 = nI 1000 + u 16
          rw [sF_uqk (by decide), h3]
        · show sF (uq q j 2 (q j 2 + nI 1)) 5 n = nI a
          rw [sF_uqk (by decide), ea]
        · show bdI (uq q j 2 (q j 2 + nI 1) i 3) _
          rw [uq_k (by decide)]
          exact (h5 i hi).1.up (by omega)
        · show bdI (uq q j 2 (q j 2 + nI 1) i 4) _
          rw [uq_k (by decide)]
          exact (h5 i hi).2.1.up (by omega)
        · show bdI (uq q j 2 (q j 2 + nI 1) i 2) _
          by_cases c : i = j
          · subst c
            rw [uq_s]
            have hb : q i 2 < u 4 := handF_nb _ _ _ hj
            obtain ⟨b, eb, hb9⟩ := (h5 i hi).2.2.1
            change q i 2 = nI b at eb
            change u 4 = nI b4 at e4
            rw [eb, e4] at hb
            have := (nI_ltI (by omega) (by omega)).mp hb
            exact ⟨b + 1, by rw [eb, nI_add], by omega⟩
          · rw [uq_j c]
            exact (h5 i hi).2.2.1
        · show bdI (uq q j 2 (q j 2 + nI 1) i 0) _
          rw [uq_k (by decide)]
          exact (h5 i hi).2.2.2
      · refine ⟨?_, ?_, ?_, ⟨a, d, ?_, ed, he, by omega⟩, fun i hi => ⟨?_, ?_, ?_, ?_⟩, ⟨b4, e4, hb4⟩⟩
        · show u 12 = sF (uq q j 4 (q j 4 + nI 1)) 2 n
          rw [sF_uqk (by decide), h1]
        · show u 13 + nI 1 = sF (uq q j 4 (q j 4 + nI 1)) 4 n
          rw [sF_uqs n hjn, h2]
        · show u 11 + sF (uq q j 4 (q j 4 + nI 1)) 3 n + u 15 = nI 1000 + u 16
          rw [sF_uqk (by decide), h3]
        · show sF (uq q j 4 (q j 4 + nI 1)) 5 n = nI a
          rw [sF_uqk (by decide), ea]
        · show bdI (uq q j 4 (q j 4 + nI 1) i 3) _
          rw [uq_k (by decide)]
          exact (h5 i hi).1.up (by omega)
        · show bdI (uq q j 4 (q j 4 + nI 1) i 4) _
          obtain ⟨b, eb, hb9⟩ := (h5 i hi).2.1
          change q i 4 = nI b at eb
          by_cases c : i = j
          · subst c
            rw [uq_s]
            exact ⟨b + 1, by rw [eb, nI_add], by omega⟩
          · rw [uq_j c]
            exact ⟨b, eb, by omega⟩
        · show bdI (uq q j 4 (q j 4 + nI 1) i 2) _
          rw [uq_k (by decide)]
          exact (h5 i hi).2.2.1
        · show bdI (uq q j 4 (q j 4 + nI 1) i 0) _
          rw [uq_k (by decide)]
          exact (h5 i hi).2.2.2
  · exact h0
theorem monthA_iw {K : Nat} {A : AS} (ok : okA K A) (hK : K < 2 ^ 30) (h : iw 1 K A) : iw 1 (K + 1) (monthA A) := by
  obtain ⟨n, _ | i, t, u, q⟩ := A
  · have h0 := h.up (show K ≤ K + 1 by omega)
    obtain ⟨h1, h2, h3, h4, h5, h6⟩ := h0
    refine ⟨h1, h2, ?_, h4, h5, h6⟩
    show u 11 - mnI (u 1 / nI 2) (u 11) + sF q 3 n + (u 15 + mnI (u 1 / nI 2) (u 11)) = nI 1000 + u 16
    rw [rg1]
    exact h3
  · obtain ⟨w, m3, ⟨a8, e8, h8⟩, ⟨a11, e11, h11⟩, ⟨a1, e1, h1⟩, m13, m2, sh⟩ := ok
    change u 11 = nI a11 at e11
    change u 1 = nI a1 at e1
    have hin : i < n := w.2.1 i rfl
    obtain ⟨s, es, hs⟩ := sh i hin
    change q i 1 = nI s at es
    have hmul : min a1 a11 * s ≤ min a1 a11 * 100 := Nat.mul_le_mul (Nat.le_refl _) hs
    have ep : mnI (u 1) (u 11) = nI (min a1 a11) := by rw [e1, e11, nI_min (by omega) (by omega)]
    have ef : mnI (u 1) (u 11) * q i 1 / nI 100 = nI (min a1 a11 * s / 100) := by rw [ep, es, nI_mul, nI_div (by decide) (by omega) (by decide)]
    have hg : min a1 a11 * s / 100 ≤ min a1 a11 := by omega
    have ed : mnI (u 1) (u 11) - mnI (u 1) (u 11) * q i 1 / nI 100 = nI (min a1 a11 - min a1 a11 * s / 100) := by rw [ef, ep, nI_sub hg]
    have k200 : min a1 a11 - min a1 a11 * s / 100 ≤ 200 := by omega
    obtain ⟨g1, g2, g3, ⟨a, d, ea, edd, he, hd⟩, g5, g6⟩ := h
    change u 12 = sF q 2 n at g1
    change u 13 = sF q 4 n at g2
    change u 11 + sF q 3 n + u 15 = nI 1000 + u 16 at g3
    change sF q 5 n = nI a at ea
    have c1 : u 12 = sF (uq q i 3 (q i 3 + (mnI (u 1) (u 11) - mnI (u 1) (u 11) * q i 1 / nI 100))) 2 n := by rw [sF_uqk (by decide), g1]
    have c2 : u 13 = sF (uq q i 3 (q i 3 + (mnI (u 1) (u 11) - mnI (u 1) (u 11) * q i 1 / nI 100))) 4 n := by rw [sF_uqk (by decide), g2]
    have c3 : u 11 - mnI (u 1) (u 11) + sF (uq q i 3 (q i 3 + (mnI (u 1) (u 11) - mnI (u 1) (u 11) * q i 1 / nI 100))) 3 n + (u 15 + mnI (u 1) (u 11) * q i 1 / nI 100) = nI 1000 + u 16 := by rw [sF_uqs n hin, rg2, g3]
    have c4 : sF (uq q i 3 (q i 3 + (mnI (u 1) (u 11) - mnI (u 1) (u 11) * q i 1 / nI 100))) 5 n = nI a := by rw [sF_uqk (by decide), ea]
    have c5 : ∀ j, j < n → bdI (uq q i 3 (q i 3 + (mnI (u 1) (u 11) - mnI (u 1) (u 11) * q i 1 / nI 100)) j 3) (200 * (K + 1)) ∧ bdI (uq q i 3 (q i 3 + (mnI (u 1) (u 11) - mnI (u 1) (u 11) * q i 1 / nI 100)) j 4) (K + 1) ∧ bdI (uq q i 3 (q i 3 + (mnI (u 1) (u 11) - mnI (u 1) (u 11) * q i 1 / nI 100)) j 2) 9 ∧ bdI (uq q i 3 (q i 3 + (mnI (u 1) (u 11) - mnI (u 1) (u 11) * q i 1 / nI 100)) j 0) 9 := fun j hj => by
      rw [uq_k (show 4 ≠ 3 by decide), uq_k (show 2 ≠ 3 by decide), uq_k (show 0 ≠ 3 by decide)]
      refine ⟨?_, (g5 j hj).2.1.up (by omega), (g5 j hj).2.2⟩
      obtain ⟨b, eb, hb⟩ := (g5 j hj).1
      change q j 3 = nI b at eb
      by_cases c : j = i
      · subst c
        rw [uq_s, ed, eb, nI_add]
        exact ⟨_, rfl, by omega⟩
      · rw [uq_j c]
        exact ⟨b, eb, by omega⟩
    unfold monthA
    dsimp only
    split
    · exact ⟨c1, c2, c3, ⟨a, d, c4, edd, he, by omega⟩, c5, g6⟩
    · exact ⟨c1, c2, c3, ⟨a, d, c4, edd, he, by omega⟩, c5, g6⟩
theorem mA_iw {K : Nat} {A : AS} (ok : okA K A) (hK : K < 2 ^ 30) (h : iw 1 K A) : iw 1 (K + 1) (mA A) := by
  unfold mA
  split
  · exact monthA_iw ok hK h
  · exact h.up (by omega)
theorem eA_iw {K : Nat} {A : AS} (w : wfA A) (h : iw 1 K A) : iw 0 K (eA A) := by
  obtain ⟨n, _ | i, t, u, q⟩ := A
  · obtain ⟨h1, h2, h3, ⟨a, d, ea, ed, he, hd⟩, h5, h6⟩ := h
    exact ⟨h1, h2, h3, ⟨a, d, ea, ed, by omega, hd⟩, h5, h6⟩
  · have hin : i < n := w.2.1 i rfl
    obtain ⟨g1, g2, g3, ⟨a, d, ea, ed, he, hd⟩, g5, g6⟩ := h
    change u 12 = sF q 2 n at g1
    change u 13 = sF q 4 n at g2
    change u 11 + sF q 3 n + u 15 = nI 1000 + u 16 at g3
    change sF q 5 n = nI a at ea
    refine ⟨?_, ?_, ?_, ⟨a + 1, d, ?_, ed, by omega, hd⟩, fun j hj => ?_, g6⟩
    · show u 12 = sF (uq q i 5 (q i 5 + nI 1)) 2 n
      rw [sF_uqk (by decide), g1]
    · show u 13 = sF (uq q i 5 (q i 5 + nI 1)) 4 n
      rw [sF_uqk (by decide), g2]
    · show u 11 + sF (uq q i 5 (q i 5 + nI 1)) 3 n + u 15 = nI 1000 + u 16
      rw [sF_uqk (by decide), g3]
    · show sF (uq q i 5 (q i 5 + nI 1)) 5 n = nI (a + 1)
      rw [sF_uqs n hin, ea, nI_add]
    · show bdI (uq q i 5 (q i 5 + nI 1) j 3) _ ∧ bdI (uq q i 5 (q i 5 + nI 1) j 4) _ ∧ bdI (uq q i 5 (q i 5 + nI 1) j 2) _ ∧ bdI (uq q i 5 (q i 5 + nI 1) j 0) _
      rw [uq_k (by decide), uq_k (by decide), uq_k (by decide), uq_k (by decide)]
      exact g5 j hj
def iv (K : Nat) (A : AS) : Prop := okA K A ∧ iw 0 K A
theorem iv.up {K K2 : Nat} {A : AS} (h : iv K A) (hk : K ≤ K2) : iv K2 A := ⟨h.1.up hk, h.2.up hk⟩
theorem dayA_iv {K : Nat} {A : AS} (h : iv K A) (hK : K + 3 < 2 ^ 29) : iv (K + 3) (dayA A) := by
  refine ⟨(dayA_ok h.1 (by omega)).up (by omega), ?_⟩
  have a1 := nA_iw h.2
  have a2 := hA_iw (nA_wf h.1.1) a1
  have k2 : okA (K + 1 + 1) (hA (nA A)).1 := (hA_ok (nA_ok h.1)).up (by omega)
  have a3 := mA_iw k2 (by omega) a2
  exact eA_iw (mA_wf (hA_wf (nA_wf h.1.1))) a3
theorem itA_iv {K : Nat} {A : AS} (h : iv K A) : ∀ k, K + 3 * k < 2 ^ 29 → iv (K + 3 * k) (itA k A)
  | 0, _ => h
  | k + 1, hk => (dayA_iv (itA_iv h k (by omega)) (by omega)).up (by omega)
theorem itA_add {A : AS} (a : Nat) : ∀ b, itA (a + b) A = itA b (itA a A)
  | 0 => rfl
  | b + 1 => congrArg dayA (itA_add a b)
