/-! the mathematical value: what a day, a month, a hand, an appeal do -/
def mxI (a b : Int32) : Int32 := if a < b then b else a
def mnI (a b : Int32) : Int32 := if b < a then b else a
def abI (a : Int32) : Int32 := if 0 ≤ a then a else 0 - a
def cpI (a b : Int32) : Int32 := if a < b then (-1) else if a = b then nI 0 else nI 1
def bh (n j : Nat) : Nat := if j + 1 < n then j + 1 else 0
def bB (u : Nat → Int32) (q : Nat → Nat → Int32) (j : Nat) : Int32 := if q j 2 < u 4 then nI 0 else nI 1
theorem bB_0 {u : Nat → Int32} {q : Nat → Nat → Int32} {j : Nat} (h : bB u q j = 0) : q j 2 < u 4 := by
  unfold bB at h
  split at h
  · assumption
  · exact absurd h (by decide)
theorem bB_1 {u : Nat → Int32} {q : Nat → Nat → Int32} {j : Nat} (h : ¬ bB u q j = 0) : ¬ q j 2 < u 4 := by
  intro c
  exact h (by unfold bB; rw [if_pos c]; rfl)
def scI (u : Nat → Int32) (q : Nat → Nat → Int32) (j : Nat) : Int32 := u 8 + nI 5 * q j 0 - nI 10 * q j 2
def sumB (u : Nat → Int32) (q : Nat → Nat → Int32) (m : Nat) : Int32 := match m with
  | 0 => nI 0
  | k + 1 => if q k 2 < u 4 then sumB u q k else sumB u q k + 1
def sumP (q : Nat → Nat → Int32) (m : Nat) : Int32 := match m with
  | 0 => nI 0
  | k + 1 => sumP q k + q k 3
/-- the first one, of k that are asked from t on, who is not barred -/
def handF (n : Nat) (u : Nat → Int32) (q : Nat → Nat → Int32) (t k : Nat) : Option Nat := match k with
  | 0 => none
  | k + 1 => if q t 2 < u 4 then some t else handF n u q (bh n t) k
def hand (n t : Nat) (u : Nat → Int32) (q : Nat → Nat → Int32) : Option Nat := handF n u q t n
/-- a hand is held out; who gets the purr -/
def holdA (n t : Nat) (u : Nat → Int32) (q : Nat → Nat → Int32) : AS × Option Nat := match hand n t u q with
  | none => ((n, none, t, u, q), none)
  | some j => if scI u q j < u 0 then ((n, none, bh n j, upd (upd u 12 (u 12 + nI 1)) 8 (mxI (nI 0) (u 8 - nI 3)), uq q j 2 (q j 2 + nI 1)), none) else ((n, some j, t, upd u 13 (u 13 + nI 1), uq q j 4 (q j 4 + nI 1)), some j)
def monthA (A : AS) : AS := match A with
  | (n, none, t, u, q) => (n, none, t, upd (upd u 11 (u 11 - mnI (u 1 / nI 2) (u 11))) 15 (u 15 + mnI (u 1 / nI 2) (u 11)), q)
  | (n, some j, t, u, q) =>
    if mnI (nI 99) (u 8 + mnI (u 1) (u 11) * q j 1 / nI 100 / nI 2) < u 5 then
      (n, none, 0, upd (upd (upd (upd u 11 (u 11 - mnI (u 1) (u 11))) 15 (u 15 + mnI (u 1) (u 11) * q j 1 / nI 100)) 8 (mnI (nI 99) (u 8 + mnI (u 1) (u 11) * q j 1 / nI 100 / nI 2))) 14 (u 14 + nI 1), uq q j 3 (q j 3 + (mnI (u 1) (u 11) - mnI (u 1) (u 11) * q j 1 / nI 100)))
    else
      (n, some j, t, upd (upd (upd u 11 (u 11 - mnI (u 1) (u 11))) 15 (u 15 + mnI (u 1) (u 11) * q j 1 / nI 100)) 8 (mnI (nI 99) (u 8 + mnI (u 1) (u 11) * q j 1 / nI 100 / nI 2)), uq q j 3 (q j 3 + (mnI (u 1) (u 11) - mnI (u 1) (u 11) * q j 1 / nI 100)))
/-- the hand of a day, by who is the guardian -/
def hA (A : AS) : AS × Option Nat := match A with
  | (n, none, t, u, q) => holdA n t u q
  | (n, some j, t, u, q) => ((n, some j, t, u, q), none)
/-- the month's end, if it is one -/
def mA (A : AS) : AS := if A.2.2.2.1 6 - A.2.2.2.1 6 / A.2.2.2.1 3 * A.2.2.2.1 3 = 0 then monthA A else A
/-- the mood goes nearer to 50, and the guardian's day counts -/
def eA (A : AS) : AS := match A with
  | (n, none, t, u, q) => (n, none, t, upd u 8 (u 8 + cpI (nI 50) (u 8)), q)
  | (n, some j, t, u, q) => (n, some j, t, upd u 8 (u 8 + cpI (nI 50) (u 8)), uq q j 5 (q j 5 + nI 1))
/-- the day's number -/
def nA (A : AS) : AS := match A with
  | (n, g, t, u, q) => (n, g, t, upd u 6 (u 6 + nI 1), q)
def dayA (A : AS) : AS := eA (mA (hA (nA A)).1)
/-- who gets a purr on the day -/
def dayR (A : AS) : Option Nat := (hA (nA A)).2
def itA (k : Nat) (A : AS) : AS := match k with
  | 0 => A
  | k + 1 => dayA (itA k A)
/-- a place behind a move -/
def mvP (p x y : Nat) : Nat := if p = x then y else if x < p ∧ p ≤ y then p - 1 else if p < x ∧ y ≤ p then p + 1 else p
/-- who stands at a place behind a move -/
def mvI (x y p : Nat) : Nat := if p = y then x else if x ≤ p ∧ p < y then p + 1 else if y < p ∧ p ≤ x then p - 1 else p
def moveA (A : AS) (x y : Nat) : AS := match A with
  | (n, g, t, u, q) => (n, g.map (fun p => mvP p x y), mvP t x y, u, fun a b => q (mvI x y a) b)
/-- a new person at the end -/
def admA (A : AS) (w s : Int32) : AS := match A with
  | (n, g, t, u, q) => (n + 1, g, t, u, fun a b => if a = n then (if b = 0 then w else if b = 1 then s else 0) else q a b)
def mayB (n : Nat) (g : Option Nat) (u : Nat → Int32) (q : Nat → Nat → Int32) (j : Nat) : Prop := g ≠ none ∧ g ≠ some j ∧ q j 2 < u 4 ∧ ¬ q j 3 < u 2
/-- an appeal of j against i: whether the guardian is deposed -/
def appA (n i t : Nat) (u : Nat → Int32) (q : Nat → Nat → Int32) (j : Nat) : AS × Bool :=
  if scI u q i < scI u q j then ((n, none, j, upd (upd u 11 (u 11 + u 2)) 14 (u 14 + nI 1), uq q j 3 (q j 3 - u 2)), true)
  else ((n, some i, t, upd (upd u 11 (u 11 + u 2)) 12 (u 12 + nI 1), uq (uq q j 3 (q j 3 - u 2)) j 2 (q j 2 + nI 1)), false)
def mayI (n : Nat) (g : Option Nat) (u : Nat → Int32) (q : Nat → Nat → Int32) (j : Nat) : Int32 := if g ≠ none ∧ g ≠ some j ∧ q j 2 < u 4 ∧ ¬ q j 3 < u 2 then nI 1 else nI 0
/-- the numbers of a state are what they can be: 8 people at most, the guardian one of them, the turn too -/
def wfA (A : AS) : Prop := A.1 ≤ 8 ∧ (∀ i, A.2.1 = some i → i < A.1) ∧ (A.2.2.1 < A.1 ∨ A.2.2.1 = 0)
theorem bh_lt {n j : Nat} (h : 0 < n) : bh n j < n := by
  unfold bh
  split <;> omega
theorem handF_lt {n : Nat} {u : Nat → Int32} {q : Nat → Nat → Int32} : ∀ (k t j : Nat), t < n → handF n u q t k = some j → j < n
  | 0, _, _, _, h => by simp [handF] at h
  | k + 1, t, j, ht, h => by
    rw [handF] at h
    split at h
    · cases h
      exact ht
    · exact handF_lt k _ j (bh_lt (by omega)) h
theorem hand_lt {n t j : Nat} {u : Nat → Int32} {q : Nat → Nat → Int32} (ht : t < n ∨ t = 0) (h : hand n t u q = some j) : j < n := by
  unfold hand at h
  rcases Nat.eq_zero_or_pos n with e | e
  · subst e
    simp [handF] at h
  · exact handF_lt n t j (by omega) h
theorem nA_wf {A : AS} (w : wfA A) : wfA (nA A) := w
theorem hA_1 {A : AS} : (hA A).1.1 = A.1 := by
  obtain ⟨n, _ | i, t, u, q⟩ := A
  · show (holdA n t u q).1.1 = n
    unfold holdA
    split
    · rfl
    · split <;> rfl
  · rfl
theorem hA_u {A : AS} {i : Nat} (hi : i < 6) : (hA A).1.2.2.2.1 i = A.2.2.2.1 i := by
  obtain ⟨n, _ | j, t, u, q⟩ := A
  · show (holdA n t u q).1.2.2.2.1 i = u i
    unfold holdA
    split
    · rfl
    · split
      · show upd (upd u 12 _) 8 _ i = u i
        rw [upd_n (by omega), upd_n (by omega)]
      · show upd u 13 _ i = u i
        rw [upd_n (by omega)]
  · rfl
theorem hA_wf {A : AS} (w : wfA A) : wfA (hA A).1 := by
  obtain ⟨n, _ | i, t, u, q⟩ := A
  · obtain ⟨w1, w2, w3⟩ := w
    show wfA (holdA n t u q).1
    have hn : n ≤ 8 := w1
    have ht : t < n ∨ t = 0 := w3
    unfold holdA
    split
    · exact ⟨hn, fun i h => (by cases h), ht⟩
    · rename_i j hj
      have hjn := hand_lt ht hj
      split
      · exact ⟨hn, fun i h => (by cases h), Or.inl (bh_lt (by omega))⟩
      · exact ⟨hn, fun i h => (by cases h; exact hjn), ht⟩
  · exact w
theorem monthA_wf {A : AS} (w : wfA A) : wfA (monthA A) := by
  obtain ⟨n, _ | i, t, u, q⟩ := A
  · exact w
  · unfold monthA
    dsimp only
    split
    · exact ⟨w.1, fun i h => (by cases h), Or.inr rfl⟩
    · exact w
theorem monthA_1 {A : AS} : (monthA A).1 = A.1 := by
  obtain ⟨n, _ | i, t, u, q⟩ := A
  · rfl
  · unfold monthA
    dsimp only
    split <;> rfl
theorem monthA_u {A : AS} {k : Nat} (hk : k < 6) : (monthA A).2.2.2.1 k = A.2.2.2.1 k := by
  obtain ⟨n, _ | i, t, u, q⟩ := A
  · show upd (upd u 11 _) 15 _ k = u k
    rw [upd_n (by omega), upd_n (by omega)]
  · unfold monthA
    dsimp only
    split
    · show upd (upd (upd (upd u 11 _) 15 _) 8 _) 14 _ k = u k
      rw [upd_n (by omega), upd_n (by omega), upd_n (by omega), upd_n (by omega)]
    · show upd (upd (upd u 11 _) 15 _) 8 _ k = u k
      rw [upd_n (by omega), upd_n (by omega), upd_n (by omega)]
theorem mA_wf {A : AS} (w : wfA A) : wfA (mA A) := by
  unfold mA
  split
  · exact monthA_wf w
  · exact w
theorem mA_1 {A : AS} : (mA A).1 = A.1 := by
  unfold mA
  split
  · exact monthA_1
  · rfl
theorem mA_u {A : AS} {k : Nat} (hk : k < 6) : (mA A).2.2.2.1 k = A.2.2.2.1 k := by
  unfold mA
  split
  · exact monthA_u hk
  · rfl
theorem eA_wf {A : AS} (w : wfA A) : wfA (eA A) := by
  obtain ⟨n, _ | i, t, u, q⟩ := A <;> exact w
theorem eA_1 {A : AS} : (eA A).1 = A.1 := by
  obtain ⟨n, _ | i, t, u, q⟩ := A <;> rfl
theorem eA_u {A : AS} {k : Nat} (hk : k < 6) : (eA A).2.2.2.1 k = A.2.2.2.1 k := by
  obtain ⟨n, _ | i, t, u, q⟩ := A
  · show upd u 8 _ k = u k
    rw [upd_n (by omega)]
  · show upd u 8 _ k = u k
    rw [upd_n (by omega)]
theorem nA_u {A : AS} {k : Nat} (hk : k < 6) : (nA A).2.2.2.1 k = A.2.2.2.1 k := by
  obtain ⟨n, g, t, u, q⟩ := A
  show upd u 6 _ k = u k
  rw [upd_n (by omega)]
theorem dayA_wf {A : AS} (w : wfA A) : wfA (dayA A) := eA_wf (mA_wf (hA_wf (nA_wf w)))
theorem dayA_1 {A : AS} : (dayA A).1 = A.1 := by
  unfold dayA
  rw [eA_1, mA_1, hA_1]
  rfl
theorem dayA_u {A : AS} {k : Nat} (hk : k < 6) : (dayA A).2.2.2.1 k = A.2.2.2.1 k := by
  unfold dayA
  rw [eA_u hk, mA_u hk, hA_u hk, nA_u hk]
theorem itA_wf {A : AS} (w : wfA A) : ∀ k, wfA (itA k A)
  | 0 => w
  | k + 1 => dayA_wf (itA_wf w k)
theorem itA_1 {A : AS} : ∀ k, (itA k A).1 = A.1
  | 0 => rfl
  | k + 1 => by rw [itA, dayA_1, itA_1 k]
theorem itA_u {A : AS} {i : Nat} (hi : i < 6) : ∀ k, (itA k A).2.2.2.1 i = A.2.2.2.1 i
  | 0 => rfl
  | k + 1 => by rw [itA, dayA_u hi, itA_u hi k]
theorem nI_n6 {i : Nat} (h : i < 2 ^ 31) : ¬ nI i = (-6) := by
  intro q
  have a := nI_toInt h
  rw [q] at a
  have : (-6 : Int32).toInt = -6 := by decide
  omega
theorem nI_n1 {i : Nat} (h : i < 2 ^ 31) : ¬ nI i = (-1) := by
  intro q
  have a := nI_toInt h
  rw [q] at a
  have : (-1 : Int32).toInt = -1 := by decide
  omega
section EM
variable {G : GG} {l : Launch} {X : CT} {Q : State → Prop} {d mc ms cs sl : Nat} {cc : ByteArray} {own : String} {nL : Nat} {ret : Option FieldType} {h h0 : HP} {z pc : Nat} {lv : List (Nat × Value)} {st : List Value}
theorem exm_max {idx : Nat} {x y v : Int32} (w1 : Cond.methodLink own idx Lib.Math.max.name ∈ TW) (hv : mxI x y = v) (hd : 1 ≤ d) (hst : (st.map fun v => v.category).sum ≤ 8) (hc : cs ≤ mc) (hs : sl ≤ ms) (dg : decode cc pc = .ok (.invokestatic idx, 3)) (k1 : ex G l X Q d mc ms cs sl cc own nL ret h z (pc + 3) lv (.int v :: st)) : ex G l X Q d mc ms cs sl cc own nL ret h z pc lv (.int y :: .int x :: st) := by
  intro H locs ls F R S L
  subst hv
  have hts := F.2.2.2.2.1
  exact va_mmax F.1 F.2.1 (by rw [L.1]; exact F.2.2.1) F.2.2.2.1 (hts _ w1) (hts _ (tw_t 287 (by decide +kernel) (by decide +kernel))) (hts _ (tw_t 7 (by decide +kernel) (by decide +kernel))) (hts _ (tw_t 288 (by decide +kernel) (by decide +kernel))) hd (by show _ + 13 ≤ 36 * d; omega) hc hs dg (k1 H locs ls F R S L)
theorem exm_min {idx : Nat} {x y v : Int32} (w1 : Cond.methodLink own idx Lib.Math.min.name ∈ TW) (hv : mnI x y = v) (hd : 1 ≤ d) (hst : (st.map fun v => v.category).sum ≤ 8) (hc : cs ≤ mc) (hs : sl ≤ ms) (dg : decode cc pc = .ok (.invokestatic idx, 3)) (k1 : ex G l X Q d mc ms cs sl cc own nL ret h z (pc + 3) lv (.int v :: st)) : ex G l X Q d mc ms cs sl cc own nL ret h z pc lv (.int y :: .int x :: st) := by
  intro H locs ls F R S L
  subst hv
  have hts := F.2.2.2.2.1
  exact va_mmin F.1 F.2.1 (by rw [L.1]; exact F.2.2.1) F.2.2.2.1 (hts _ w1) (hts _ (tw_t 298 (by decide +kernel) (by decide +kernel))) (hts _ (tw_t 7 (by decide +kernel) (by decide +kernel))) (hts _ (tw_t 299 (by decide +kernel) (by decide +kernel))) hd (by show _ + 13 ≤ 36 * d; omega) hc hs dg (k1 H locs ls F R S L)
theorem exm_abs {idx : Nat} {x v : Int32} (w1 : Cond.methodLink own idx Lib.Math.abs.name ∈ TW) (hv : abI x = v) (hd : 1 ≤ d) (hst : (st.map fun v => v.category).sum ≤ 8) (hc : cs ≤ mc) (hs : sl ≤ ms) (dg : decode cc pc = .ok (.invokestatic idx, 3)) (k1 : ex G l X Q d mc ms cs sl cc own nL ret h z (pc + 3) lv (.int v :: st)) : ex G l X Q d mc ms cs sl cc own nL ret h z pc lv (.int x :: st) := by
  intro H locs ls F R S L
  subst hv
  have hts := F.2.2.2.2.1
  exact va_mabs F.1 F.2.1 (by rw [L.1]; exact F.2.2.1) F.2.2.2.1 (hts _ w1) (hts _ (tw_t 365 (by decide +kernel) (by decide +kernel))) (hts _ (tw_t 7 (by decide +kernel) (by decide +kernel))) (hts _ (tw_t 366 (by decide +kernel) (by decide +kernel))) hd (by show _ + 13 ≤ 36 * d; omega) hc hs dg (k1 H locs ls F R S L)
theorem mlx_max : Cond.methodLink RX3 134 Lib.Math.max.name ∈ TW := tw_t 286 (by decide +kernel) (by decide +kernel)
theorem mlx_min : Cond.methodLink RX3 149 Lib.Math.min.name ∈ TW := tw_t 297 (by decide +kernel) (by decide +kernel)
theorem mlx_abs : Cond.methodLink RX4 83 Lib.Math.abs.name ∈ TW := tw_t 364 (by decide +kernel) (by decide +kernel)
end EM
