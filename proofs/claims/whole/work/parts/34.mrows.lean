/-! the model: one row of numbers, another beside -/
def mu (A : AS) (i : Nat) : Int32 := match i with
  | 7 => nI A.1
  | 9 => mg A.2.1
  | 10 => nI A.2.2.1
  | i => A.2.2.2.1 i
theorem mu_u {A : AS} {i : Nat} (h7 : i ≠ 7) (h9 : i ≠ 9) (h10 : i ≠ 10) : mu A i = A.2.2.2.1 i := by
  unfold mu
  split
  · exact absurd rfl h7
  · exact absurd rfl h9
  · exact absurd rfl h10
  · rfl
def AR (f : Nat → Int32) (p : Nat) (A : AS) : Prop := (∀ i, i < 17 → f (p + i) = mu A i) ∧ ∀ j k, j < A.1 → k < 6 → f (p + 17 + 6 * j + k) = A.2.2.2.2 j k
theorem AR.kept {f f1 : Nat → Int32} {p p1 : Nat} {A : AS} (S : AR f p A) (n8 : A.1 ≤ 8) (e : ∀ i, i < 65 → f1 (p1 + i) = f (p + i)) : AR f1 p1 A := by
  refine ⟨fun i hi => by rw [e i (by omega)]; exact S.1 i hi, fun j k hj hk => ?_⟩
  have := e (17 + 6 * j + k) (by omega)
  rw [show p1 + 17 + 6 * j + k = p1 + (17 + 6 * j + k) by omega, this, show p + (17 + 6 * j + k) = p + 17 + 6 * j + k by omega]
  exact S.2 j k hj hk
theorem AR.putX {f : Nat → Int32} {p i : Nat} {A B : AS} {v : Int32} (S : AR f p A) (hi : i < 17) (hv : mu B i = v) (e : ∀ k, k < 17 → k ≠ i → mu B k = mu A k) (e1 : B.1 = A.1) (eq : B.2.2.2.2 = A.2.2.2.2) : AR (upd f (p + i) v) p B := by
  refine ⟨fun k hk => ?_, fun j k hj hk => ?_⟩
  · by_cases c : k = i
    · subst c
      rw [upd_s, hv]
    · rw [upd_n (by omega), S.1 k hk, e k hk c]
  · rw [upd_n (by omega), S.2 j k (by rw [← e1]; exact hj) hk, eq]
theorem AR.putU {f : Nat → Int32} {p i : Nat} {n : Nat} {g : Option Nat} {t : Nat} {u : Nat → Int32} {q : Nat → Nat → Int32} {v : Int32} (S : AR f p (n, g, t, u, q)) (hi : i < 17) (h7 : i ≠ 7) (h9 : i ≠ 9) (h10 : i ≠ 10) : AR (upd f (p + i) v) p (n, g, t, upd u i v, q) := by
  refine S.putX hi (by rw [mu_u h7 h9 h10]; exact upd_s) (fun k hk c => ?_) rfl rfl
  by_cases a7 : k = 7
  · subst a7; rfl
  · by_cases a9 : k = 9
    · subst a9; rfl
    · by_cases a10 : k = 10
      · subst a10; rfl
      · rw [mu_u a7 a9 a10, mu_u a7 a9 a10]
        exact upd_n c
theorem AR.put3 {f : Nat → Int32} {p : Nat} {n g t u q} {n1 g1 t1} {i : Nat} {v : Int32} (S : AR f p (n, g, t, u, q)) (hi : i < 17) (hv : mu ((n1, g1, t1, u, q) : AS) i = v) (e : ∀ k, k < 17 → k ≠ i → mu ((n1, g1, t1, u, q) : AS) k = mu ((n, g, t, u, q) : AS) k) (e1 : n1 = n) : AR (upd f (p + i) v) p (n1, g1, t1, u, q) := S.putX hi hv e e1 rfl
theorem mu_g {n : Nat} {g g1 : Option Nat} {t : Nat} {u : Nat → Int32} {q : Nat → Nat → Int32} : ∀ k, k < 17 → k ≠ 9 → mu (n, g1, t, u, q) k = mu (n, g, t, u, q) k := fun k _ c => by
  unfold mu
  split <;> first | rfl | exact absurd rfl c
theorem mu_t {n : Nat} {g : Option Nat} {t t1 : Nat} {u : Nat → Int32} {q : Nat → Nat → Int32} : ∀ k, k < 17 → k ≠ 10 → mu (n, g, t1, u, q) k = mu (n, g, t, u, q) k := fun k _ c => by
  unfold mu
  split <;> first | rfl | exact absurd rfl c
theorem mu_q {n : Nat} {g : Option Nat} {t : Nat} {u : Nat → Int32} {q q1 : Nat → Nat → Int32} (k : Nat) : mu (n, g, t, u, q1) k = mu (n, g, t, u, q) k := by
  unfold mu
  split <;> rfl
theorem AR.putQ {f : Nat → Int32} {p j k : Nat} {n : Nat} {g : Option Nat} {t : Nat} {u : Nat → Int32} {q : Nat → Nat → Int32} {v : Int32} (S : AR f p (n, g, t, u, q)) (hk : k < 6) : AR (upd f (p + 17 + 6 * j + k) v) p (n, g, t, u, uq q j k v) := by
  refine ⟨fun i hi => by rw [upd_n (by omega), S.1 i hi]; exact mu_q i, fun a b ha hb => ?_⟩
  show _ = uq q j k v a b
  unfold uq
  by_cases c : b = k
  · subst c
    rw [if_pos rfl]
    by_cases c2 : a = j
    · subst c2
      rw [if_pos rfl, upd_s]
    · rw [if_neg c2, upd_n (by omega)]
      exact S.2 a b ha hb
  · rw [if_neg c, upd_n (by omega)]
    exact S.2 a b ha hb
/-- .. what lies behind the people that there are isn't told -/
theorem AR.to {f : Nat → Int32} {p : Nat} {A B : AS} (S : AR f p A) (e : ∀ k, k < 17 → mu B k = mu A k) (e1 : B.1 ≤ A.1) (eq : ∀ j k, j < B.1 → k < 6 → B.2.2.2.2 j k = A.2.2.2.2 j k) : AR f p B :=
  ⟨fun i hi => by rw [S.1 i hi, e i hi], fun j k hj hk => by rw [S.2 j k (by omega) hk, eq j k hj hk]⟩
def mF (m k len : Nat) : List Value := [.ref (m + 1), .ref (m + 2), .int (nI k), .ref (m + 3), .ref (m + 4), .ref (m + 5), .int (nI len)]
def RP (G : GG) (h : HP) (m k len p : Nat) (A : AS) : Prop := h m = some (.inr (5, mF m k len)) ∧ ∃ f : Nat → Int32, h (m + 1) = some (aA G 0 130 f) ∧ AR f p A
def RF (G : GG) (h0 h : HP) (m k len p : Nat) (A : AS) : Prop := h m = some (.inr (5, mF m k len)) ∧ (∃ f0 f : Nat → Int32, h0 (m + 1) = some (aA G 0 130 f0) ∧ h (m + 1) = some (aA G 0 130 f) ∧ AR f p A ∧ ∀ i, (i < p ∨ p + 65 ≤ i) → f i = f0 i) ∧ ∀ a, a ≠ m + 1 → h a = h0 a
theorem RP.rf {G : GG} {h : HP} {m k len p : Nat} {A : AS} (S : RP G h m k len p A) : RF G h h m k len p A := by
  obtain ⟨s1, f, s2, s3⟩ := S
  exact ⟨s1, ⟨f, f, s2, s2, s3, fun _ _ => rfl⟩, fun _ _ => rfl⟩
theorem RF.rp {G : GG} {h0 h : HP} {m k len p : Nat} {A : AS} (S : RF G h0 h m k len p A) : RP G h m k len p A := by
  obtain ⟨s1, ⟨f0, f, -, s2, s3, -⟩, -⟩ := S
  exact ⟨s1, f, s2, s3⟩
theorem RF.trans {G : GG} {h0 h h1 : HP} {m k len p : Nat} {A B : AS} (S : RF G h0 h m k len p A) (S1 : RF G h h1 m k len p B) : RF G h0 h1 m k len p B := by
  obtain ⟨-, ⟨f0, f, a1, a2, -, a4⟩, a5⟩ := S
  obtain ⟨b1, ⟨f', f1, c1, c2, c3, c4⟩, b5⟩ := S1
  obtain rfl : f' = f := by rw [a2] at c1; simpa using c1.symm
  exact ⟨b1, ⟨f0, f1, a1, c2, c3, fun i hi => (c4 i hi).trans (a4 i hi)⟩, fun a ha => (b5 a ha).trans (a5 a ha)⟩
theorem RF.put {G : GG} {h0 h : HP} {m k len p i : Nat} {A B : AS} {f : Nat → Int32} {v : Int32} (S : RF G h0 h m k len p A) (hf : h (m + 1) = some (aA G 0 130 f)) (hi : p ≤ i ∧ i < p + 65) (hB : AR f p A → AR (upd f i v) p B) : RF G h0 (hu h (m + 1) (aA G 0 130 (upd f i v))) m k len p B := by
  obtain ⟨s1, ⟨f0, f', a1, a2, a3, a4⟩, a5⟩ := S
  obtain rfl : f = f' := by rw [hf] at a2; simpa using a2
  exact ⟨by rw [hu_n (by omega)]; exact s1, ⟨f0, _, a1, hu_s, hB a3, fun x hx => by rw [upd_n (by omega)]; exact a4 x hx⟩, fun a ha => by rw [hu_n ha]; exact a5 a ha⟩
section EMo
variable {G : GG} {l : Launch} {X : CT} {Q : State → Prop} {d mc ms cs sl : Nat} {cc : ByteArray} {own : String} {nL : Nat} {ret : Option FieldType} {h h0 : HP} {z pc : Nat} {lv : List (Nat × Value)} {st : List Value} {m k len p : Nat}
theorem exM_ld {i : Nat} {x v : Int32} {A : AS} (S : RF G h0 h m k len p A) (hp : p ≤ 65) (hx : x = nI (p + i)) (hi : i < 17) (hv : mu A i = v) (dg : decode cc pc = .ok (.iaload, 1)) (k1 : ex G l X Q d mc ms cs sl cc own nL ret h z (pc + 1) lv (.int v :: st)) : ex G l X Q d mc ms cs sl cc own nL ret h z pc lv (.int x :: .ref (m + 1) :: st) := by
  obtain ⟨-, ⟨f0, f, -, a2, a3, -⟩, -⟩ := S
  refine ex_iald a2 hx (by omega) (by decide) dg ?_
  rw [a3.1 i hi, hv]
  exact k1
theorem exM_ldq {j b : Nat} {x v : Int32} {A : AS} (S : RF G h0 h m k len p A) (hp : p ≤ 65) (hx : x = nI (p + 17 + 6 * j + b)) (hj : j < A.1) (h8 : j < 8) (hb : b < 6) (hv : A.2.2.2.2 j b = v) (dg : decode cc pc = .ok (.iaload, 1)) (k1 : ex G l X Q d mc ms cs sl cc own nL ret h z (pc + 1) lv (.int v :: st)) : ex G l X Q d mc ms cs sl cc own nL ret h z pc lv (.int x :: .ref (m + 1) :: st) := by
  obtain ⟨-, ⟨f0, f, -, a2, a3, -⟩, -⟩ := S
  refine ex_iald a2 hx (by omega) (by decide) dg ?_
  rw [a3.2 j b hj hb, hv]
  exact k1
theorem exM_stX {i : Nat} {x v : Int32} {A B : AS} (S : RF G h0 h m k len p A) (hp : p ≤ 65) (hx : x = nI (p + i)) (hi : i < 65) (hB : ∀ f, AR f p A → AR (upd f (p + i) v) p B) (dg : decode cc pc = .ok (.iastore, 1)) (k1 : ∀ h : HP, RF G h0 h m k len p B → ex G l X Q d mc ms cs sl cc own nL ret h z (pc + 1) lv st) : ex G l X Q d mc ms cs sl cc own nL ret h z pc lv (.int v :: .int x :: .ref (m + 1) :: st) := by
  have S1 := S
  obtain ⟨-, ⟨f0, f, -, a2, a3, -⟩, -⟩ := S
  exact ex_iast a2 hx (by omega) (by decide) dg (k1 _ (S1.put a2 (by omega) (hB f)))
theorem exM_stU {i : Nat} {x v : Int32} {n : Nat} {g : Option Nat} {t : Nat} {u : Nat → Int32} {q : Nat → Nat → Int32} (S : RF G h0 h m k len p (n, g, t, u, q)) (hp : p ≤ 65) (hx : x = nI (p + i)) (hi : i < 17) (h3 : i ≠ 7 ∧ i ≠ 9 ∧ i ≠ 10) (dg : decode cc pc = .ok (.iastore, 1)) (k1 : ∀ h : HP, RF G h0 h m k len p (n, g, t, upd u i v, q) → ex G l X Q d mc ms cs sl cc own nL ret h z (pc + 1) lv st) : ex G l X Q d mc ms cs sl cc own nL ret h z pc lv (.int v :: .int x :: .ref (m + 1) :: st) :=
  exM_stX S hp hx (by omega) (fun f hf => hf.putU hi h3.1 h3.2.1 h3.2.2) dg k1
theorem exM_stG {x v : Int32} {n : Nat} {g g1 : Option Nat} {t : Nat} {u : Nat → Int32} {q : Nat → Nat → Int32} (S : RF G h0 h m k len p (n, g, t, u, q)) (hp : p ≤ 65) (hx : x = nI (p + 9)) (hv : v = mg g1) (dg : decode cc pc = .ok (.iastore, 1)) (k1 : ∀ h : HP, RF G h0 h m k len p (n, g1, t, u, q) → ex G l X Q d mc ms cs sl cc own nL ret h z (pc + 1) lv st) : ex G l X Q d mc ms cs sl cc own nL ret h z pc lv (.int v :: .int x :: .ref (m + 1) :: st) :=
  exM_stX S hp hx (by omega) (fun f hf => hf.put3 (by decide) hv.symm mu_g rfl) dg k1
theorem exM_stT {x v : Int32} {n : Nat} {g : Option Nat} {t t1 : Nat} {u : Nat → Int32} {q : Nat → Nat → Int32} (S : RF G h0 h m k len p (n, g, t, u, q)) (hp : p ≤ 65) (hx : x = nI (p + 10)) (hv : v = nI t1) (dg : decode cc pc = .ok (.iastore, 1)) (k1 : ∀ h : HP, RF G h0 h m k len p (n, g, t1, u, q) → ex G l X Q d mc ms cs sl cc own nL ret h z (pc + 1) lv st) : ex G l X Q d mc ms cs sl cc own nL ret h z pc lv (.int v :: .int x :: .ref (m + 1) :: st) :=
  exM_stX S hp hx (by omega) (fun f hf => hf.put3 (by decide) hv.symm mu_t rfl) dg k1
theorem exM_stQ {j b : Nat} {x v : Int32} {n : Nat} {g : Option Nat} {t : Nat} {u : Nat → Int32} {q : Nat → Nat → Int32} (S : RF G h0 h m k len p (n, g, t, u, q)) (hp : p ≤ 65) (hx : x = nI (p + 17 + 6 * j + b)) (h8 : j < 8) (hb : b < 6) (dg : decode cc pc = .ok (.iastore, 1)) (k1 : ∀ h : HP, RF G h0 h m k len p (n, g, t, u, uq q j b v) → ex G l X Q d mc ms cs sl cc own nL ret h z (pc + 1) lv st) : ex G l X Q d mc ms cs sl cc own nL ret h z pc lv (.int v :: .int x :: .ref (m + 1) :: st) :=
  exM_stX (i := 17 + 6 * j + b) S hp (by rw [hx]; congr 1; omega) (by omega) (fun f hf => by rw [show p + (17 + 6 * j + b) = p + 17 + 6 * j + b by omega]; exact hf.putQ hb) dg k1
def pR (G : GG) (r0 : Option Value) (h : HP) (z m k len p : Nat) (A : AS) : Option Value → HP → Nat → Prop := fun r h1 z1 => r = r0 ∧ z1 = z ∧ RF G h h1 m k len p A
theorem exM_call {idx mm d1 ny : Nat} {y : MethodName} {cy : ByteArray} {ry : Option FieldType} {As : List Value} {r0 : Option Value} {A B : AS} {st0 : List Value} (V : VV own idx y cy ny ry mm) (hC : y.cls = RX5) (S : RF G h0 h m k len p A) (K : RP G h m k len p A → Ct G l d1 0 0 y cy ny ry (.ref m :: As) h z (pR G r0 h z m k len p B)) (hn : As.length = mm) (hd : d1 + 1 ≤ d) (hst : (st.map fun v => v.category).sum ≤ 8) (hc : cs ≤ mc) (hs : sl ≤ ms) (stk : st0 = As.reverse ++ .ref m :: st) (dg : decode cc pc = .ok (.invokevirtual idx, 3)) (k1 : ∀ h : HP, RF G h0 h m k len p B → ex G l X Q d mc ms cs sl cc own nL ret h z (pc + 3) lv (r0.toList ++ st)) : ex G l X Q d mc ms cs sl cc own nL ret h z pc lv st0 :=
  ex_callV V (ci := 5) (by rw [hC]; rfl) (K S.rp) S.1 hn hd hst hc hs stk dg (fun r h1 z1 hp => by obtain ⟨rfl, rfl, S1⟩ := hp; exact k1 h1 (S.trans S1))
end EMo
theorem mnI_comm {a b : Int32} : mnI a b = mnI b a := by
  unfold mnI
  by_cases c1 : b < a
  · rw [if_pos c1, if_neg (Int32.not_lt.mpr (Int32.le_of_lt c1))]
  · by_cases c2 : a < b
    · rw [if_neg c1, if_pos c2]
    · rw [if_neg c1, if_neg c2]
      exact Int32.le_antisymm (Int32.not_lt.mp c1) (Int32.not_lt.mp c2)
theorem nI_mod {a n : Nat} (hn : 0 < n) (ha : a < 1000) (hn2 : n < 1000) : nI a - nI a / nI n * nI n = nI (a % n) := by
  have e1 : nI a / nI n = nI (a / n) := by
    apply Int32.toInt_inj.mp
    rw [Int32.toInt_div, nI_toInt (by omega), nI_toInt (by omega), nI_toInt (by have := Nat.div_le_self a n; omega)]
    rw [← Int.ofNat_tdiv]
    have hw := Nat.div_le_self a n
    generalize a / n = w at hw
    apply Int.bmod_eq_of_le
    · omega
    · omega
  rw [e1]
  have e2 : nI a = nI (a / n * n) + nI (a % n) := by
    rw [show nI (a / n * n) + nI (a % n) = nI (a / n * n + a % n) from (Int32.ofNat_add _ _).symm, Nat.div_add_mod']
  rw [show nI (a / n) * nI n = nI (a / n * n) from (Int32.ofNat_mul _ _).symm]
  conv => lhs; lhs; rw [e2]
  rw [Int32.add_comm, Int32.add_sub_cancel]
theorem mg_neg {g : Option Nat} {n : Nat} (gw : ∀ i, g = some i → i < n) (n8 : n ≤ 8) : mg g < 0 ↔ g = none := by
  cases g with
  | none => exact ⟨fun _ => rfl, fun _ => by decide⟩
  | some i => exact ⟨fun h => absurd h (nI_pos (by have := gw i rfl; omega)), fun h => by cases h⟩
def hB (r : Option Nat) : Int32 := match r with
  | none => nI 0
  | some _ => nI 1
