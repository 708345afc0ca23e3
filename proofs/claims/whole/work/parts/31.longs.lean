/-! the characters in a long -/
def l64 (c : Int64) : Nat := c.toUInt64.toNat
def rsN (c : Int64) (i : Nat) : Nat := l64 c >>> (8 * i)
def cdN (c : Int64) (i : Nat) : Nat := rsN c i % 256
def rI (c : Int64) (i : Nat) : Int64 := (UInt64.ofNat (rsN c i)).toInt64
def cI (m : Nat) : Int64 := (UInt64.ofNat m).toInt64
theorem cdN_lt {c : Int64} {i : Nat} : cdN c i < 256 := Nat.mod_lt _ (by decide)
theorem rsN_lt {c : Int64} {i : Nat} : rsN c i < 2 ^ 64 := by
  have h : l64 c < 2 ^ 64 := c.toUInt64.toNat_lt
  have h2 : rsN c i ≤ l64 c := by
    unfold rsN
    rw [Nat.shiftRight_eq_div_pow]
    exact Nat.div_le_self _ _
  omega
theorem rI_0 {c : Int64} : rI c 0 = c := by
  unfold rI rsN l64
  rw [Nat.mul_zero, Nat.shiftRight_zero, UInt64.ofNat_toNat]
  rfl
theorem shA {a : Nat} (h : a < 8) : ((nI (8 * a)).toInt64.toUInt64 &&& Int64.toUInt64 63) = UInt64.ofNat (8 * a) := by
  rcases (show a = 0 ∨ a = 1 ∨ a = 2 ∨ a = 3 ∨ a = 4 ∨ a = 5 ∨ a = 6 ∨ a = 7 by omega) with rfl | rfl | rfl | rfl | rfl | rfl | rfl | rfl <;> decide
theorem rI_sh {c : Int64} {a : Nat} (h : a < 8) : (c.toUInt64 >>> ((nI (8 * a)).toInt64.toUInt64 &&& Int64.toUInt64 63)).toInt64 = rI c a := by
  rw [shA h]
  unfold rI
  congr 1
  apply UInt64.toNat_inj.mp
  rw [UInt64.toNat_shiftRight, UInt64.toNat_ofNat_of_lt' (show 8 * a < UInt64.size by have : UInt64.size = 2 ^ 64 := rfl; omega), UInt64.toNat_ofNat_of_lt' (show rsN c a < UInt64.size from rsN_lt), Nat.mod_eq_of_lt (by omega)]
  rfl
theorem rI_next {c : Int64} {i : Nat} : ((rI c i).toUInt64 >>> ((nI 8).toInt64.toUInt64 &&& Int64.toUInt64 63)).toInt64 = rI c (i + 1) := by
  have e := rI_sh (c := rI c i) (a := 1) (by decide)
  refine e.trans ?_
  unfold rI rsN l64
  congr 2
  show (UInt64.ofNat (rsN c i)).toNat >>> (8 * 1) = _
  rw [UInt64.toNat_ofNat_of_lt' (show rsN c i < UInt64.size from rsN_lt)]
  unfold rsN l64
  rw [← Nat.shiftRight_add]
  rfl
theorem rI_and {c : Int64} {i : Nat} : (rI c i &&& 255) = cI (cdN c i) := by
  have e : (rI c i &&& 255).toUInt64 = (cI (cdN c i)).toUInt64 := by
    apply UInt64.toNat_inj.mp
    show ((UInt64.ofNat (rsN c i)) &&& (255 : Int64).toUInt64).toNat = (UInt64.ofNat (cdN c i)).toNat
    rw [UInt64.toNat_and, UInt64.toNat_ofNat_of_lt' (show rsN c i < UInt64.size from rsN_lt), UInt64.toNat_ofNat_of_lt' (show cdN c i < UInt64.size from Nat.lt_trans cdN_lt (by decide))]
    exact Nat.and_two_pow_sub_one_eq_mod _ 8
  exact congrArg UInt64.toInt64 e
theorem cI_z : ∀ m, m < 256 → (lg_cmp (cI m) 0 = 0 ↔ m = 0) := by decide +kernel
theorem cI_33 : ∀ m, m < 256 → (lg_cmp (cI m) 33 < 0 ↔ m < 33) := by decide +kernel
theorem cI_126 : ∀ m, m < 256 → (lg_cmp (cI m) 126 ≤ 0 ↔ m ≤ 126) := by decide +kernel
theorem cI_int : ∀ m, m < 256 → (cI m).toInt32 = nI m := by decide +kernel
theorem cI_chr : ∀ m, m < 256 → ((nI m).toUInt32 % 65536).toInt32 = nI m := by decide +kernel
theorem rI_z {c : Int64} {i : Nat} : lg_cmp (rI c i) 0 = 0 ↔ rsN c i = 0 := by
  have e : rI c i = 0 ↔ rsN c i = 0 := by
    constructor
    · intro h
      have h2 : (rI c i).toUInt64.toNat = (0 : Int64).toUInt64.toNat := congrArg (fun x => x.toUInt64.toNat) h
      rw [show (rI c i).toUInt64 = UInt64.ofNat (rsN c i) from rfl, UInt64.toNat_ofNat_of_lt' (show rsN c i < UInt64.size from rsN_lt)] at h2
      exact h2
    · intro h
      unfold rI
      rw [h]
      rfl
  rw [← e]
  unfold lg_cmp
  constructor
  · intro h
    split at h
    · exact absurd h (by decide)
    · split at h
      · assumption
      · exact absurd h (by decide)
  · intro h
    rw [h, if_neg (by decide), if_pos rfl]
/-- how many characters the long has, 0 if they aren't right -/
def pcG (c : Int64) (k i : Nat) : Nat := match k with
  | 0 => if rsN c i = 0 then i else 0
  | k + 1 => if cdN c i = 0 then (if rsN c i = 0 then i else 0) else if cdN c i < 33 ∨ 126 < cdN c i then 0 else pcG c k (i + 1)
theorem pcG_le {c : Int64} : ∀ (k i : Nat), pcG c k i ≤ i + k
  | 0, i => by
    rw [pcG]
    split <;> omega
  | k + 1, i => by
    have := pcG_le (c := c) k (i + 1)
    rw [pcG]
    split
    · split <;> omega
    · split <;> omega
def pcs (c : Int64) : Nat := pcG c 8 0
/-- the pad behind it -/
def putC (len : Nat) (p : Nat → Nat) (c : Int64) (m : Nat) : Nat → Nat := fun i => if i < len then p i else cdN c (m - 1 - (i - len))
def X_put (x : CX) (c : Int64) : Int32 × CX := if pcs c = 0 then (-2, x) else if x.2.2.2.2.1 + pcs c ≤ 60 then (nI (x.2.2.2.2.1 + pcs c), (x.1, x.2.1, x.2.2.1, x.2.2.2.1, x.2.2.2.2.1 + pcs c, putC x.2.2.2.2.1 x.2.2.2.2.2 c (pcs c))) else (-4, x)
theorem PD.congr {G : GG} {h0 h : HP} {b len : Nat} {c c2 : Nat → Nat} (S : PD G h0 h b len c) (e : ∀ i, i < len → c2 i = c i) : PD G h0 h b len c2 := by
  obtain ⟨s1, ⟨f, s2, s3⟩, s4, s5⟩ := S
  exact ⟨s1, ⟨f, s2, fun i hi => by rw [s3 i hi, e i hi]⟩, s4, s5⟩
theorem nI_p1 {m : Nat} (h : m < 1000) : nI (m + 1) - nI 1 = nI m := by
  have := nI_1 m
  rw [show nI (m + 1) = nI m + 1 from by rw [← this]]
  exact Int32.add_sub_cancel _ _
section EX5
variable {G : GG} {l : Launch} {X : CT} {Q : State → Prop} {d mc ms cs sl : Nat} {cc : ByteArray} {own : String} {nL : Nat} {ret : Option FieldType} {h h0 : HP} {z pc : Nat} {lv : List (Nat × Value)} {st : List Value} {b : Nat}
/-- history.record(now), and what it leaves alone -/
theorem exX_rec2 {idx : Nat} {x : CX} {st0 : List Value} (V : VV own idx yX0_record cX0_record 2 none 1) (S : XF G h0 h z b x) (n8 : x.1.1 ≤ 8) (hd : 3 ≤ d) (hst : (st.map fun v => v.category).sum ≤ 8) (hc : cs ≤ mc) (hs : sl ≤ ms) (stk : st0 = .ref (b + 1) :: .ref (b + 23) :: st) (dg : decode cc pc = .ok (.invokevirtual idx, 3)) (k1 : ∀ h1 : HP, XF G h0 h1 z b (recX x x.1) → (∀ a, b + 91 ≤ a → h1 a = h a) → ex G l X Q d mc ms cs sl cc own nL ret h1 z (pc + 3) lv st) : ex G l X Q d mc ms cs sl cc own nL ret h z pc lv st0 := by
  obtain ⟨π2, hN⟩ := S.1.2.1
  obtain ⟨σ, P, ⟨r, hA, hr, hσ, hi, k6⟩, hL⟩ := S.1.2.2.2.1
  refine ex_callV V (As := [.ref (b + 1)]) (ci := 0) rfl (c_record hA hr hσ hi k6 hN (by omega) n8) hA.1 rfl hd hst hc hs stk dg (fun r1 h1 z1 hp => ?_)
  obtain ⟨rfl, rfl, σ1, P1, H1, H2⟩ := hp
  have fr : ∀ a, b + 91 ≤ a → h1 a = h a := by
    obtain ⟨r9, g1, -⟩ := H1
    exact fun a ha => g1.2.2.2 a (by omega)
  refine k1 h1 (S.hist H1 (fun j hj => ?_)) fr
  rw [H2 j hj]
  unfold recR
  have k6' : x.2.1 ≤ 6 := k6
  split
  · rename_i c
    rw [if_pos c] at hj
    split
    · rfl
    · exact hL j (by omega)
  · rename_i c
    rw [if_neg c] at hj
    split
    · rfl
    · exact hL (j + 1) (by omega)
end EX5
/-- a new State comes into an empty slot -/
theorem XF.newS {G : GG} {h0 h h1 : HP} {z b i : Nat} {x : CX} {e : va_E} {r : Nat → Option Nat} (S : XF G h0 h z b x) (hr : h (b + 91) = some (aQ G 4 2 r)) (hi : i < 2) (hV : x.2.2.2.1 i = none) (N : SF G (hu h z e) h1 z (fun j => j) A0) : XF G h0 (hu h1 (b + 91) (aQ G 4 2 (va_up r i (some z)))) (z + 11) b (x.1, x.2.1, x.2.2.1, (fun j => if j = i then some A0 else x.2.2.2.1 j), x.2.2.2.2) := by
  obtain ⟨⟨s1, ⟨π2, s2⟩, ⟨π3, T, s3⟩, ⟨σ, P, s4, s4'⟩, ⟨r', s5, s5', s5''⟩, s6, s7⟩, s8⟩ := S
  obtain rfl : r = r' := by rw [hr] at s5; simpa using s5
  have q : ∀ a, a < z → a ≠ b + 91 → (hu h1 (b + 91) (aQ G 4 2 (va_up r i (some z)))) a = h a := fun a g1 g2 => by rw [hu_n g2, N.2 a (by omega), hu_n (by omega)]
  refine ⟨⟨by rw [q _ (by omega) (by omega)]; exact s1, ⟨π2, s2.kept (fun a g1 g2 => q a (by omega) (by omega))⟩, ⟨π3, T, s3.kept (fun a g1 g2 => q a (by omega) (by omega))⟩, ⟨σ, P, s4.kept (fun a g1 g2 => q a (by omega) (by omega)), s4'⟩, ⟨_, hu_s, fun j hj => ?_, fun a0 a1 f0 f1 => ?_⟩, s6.kept (fun a g1 g2 => q a (by omega) (by omega)), by omega⟩, fun a g1 g2 => by rw [q a (by omega) (by omega)]; exact s8 a g1 g2⟩
  · show slA G _ (z + 11) b (if j = i then some A0 else x.2.2.2.1 j) (if j = i then some z else r j)
    by_cases ej : j = i
    · rw [if_pos ej, if_pos ej]
      exact ⟨z, fun j => j, rfl, by omega, by omega, N.1.kept (fun a g1 g2 => by rw [hu_n (by omega)])⟩
    · rw [if_neg ej, if_neg ej]
      have hj2 := s5' j hj
      cases hv : x.2.2.2.1 j with
      | none => rw [hv] at hj2; exact hj2
      | some B2 =>
        rw [hv] at hj2
        obtain ⟨a2, π4, f1, f2, f3, f4⟩ := hj2
        exact ⟨a2, π4, f1, f2, by omega, f4.kept (fun y g1 g2 => q y (by omega) (by omega))⟩
  · have key : ∀ j a, j < 2 → j ≠ i → r j = some a → a + 11 ≤ z := fun j a hj hne ha => by
      have hj2 := s5' j hj
      cases hv : x.2.2.2.1 j with
      | none =>
        rw [hv] at hj2
        have hj3 : r j = none := hj2
        rw [ha] at hj3
        cases hj3
      | some B2 =>
        rw [hv] at hj2
        obtain ⟨a2, π4, f1, f2, f3, f4⟩ := hj2
        rw [ha] at f1
        cases f1
        exact f3
    have f0' : (if 0 = i then some z else r 0) = some a0 := f0
    have f1' : (if 1 = i then some z else r 1) = some a1 := f1
    rcases (show i = 0 ∨ i = 1 by omega) with rfl | rfl
    · rw [if_pos rfl] at f0'
      rw [if_neg (by decide)] at f1'
      cases f0'
      exact Or.inr (key 1 a1 (by decide) (by decide) f1')
    · rw [if_neg (by decide)] at f0'
      rw [if_pos rfl] at f1'
      cases f1'
      exact Or.inl (key 0 a0 (by decide) (by decide) f0')
