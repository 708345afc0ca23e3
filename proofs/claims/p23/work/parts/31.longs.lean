/-! the characters in a long -/
theorem PD.congr {G : GG} {h0 h : HP} {b len : Nat} {c c2 : Nat → Nat} (S : PD G h0 h b len c) (e : ∀ i, i < len → c2 i = c i) : PD G h0 h b len c2 := by
  obtain ⟨s1, ⟨f, s2, s3⟩, s4, s5⟩ := S
  exact ⟨s1, ⟨f, s2, fun i hi => by rw [s3 i hi, e i hi]⟩, s4, s5⟩
section EX5
variable {G : GG} {l : Launch} {X : CT} {Q : State → Prop} {d mc ms cs sl : Nat} {cc : ByteArray} {own : String} {nL : Nat} {ret : Option FieldType} {h h0 : HP} {z pc : Nat} {lv : List (Nat × Value)} {st : List Value} {b : Nat}
/-- history.record(now), and what it leaves alone -/
theorem exX_rec2 {idx : Nat} {x : CX} {st0 : List Value} (V : VV own idx yX0_record cX0_record 2 none 1) (S : XF G h0 h z b x) (n8 : x.1.1 ≤ 8) (hd : 3 ≤ d) (hst : (st.map fun v => v.category).sum ≤ 8) (hc : cs ≤ mc) (hs : sl ≤ ms) (stk : st0 = .ref (b + 1) :: .ref (b + 23) :: st) (dg : decode cc pc = .ok (.invokevirtual idx, 3)) (k1 : ∀ h1 : HP, XF G h0 h1 z b (recX x x.1) → (∀ a, b + 91 ≤ a → h1 a = h a) → ex G l X Q d mc ms cs sl cc own nL ret h1 z (pc + 3) lv st) : ex G l X Q d mc ms cs sl cc own nL ret h z pc lv st0 := by
  obtain ⟨π2, hN⟩ := S.1.2.1
  obtain ⟨σ, P, ⟨r, hA, hr, hσ, hi, k6⟩, hL⟩ := S.1.2.2.2.1
  refine ex_callV V (As := [.ref (b + 1)]) (ci := 0) rfl (c_record hA hr hσ hi k6 hN (by omega) n8) hA.1 rfl hd hst hc hs stk dg (fun r1 h1 z1 hp => ?_)
  obtain ⟨rfl, rfl, σ1, P1, H1, H2⟩ := hp
  have fr : ∀ a, b + 91 ≤ a → h1 a = h a := by
    obtain ⟨r9, g1, -⟩ := H1
    exact fun a ha => g1.2.2.2 a (by omega)
  refine k1 h1 (S.hist H1 (fun j hj => ?_)) fr
  rw [H2 j hj]
  unfold recR
  have k6' : x.2.1 ≤ 6 := k6
  split
  · rename_i c
    rw [if_pos c] at hj
    split
    · rfl
    · exact hL j (by omega)
  · rename_i c
    rw [if_neg c] at hj
    split
    · rfl
    · exact hL (j + 1) (by omega)
end EX5
/-- a new State comes into an empty slot -/
theorem XF.newS {G : GG} {h0 h h1 : HP} {z b i : Nat} {x : CX} {e : va_E} {r : Nat → Option Nat} (S : XF G h0 h z b x) (hr : h (b + 91) = some (aQ G 4 2 r)) (hi : i < 2) (hV : x.2.2.2.1 i = none) (N : SF G (hu h z e) h1 z (fun j => j) A0) : XF G h0 (hu h1 (b + 91) (aQ G 4 2 (va_up r i (some z)))) (z + 11) b (x.1, x.2.1, x.2.2.1, (fun j => if j = i then some A0 else x.2.2.2.1 j), x.2.2.2.2) := by
  obtain ⟨⟨s1, ⟨π2, s2⟩, ⟨π3, T, s3⟩, ⟨σ, P, s4, s4'⟩, ⟨r', s5, s5', s5''⟩, s6, s7⟩, s8⟩ := S
  obtain rfl : r = r' := by rw [hr] at s5; simpa using s5
  have q : ∀ a, a < z → a ≠ b + 91 → (hu h1 (b + 91) (aQ G 4 2 (va_up r i (some z)))) a = h a := fun a g1 g2 => by rw [hu_n g2, N.2 a (by omega), hu_n (by omega)]
  refine ⟨⟨by rw [q _ (by omega) (by omega)]; exact s1, ⟨π2, s2.kept (fun a g1 g2 => q a (by omega) (by omega))⟩, ⟨π3, T, s3.kept (fun a g1 g2 => q a (by omega) (by omega))⟩, ⟨σ, P, s4.kept (fun a g1 g2 => q a (by omega) (by omega)), s4'⟩, ⟨_, hu_s, fun j hj => ?_, fun a0 a1 f0 f1 => ?_⟩, s6.kept (fun a g1 g2 => q a (by omega) (by omega)), by omega⟩, fun a g1 g2 => by rw [q a (by omega) (by omega)]; exact s8 a g1 g2⟩
  · show slA G _ (z + 11) b (if j = i then some A0 else x.2.2.2.1 j) (if j = i then some z else r j)
    by_cases ej : j = i
    · rw [if_pos ej, if_pos ej]
      exact ⟨z, fun j => j, rfl, by omega, by omega, N.1.kept (fun a g1 g2 => by rw [hu_n (by omega)])⟩
    · rw [if_neg ej, if_neg ej]
      have hj2 := s5' j hj
      cases hv : x.2.2.2.1 j with
      | none => rw [hv] at hj2; exact hj2
      | some B2 =>
        rw [hv] at hj2
        obtain ⟨a2, π4, f1, f2, f3, f4⟩ := hj2
        exact ⟨a2, π4, f1, f2, by omega, f4.kept (fun y g1 g2 => q y (by omega) (by omega))⟩
  · have key : ∀ j a, j < 2 → j ≠ i → r j = some a → a + 11 ≤ z := fun j a hj hne ha => by
      have hj2 := s5' j hj
      cases hv : x.2.2.2.1 j with
      | none =>
        rw [hv] at hj2
        have hj3 : r j = none := hj2
        rw [ha] at hj3
        cases hj3
      | some B2 =>
        rw [hv] at hj2
        obtain ⟨a2, π4, f1, f2, f3, f4⟩ := hj2
        rw [ha] at f1
        cases f1
        exact f3
    have f0' : (if 0 = i then some z else r 0) = some a0 := f0
    have f1' : (if 1 = i then some z else r 1) = some a1 := f1
    rcases (show i = 0 ∨ i = 1 by omega) with rfl | rfl
    · rw [if_pos rfl] at f0'
      rw [if_neg (by decide)] at f1'
      cases f0'
      exact Or.inr (key 1 a1 (by decide) (by decide) f1')
    · rw [if_neg (by decide)] at f0'
      rw [if_pos rfl] at f1'
      cases f1'
      exact Or.inl (key 0 a0 (by decide) (by decide) f0')
