/-! the history: six States behind it, told by their places (P), and the array's order -/
def HA (G : GG) (h0 h : HP) (b k : Nat) (r : Nat → Option Nat) (P : Nat → AS) : Prop := h b = some (.inr (0, [.ref (b + 1), .int (nI k)])) ∧ h (b + 1) = some (aQ G 4 6 r) ∧ (∀ i, i < 6 → ∃ π : Nat → Nat, SP G h (b + 2 + 11 * i) π (P i)) ∧ ∀ a, (a < b ∨ b + 68 ≤ a) → h a = h0 a
def HS (G : GG) (h0 h : HP) (b : Nat) (σ : Nat → Nat) (k : Nat) (P : Nat → AS) : Prop := ∃ r : Nat → Option Nat, HA G h0 h b k r P ∧ (∀ j, j < 6 → r j = some (b + 2 + 11 * σ j)) ∧ (∀ j, j < 6 → σ j < 6) ∧ (∀ i j, i < 6 → j < 6 → σ i = σ j → i = j) ∧ k ≤ 6
theorem HA.putA {G : GG} {h0 h : HP} {b k : Nat} {r r2 : Nat → Option Nat} {P : Nat → AS} (S : HA G h0 h b k r P) : HA G h0 (hu h (b + 1) (aQ G 4 6 r2)) b k r2 P := by
  obtain ⟨s1, s2, s3, s4⟩ := S
  refine ⟨by rw [hu_n (by omega)]; exact s1, hu_s, fun i hi => ?_, fun a ha => by rw [hu_n (by omega)]; exact s4 a ha⟩
  obtain ⟨π, hπ⟩ := s3 i hi
  exact ⟨π, hπ.kept (fun a h1 h2 => by rw [hu_n (by omega)])⟩
theorem HA.putL {G : GG} {h0 h : HP} {b k k2 : Nat} {r : Nat → Option Nat} {P : Nat → AS} {fs : List Value} (S : HA G h0 h b k r P) (hf : fs = [.ref (b + 1), .int (nI k2)]) : HA G h0 (hu h b (.inr (0, fs))) b k2 r P := by
  obtain ⟨s1, s2, s3, s4⟩ := S
  refine ⟨by rw [hu_s, hf], by rw [hu_n (by omega)]; exact s2, fun i hi => ?_, fun a ha => by rw [hu_n (by omega)]; exact s4 a ha⟩
  obtain ⟨π, hπ⟩ := s3 i hi
  exact ⟨π, hπ.kept (fun a h1 h2 => by rw [hu_n (by omega)])⟩
/-- one of the States has another value -/
theorem HA.setP {G : GG} {h0 h h1 : HP} {b k s : Nat} {r : Nat → Option Nat} {P : Nat → AS} {π : Nat → Nat} {A : AS} (S : HA G h0 h b k r P) (hs : s < 6) (S1 : SF G h h1 (b + 2 + 11 * s) π A) : HA G h0 h1 b k r (fun i => if i = s then A else P i) := by
  obtain ⟨s1, s2, s3, s4⟩ := S
  refine ⟨by rw [S1.2 _ (by omega)]; exact s1, by rw [S1.2 _ (by omega)]; exact s2, fun i hi => ?_, fun a ha => by rw [S1.2 _ (by omega)]; exact s4 a ha⟩
  by_cases e : i = s
  · subst e
    exact ⟨π, by simp only [if_true]; exact S1.1⟩
  · obtain ⟨π2, hπ⟩ := s3 i hi
    refine ⟨π2, ?_⟩
    simp only [e, if_false]
    exact hπ.kept (fun a h1 h2 => S1.2 a (by omega))
theorem HA.kept {G : GG} {h0 h h1 : HP} {b k : Nat} {r : Nat → Option Nat} {P : Nat → AS} (S : HA G h0 h b k r P) (q : ∀ a, b ≤ a → a < b + 68 → h1 a = h a) : HA G h1 h1 b k r P := by
  obtain ⟨s1, s2, s3, s4⟩ := S
  refine ⟨by rw [q _ (by omega) (by omega)]; exact s1, by rw [q _ (by omega) (by omega)]; exact s2, fun i hi => ?_, fun a ha => rfl⟩
  obtain ⟨π, hπ⟩ := s3 i hi
  exact ⟨π, hπ.kept (fun a h1 h2 => q a (by omega) (by omega))⟩
theorem HA.trans {G : GG} {h0 h h1 : HP} {b k k1 : Nat} {r r1 : Nat → Option Nat} {P P1 : Nat → AS} (S : HA G h0 h b k r P) (S1 : HA G h h1 b k1 r1 P1) : HA G h0 h1 b k1 r1 P1 := ⟨S1.1, S1.2.1, S1.2.2.1, fun a ha => (S1.2.2.2 a ha).trans (S.2.2.2 a ha)⟩
section EHi
variable {G : GG} {l : Launch} {X : CT} {Q : State → Prop} {d mc ms cs sl : Nat} {cc : ByteArray} {own : String} {nL : Nat} {ret : Option FieldType} {h h0 : HP} {z pc : Nat} {lv : List (Nat × Value)} {st : List Value} {b k : Nat} {r : Nat → Option Nat} {P : Nat → AS}
theorem exH_ld {i v : Nat} {x : Int32} (S : HA G h0 h b k r P) (hx : x = nI i) (hi : i < 6) (hr : r i = some v) (dg : decode cc pc = .ok (.aaload, 1)) (k1 : ex G l X Q d mc ms cs sl cc own nL ret h z (pc + 1) lv (.ref v :: st)) : ex G l X Q d mc ms cs sl cc own nL ret h z pc lv (.int x :: .ref (b + 1) :: st) := by
  refine ex_aald4 S.2.1 hx hi (by decide) dg ?_
  rw [hr]
  exact k1
theorem exH_st {i s : Nat} {x : Int32} (S : HA G h0 h b k r P) (hx : x = nI i) (hi : i < 6) (hs : s < 6) (dg : decode cc pc = .ok (.aastore, 1)) (k1 : ∀ h : HP, HA G h0 h b k (va_up r i (some (b + 2 + 11 * s))) P → ex G l X Q d mc ms cs sl cc own nL ret h z (pc + 1) lv st) : ex G l X Q d mc ms cs sl cc own nL ret h z pc lv (.ref (b + 2 + 11 * s) :: .int x :: .ref (b + 1) :: st) := by
  obtain ⟨π, hπ⟩ := S.2.2.1 s hs
  exact ex_aast (t := 4) (ci := 3) (r := (RX3, TX3, 13)) rfl rfl S.2.1 hπ.ob hx hi (by decide) dg (k1 _ S.putA)
theorem exH_len {idx k2 : Nat} {v : Int32} (S : HA G h0 h b k r P) (fl : FL own idx 0 1 .int false) (hv : v = nI k2) (dg : decode cc pc = .ok (.putfield idx, 3)) (k1 : ∀ h : HP, HA G h0 h b k2 r P → ex G l X Q d mc ms cs sl cc own nL ret h z (pc + 3) lv st) : ex G l X Q d mc ms cs sl cc own nL ret h z pc lv (.int v :: .ref b :: st) := by
  subst hv
  exact ex_put fl S.1 rfl rfl (Nat.le_of_ble_eq_true rfl) dg (k1 _ (S.putL rfl))
end EHi
