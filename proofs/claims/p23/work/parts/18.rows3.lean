/-! the array of the people while they change places: everything but that array is as it was -/
def SA (G : GG) (h : HP) (o : Nat) (π : Nat → Nat) (A : AS) (r : Nat → Option Nat) : Prop :=
  h o = some (.inr (3, stF o A)) ∧ (∃ f : Nat → Int32, h (o + 1) = some (aA G 0 6 f) ∧ ∀ i, i < 6 → f i = A.2.2.2.1 i) ∧ h (o + 2) = some (aQ G 3 8 r) ∧ (∀ j, j < 8 → π j < 8) ∧ (∀ i j, i < 8 → j < 8 → π i = π j → i = j) ∧ (∀ j, j < 8 → ∃ w : Nat → Int32, h (o + 3 + π j) = some (.inr (2, pF w)) ∧ (j < A.1 → ∀ k, k < 6 → w k = A.2.2.2.2 j k))
def SAF (G : GG) (h0 h : HP) (o : Nat) (π : Nat → Nat) (A : AS) (r : Nat → Option Nat) : Prop := SA G h o π A r ∧ ∀ a, (a < o ∨ o + 11 ≤ a) → h a = h0 a
theorem SAF.ob {G : GG} {h0 h : HP} {o : Nat} {π : Nat → Nat} {A : AS} {r : Nat → Option Nat} (S : SAF G h0 h o π A r) : h o = some (.inr (3, stF o A)) := S.1.1
theorem SF.sa {G : GG} {h0 h : HP} {o : Nat} {π : Nat → Nat} {A : AS} (S : SF G h0 h o π A) : ∃ r : Nat → Option Nat, (∀ j, j < 8 → r j = some (o + 3 + π j)) ∧ SAF G h0 h o π A r := by
  obtain ⟨⟨s1, s2, ⟨r, s3, s3'⟩, s4, s5, s6⟩, s7⟩ := S
  exact ⟨r, s3', ⟨s1, s2, s3, s4, s5, s6⟩, s7⟩
theorem SAF.put {G : GG} {h0 h : HP} {o : Nat} {π : Nat → Nat} {A : AS} {r r2 : Nat → Option Nat} (S : SAF G h0 h o π A r) : SAF G h0 (hu h (o + 2) (aQ G 3 8 r2)) o π A r2 := by
  obtain ⟨⟨s1, ⟨f, s2, s2'⟩, s3, s4, s5, s6⟩, s7⟩ := S
  refine ⟨⟨by rw [hu_n (by omega)]; exact s1, ⟨f, by rw [hu_n (by omega)]; exact s2, s2'⟩, hu_s, s4, s5, fun j hj => ?_⟩, fun a ha => by rw [hu_n (by omega)]; exact s7 a ha⟩
  obtain ⟨w, w1, w2⟩ := s6 j hj
  exact ⟨w, by rw [hu_n (by omega)]; exact w1, w2⟩
theorem mvI_lt {x y p n : Nat} (hx : x < n) (hy : y < n) (hp : p < n) : mvI x y p < n := by
  unfold mvI
  split
  · exact hx
  · split
    · omega
    · split <;> omega
theorem mvI_inj {x y p p2 : Nat} (h : mvI x y p = mvI x y p2) : p = p2 := by
  unfold mvI at h
  split at h <;> split at h <;> (try split at h) <;> (try split at h) <;> (try split at h) <;> (try split at h) <;> omega
/-- the people in their new places -/
theorem SAF.done {G : GG} {h0 h : HP} {o : Nat} {π : Nat → Nat} {n : Nat} {g : Option Nat} {t : Nat} {u : Nat → Int32} {q : Nat → Nat → Int32} {r : Nat → Option Nat} {x y : Nat} (S : SAF G h0 h o π (n, g, t, u, q) r) (n8 : n ≤ 8) (hx : x < n) (hy : y < n) (hr : ∀ j, j < 8 → r j = some (o + 3 + π (mvI x y j))) : SF G h0 h o (fun j => π (mvI x y j)) (n, g, t, u, fun a b => q (mvI x y a) b) := by
  obtain ⟨⟨s1, s2, s3, s4, s5, s6⟩, s7⟩ := S
  have lt8 : ∀ j, j < 8 → mvI x y j < 8 := fun j hj => mvI_lt (by omega) (by omega) hj
  refine ⟨⟨s1, s2, ⟨r, s3, hr⟩, fun j hj => s4 _ (lt8 j hj), fun i j hi hj e => mvI_inj (s5 _ _ (lt8 i hi) (lt8 j hj) e), fun j hj => ?_⟩, s7⟩
  obtain ⟨w, w1, w2⟩ := s6 _ (lt8 j hj)
  exact ⟨w, w1, fun hn k hk => w2 (mvI_lt hx hy hn) k hk⟩
section ES3
variable {G : GG} {l : Launch} {X : CT} {Q : State → Prop} {d mc ms cs sl : Nat} {cc : ByteArray} {own : String} {nL : Nat} {ret : Option FieldType} {h h0 : HP} {z pc : Nat} {lv : List (Nat × Value)} {st : List Value} {o : Nat} {π : Nat → Nat} {n : Nat} {g : Option Nat} {t : Nat} {u : Nat → Int32} {q : Nat → Nat → Int32} {r : Nat → Option Nat}
theorem exA_ld {i j : Nat} {x : Int32} (S : SAF G h0 h o π (n, g, t, u, q) r) (hx : x = nI i) (hi : i < 8) (hr : r i = some (o + 3 + π j)) (dg : decode cc pc = .ok (.aaload, 1)) (k1 : ex G l X Q d mc ms cs sl cc own nL ret h z (pc + 1) lv (.ref (o + 3 + π j) :: st)) : ex G l X Q d mc ms cs sl cc own nL ret h z pc lv (.int x :: .ref (o + 2) :: st) := by
  refine ex_aald3 S.1.2.2.1 hx hi (by decide) dg ?_
  rw [hr]
  exact k1
theorem exA_st {i j : Nat} {x : Int32} (S : SAF G h0 h o π (n, g, t, u, q) r) (hx : x = nI i) (hi : i < 8) (hj : j < 8) (dg : decode cc pc = .ok (.aastore, 1)) (k1 : ∀ h : HP, SAF G h0 h o π (n, g, t, u, q) (va_up r i (some (o + 3 + π j))) → ex G l X Q d mc ms cs sl cc own nL ret h z (pc + 1) lv st) : ex G l X Q d mc ms cs sl cc own nL ret h z pc lv (.ref (o + 3 + π j) :: .int x :: .ref (o + 2) :: st) := by
  obtain ⟨w, w1, -⟩ := S.1.2.2.2.2.2 j hj
  exact ex_aast (t := 3) (ci := 2) (r := (RX2, TX2, 6)) rfl rfl S.1.2.2.1 w1 hx hi (by decide) dg (k1 _ S.put)
end ES3
