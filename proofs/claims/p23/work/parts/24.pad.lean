/-! the pad: its object, its characters by their codes -/
def PD (G : GG) (h0 h : HP) (b len : Nat) (c : Nat → Nat) : Prop := h b = some (.inr (1, [.ref (b + 1), .int (nI len)])) ∧ (∃ f : Nat → Int32, h (b + 1) = some (aA G 1 60 f) ∧ ∀ i, i < len → f i = nI (c i)) ∧ len ≤ 60 ∧ ∀ a, (a < b ∨ b + 2 ≤ a) → h a = h0 a
theorem PD.kept {G : GG} {h0 h h1 : HP} {b len : Nat} {c : Nat → Nat} (S : PD G h0 h b len c) (q : ∀ a, b ≤ a → a < b + 2 → h1 a = h a) : PD G h1 h1 b len c := by
  obtain ⟨s1, ⟨f, s2, s3⟩, s4, s5⟩ := S
  exact ⟨by rw [q _ (by omega) (by omega)]; exact s1, ⟨f, by rw [q _ (by omega) (by omega)]; exact s2, s3⟩, s4, fun _ _ => rfl⟩
theorem PD.putL {G : GG} {h0 h : HP} {b len l2 : Nat} {c : Nat → Nat} {fs : List Value} (S : PD G h0 h b len c) (hf : fs = [.ref (b + 1), .int (nI l2)]) (hl : l2 ≤ len) : PD G h0 (hu h b (.inr (1, fs))) b l2 c := by
  obtain ⟨s1, ⟨f, s2, s3⟩, s4, s5⟩ := S
  exact ⟨by rw [hu_s, hf], ⟨f, by rw [hu_n (by omega)]; exact s2, fun i hi => s3 i (by omega)⟩, by omega, fun a ha => by rw [hu_n (by omega)]; exact s5 a ha⟩
/-- what a character is: behind the end a comma -/
def chA (len : Nat) (c : Nat → Nat) (i : Nat) : Nat := if i < len then c i else 44
def dI (c : Nat) : Bool := decide (48 ≤ c) && decide (c ≤ 57)
def shW (s : Int32) (c : Nat) : Int32 := nI 10 * s + nI c - nI 48
def canS (due : Nat) (s : Int32) (c : Nat) : Bool := match due with
  | 0 => decide (49 ≤ c) && decide (c ≤ 57)
  | 1 => decide (c = 102)
  | 2 => dI c
  | _ => decide (c = 44) || (dI c && (decide (0 < s) && decide (shW s c ≤ nI 100)))
def dueB (due c : Nat) : Nat := match due with
  | 0 => 1
  | 1 => 2
  | 2 => 3
  | _ => if c = 44 then 0 else 3
def bI (b : Bool) : Int32 := if b = true then nI 1 else nI 0
theorem bI_0 {b : Bool} (h : bI b = 0) : b = false := by
  cases b
  · rfl
  · exact absurd h (by decide)
theorem bI_1 {b : Bool} (h : ¬ bI b = 0) : b = true := by
  cases b
  · exact absurd (by decide) h
  · rfl
/-- the fault, from the place i on -/
def ffG (len : Nat) (c : Nat → Nat) (k i due : Nat) (s : Int32) : Option Nat := match k with
  | 0 => if due = 3 then none else some len
  | k + 1 => if canS due s (c i) = true then ffG len c k (i + 1) (dueB due (c i)) (if due ≠ 0 ∧ dI (c i) = true then shW s (c i) else nI 0) else some i
def ffA (len : Nat) (c : Nat → Nat) : Option Nat := ffG len c len 0 0 (nI 0)
def cms (c : Nat → Nat) (m : Nat) : Nat := match m with
  | 0 => 0
  | k + 1 => if c k = 44 then cms c k + 1 else cms c k
def adm8 (A : AS) (w s : Int32) : AS := if A.1 < 8 then admA A w s else A
/-- the people of the pad from the place i on, k characters and the end -/
def apG (len : Nat) (c : Nat → Nat) (k i : Nat) (w s : Int32) (A : AS) : AS := match k with
  | 0 => A
  | k + 1 => if chA len c i = 44 then apG len c k (i + 1) (nI 0) (nI 0) (adm8 A w s) else if w = 0 then apG len c k (i + 1) (nI (chA len c i) - nI 48) s A else if chA len c i = 102 then apG len c k (i + 1) w s A else apG len c k (i + 1) w (shW s (chA len c i)) A
theorem admA_1 {A : AS} {w s : Int32} : (admA A w s).1 = A.1 + 1 := by
  obtain ⟨n, g, t, u, q⟩ := A
  rfl
theorem adm8_8 {A : AS} {w s : Int32} (h : A.1 ≤ 8) : (adm8 A w s).1 ≤ 8 := by
  unfold adm8
  split
  · rw [admA_1]
    omega
  · exact h
section EPd
variable {G : GG} {l : Launch} {X : CT} {Q : State → Prop} {d mc ms cs sl : Nat} {cc : ByteArray} {own : String} {nL : Nat} {ret : Option FieldType} {h h0 : HP} {z pc : Nat} {lv : List (Nat × Value)} {st : List Value} {b len : Nat} {c : Nat → Nat}
theorem exD_ld {i : Nat} {x : Int32} (S : PD G h0 h b len c) (hx : x = nI i) (hi : i < len) (dg : decode cc pc = .ok (.caload, 1)) (k1 : ex G l X Q d mc ms cs sl cc own nL ret h z (pc + 1) lv (.int (nI (c i)) :: st)) : ex G l X Q d mc ms cs sl cc own nL ret h z pc lv (.int x :: .ref (b + 1) :: st) := by
  obtain ⟨s1, ⟨f, s2, s3⟩, s4, s5⟩ := S
  refine ex_cald s2 hx (by omega) (by decide) dg ?_
  rw [s3 i hi]
  exact k1
theorem exD_len {idx l2 : Nat} {v : Int32} (S : PD G h0 h b len c) (fl : FL own idx 1 1 .int false) (hv : v = nI l2) (hl : l2 ≤ len) (dg : decode cc pc = .ok (.putfield idx, 3)) (k1 : ∀ h : HP, PD G h0 h b l2 c → ex G l X Q d mc ms cs sl cc own nL ret h z (pc + 3) lv st) : ex G l X Q d mc ms cs sl cc own nL ret h z pc lv (.int v :: .ref b :: st) := by
  subst hv
  exact ex_put fl S.1 rfl rfl (Nat.le_of_ble_eq_true rfl) dg (k1 _ (S.putL rfl hl))
/-- a character is put behind the end: the length follows at once -/
theorem nar_c {v : Nat} (hv : v < 65536) : vp_nar .char (nI v) = nI v := by
  have h := (pk_charN hv).1
  unfold vp_nar
  rw [h]
theorem PD.app {v : Nat} {f : Nat → Int32} (S : PD G h0 h b len c) (hf : h (b + 1) = some (aA G 1 60 f)) (hv : v < 65536) (hl : len < 60) : PD G h0 (hu (hu h (b + 1) (aA G 1 60 (upd f len (vp_nar .char (nI v))))) b (.inr (1, [.ref (b + 1), .int (nI (len + 1))]))) b (len + 1) (fun i => if i = len then v else c i) := by
  obtain ⟨s1, ⟨f', s2, s3⟩, s4, s5⟩ := S
  have e : f = f' := by rw [hf] at s2; simpa using s2
  subst e
  refine ⟨hu_s, ⟨_, by rw [hu_n (by omega)]; exact hu_s, fun i hi => ?_⟩, by omega, fun a ha => by rw [hu_n (by omega), hu_n (by omega)]; exact s5 a ha⟩
  rw [nar_c hv]
  by_cases e : i = len
  · subst e
    rw [upd_s]
    simp
  · rw [upd_n e]
    simp only [e, if_false]
    exact s3 i (by omega)
end EPd
