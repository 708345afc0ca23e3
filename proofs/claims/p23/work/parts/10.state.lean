/-! what a state of the system is: n people, the guardian, the turn, the other numbers (in the reference's order), what each person has -/
abbrev AS : Type := Nat × Option Nat × Nat × (Nat → Int32) × (Nat → Nat → Int32)
def gv (g : Option Nat) : Int32 := match g with
  | none => -6
  | some j => nI j
def mg (g : Option Nat) : Int32 := match g with
  | none => -1
  | some j => nI j
def uq (q : Nat → Nat → Int32) (j k : Nat) (v : Int32) : Nat → Nat → Int32 := fun a b => if b = k then (if a = j then v else q a b) else q a b
theorem uq_s {q : Nat → Nat → Int32} {j k : Nat} {v : Int32} : uq q j k v j k = v := by simp [uq]
theorem uq_j {q : Nat → Nat → Int32} {j k a b : Nat} {v : Int32} (h : a ≠ j) : uq q j k v a b = q a b := by simp [uq, h]
theorem uq_k {q : Nat → Nat → Int32} {j k a b : Nat} {v : Int32} (h : b ≠ k) : uq q j k v a b = q a b := by simp [uq, h]
theorem upd_s {u : Nat → Int32} {i : Nat} {v : Int32} : upd u i v i = v := by simp [upd]
theorem upd_n {u : Nat → Int32} {i j : Nat} {v : Int32} (h : j ≠ i) : upd u i v j = u j := by simp [upd, h]
def stF (o : Nat) (A : AS) : List Value := [.ref (o + 1), .ref (o + 2), .int (nI A.1), .int (A.2.2.2.1 8), .int (gv A.2.1), .int (nI A.2.2.1), .int (A.2.2.2.1 11), .int (A.2.2.2.1 6), .int (A.2.2.2.1 12), .int (A.2.2.2.1 13), .int (A.2.2.2.1 14), .int (A.2.2.2.1 15), .int (A.2.2.2.1 16)]
def pF (w : Nat → Int32) : List Value := [.int (w 0), .int (w 1), .int (w 2), .int (w 3), .int (w 4), .int (w 5)]
theorem pF_eq {w v : Nat → Int32} (h : ∀ k, k < 6 → w k = v k) : pF w = pF v := by
  simp [pF, h 0 (by decide), h 1 (by decide), h 2 (by decide), h 3 (by decide), h 4 (by decide), h 5 (by decide)]
/-- a State object at o, its two rows and eight persons behind it -/
def SP (G : GG) (h : HP) (o : Nat) (π : Nat → Nat) (A : AS) : Prop :=
  h o = some (.inr (3, stF o A)) ∧ (∃ f : Nat → Int32, h (o + 1) = some (aA G 0 6 f) ∧ ∀ i, i < 6 → f i = A.2.2.2.1 i) ∧ (∃ r : Nat → Option Nat, h (o + 2) = some (aQ G 3 8 r) ∧ ∀ j, j < 8 → r j = some (o + 3 + π j)) ∧ (∀ j, j < 8 → π j < 8) ∧ (∀ i j, i < 8 → j < 8 → π i = π j → i = j) ∧ (∀ j, j < 8 → ∃ w : Nat → Int32, h (o + 3 + π j) = some (.inr (2, pF w)) ∧ (j < A.1 → ∀ k, k < 6 → w k = A.2.2.2.2 j k))
theorem SP.ob {G : GG} {h : HP} {o : Nat} {π : Nat → Nat} {A : AS} (S : SP G h o π A) : h o = some (.inr (3, stF o A)) := S.1
theorem SP.pe {G : GG} {h : HP} {o j : Nat} {π : Nat → Nat} {A : AS} (S : SP G h o π A) (h8 : j < 8) (hn : j < A.1) : h (o + 3 + π j) = some (.inr (2, pF (A.2.2.2.2 j))) := by
  obtain ⟨w, h1, h2⟩ := S.2.2.2.2.2 j h8
  rw [h1, pF_eq (h2 hn)]
theorem SP.kept {G : GG} {h h1 : HP} {o : Nat} {π : Nat → Nat} {A : AS} (S : SP G h o π A) (q : ∀ a, o ≤ a → a < o + 11 → h1 a = h a) : SP G h1 o π A := by
  obtain ⟨s1, ⟨f, s2, s2'⟩, ⟨r, s3, s3'⟩, s4, s5, s6⟩ := S
  refine ⟨by rw [q o (by omega) (by omega)]; exact s1, ⟨f, by rw [q _ (by omega) (by omega)]; exact s2, s2'⟩, ⟨r, by rw [q _ (by omega) (by omega)]; exact s3, s3'⟩, s4, s5, fun j hj => ?_⟩
  obtain ⟨w, w1, w2⟩ := s6 j hj
  have := s4 j hj
  exact ⟨w, by rw [q _ (by omega) (by omega)]; exact w1, w2⟩
/-- what lies behind the people that there are isn't told -/
theorem SP.to {G : GG} {h : HP} {o : Nat} {π : Nat → Nat} {A B : AS} (S : SP G h o π A) (e1 : B.1 = A.1) (e2 : B.2.1 = A.2.1) (e3 : B.2.2.1 = A.2.2.1) (e4 : ∀ i, i < 17 → i ≠ 7 → i ≠ 9 → i ≠ 10 → B.2.2.2.1 i = A.2.2.2.1 i) (e5 : ∀ j k, j < A.1 → k < 6 → B.2.2.2.2 j k = A.2.2.2.2 j k) : SP G h o π B := by
  obtain ⟨s1, ⟨f, s2, s2'⟩, s3, s4, s5, s6⟩ := S
  refine ⟨?_, ⟨f, s2, fun i hi => by rw [s2' i hi, e4 i (by omega) (by omega) (by omega) (by omega)]⟩, s3, s4, s5, fun j hj => ?_⟩
  · have : stF o B = stF o A := by simp [stF, e1, e2, e3, e4 8 (by decide) (by decide) (by decide) (by decide), e4 11 (by decide) (by decide) (by decide) (by decide), e4 6 (by decide) (by decide) (by decide) (by decide), e4 12 (by decide) (by decide) (by decide) (by decide), e4 13 (by decide) (by decide) (by decide) (by decide), e4 14 (by decide) (by decide) (by decide) (by decide), e4 15 (by decide) (by decide) (by decide) (by decide), e4 16 (by decide) (by decide) (by decide) (by decide)]
    rw [this]; exact s1
  · obtain ⟨w, w1, w2⟩ := s6 j hj
    exact ⟨w, w1, fun hn k hk => by rw [e1] at hn; rw [w2 hn k hk, e5 j k hn hk]⟩
/-- .. and nothing else has changed since h0 -/
def SF (G : GG) (h0 h : HP) (o : Nat) (π : Nat → Nat) (A : AS) : Prop := SP G h o π A ∧ ∀ a, (a < o ∨ o + 11 ≤ a) → h a = h0 a
theorem SP.sf {G : GG} {h : HP} {o : Nat} {π : Nat → Nat} {A : AS} (S : SP G h o π A) : SF G h h o π A := ⟨S, fun _ _ => rfl⟩
theorem SF.trans {G : GG} {h0 h h1 : HP} {o : Nat} {π π1 : Nat → Nat} {A B : AS} (S : SF G h0 h o π A) (S1 : SF G h h1 o π1 B) : SF G h0 h1 o π1 B := ⟨S1.1, fun a ha => (S1.2 a ha).trans (S.2 a ha)⟩
theorem SF.pe {G : GG} {h0 h : HP} {o j : Nat} {π : Nat → Nat} {A : AS} (S : SF G h0 h o π A) (h8 : j < 8) (hn : j < A.1) : h (o + 3 + π j) = some (.inr (2, pF (A.2.2.2.2 j))) := S.1.pe h8 hn
theorem SF.ob {G : GG} {h0 h : HP} {o : Nat} {π : Nat → Nat} {A : AS} (S : SF G h0 h o π A) : h o = some (.inr (3, stF o A)) := S.1.1
theorem SF.putO {G : GG} {h0 h : HP} {o : Nat} {π : Nat → Nat} {A B : AS} {fs : List Value} (S : SF G h0 h o π A) (hk : fs = stF o B) (e1 : B.1 = A.1) (e4 : ∀ i, i < 6 → B.2.2.2.1 i = A.2.2.2.1 i) (e5 : B.2.2.2.2 = A.2.2.2.2) : SF G h0 (hu h o (.inr (3, fs))) o π B := by
  obtain ⟨⟨s1, ⟨f, s2, s2'⟩, ⟨r, s3, s3'⟩, s4, s5, s6⟩, s7⟩ := S
  refine ⟨⟨by rw [hu_s, hk], ⟨f, by rw [hu_n (by omega)]; exact s2, fun i hi => by rw [s2' i hi, e4 i hi]⟩, ⟨r, by rw [hu_n (by omega)]; exact s3, s3'⟩, s4, s5, fun j hj => ?_⟩, fun a ha => by rw [hu_n (by omega)]; exact s7 a ha⟩
  obtain ⟨w, w1, w2⟩ := s6 j hj
  exact ⟨w, by rw [hu_n (by omega)]; exact w1, fun hn k hk => by rw [e1] at hn; rw [w2 hn k hk, e5]⟩
theorem SF.putP {G : GG} {h0 h : HP} {o j k : Nat} {π : Nat → Nat} {n : Nat} {g : Option Nat} {t : Nat} {u : Nat → Int32} {q : Nat → Nat → Int32} {v : Int32} {fs : List Value} (S : SF G h0 h o π (n, g, t, u, q)) (h8 : j < 8) (hn : j < n) (hk : fs = pF (upd (q j) k v)) : SF G h0 (hu h (o + 3 + π j) (.inr (2, fs))) o π (n, g, t, u, uq q j k v) := by
  obtain ⟨⟨s1, ⟨f, s2, s2'⟩, ⟨r, s3, s3'⟩, s4, s5, s6⟩, s7⟩ := S
  have hpj := s4 j h8
  refine ⟨⟨by rw [hu_n (by omega)]; exact s1, ⟨f, by rw [hu_n (by omega)]; exact s2, s2'⟩, ⟨r, by rw [hu_n (by omega)]; exact s3, s3'⟩, s4, s5, fun i hi => ?_⟩, fun a ha => by rw [hu_n (by omega)]; exact s7 a ha⟩
  by_cases e : i = j
  · subst e
    refine ⟨upd (q i) k v, by rw [hu_s, hk], fun _ b _ => ?_⟩
    by_cases e : b = k
    · subst e
      show _ = uq q i b v i b
      rw [upd_s, uq_s]
    · show _ = uq q i k v i b
      rw [upd_n e, uq_k e]
  · obtain ⟨w, w1, w2⟩ := s6 i hi
    have hne : π i ≠ π j := fun z => e (s5 i j hi h8 z)
    refine ⟨w, by rw [hu_n (by omega)]; exact w1, fun hn b hb => ?_⟩
    show _ = uq q j k v i b
    rw [uq_j e]
    exact w2 hn b hb
theorem SF.putI {G : GG} {h0 h : HP} {o i : Nat} {π : Nat → Nat} {n : Nat} {g : Option Nat} {t : Nat} {u : Nat → Int32} {q : Nat → Nat → Int32} {v : Int32} {f : Nat → Int32} (S : SF G h0 h o π (n, g, t, u, q)) (hf : h (o + 1) = some (aA G 0 6 f)) (hi : i < 6) : SF G h0 (hu h (o + 1) (aA G 0 6 (upd f i v))) o π (n, g, t, upd u i v, q) := by
  obtain ⟨⟨s1, ⟨f', s2, s2'⟩, ⟨r, s3, s3'⟩, s4, s5, s6⟩, s7⟩ := S
  have e : f = f' := by rw [hf] at s2; simpa using s2
  subst e
  refine ⟨⟨?_, ⟨_, hu_s, fun b hb => ?_⟩, ⟨r, by rw [hu_n (by omega)]; exact s3, s3'⟩, s4, s5, fun j hj => ?_⟩, fun a ha => by rw [hu_n (by omega)]; exact s7 a ha⟩
  · rw [hu_n (by omega), s1]
    have e (x : Nat) (hx : 6 ≤ x) : upd u i v x = u x := upd_n (by omega)
    simp [stF, e]
  · show upd f i v b = upd u i v b
    by_cases e : b = i
    · subst e
      rw [upd_s, upd_s]
    · rw [upd_n e, upd_n e]
      exact s2' b hb
  · obtain ⟨w, w1, w2⟩ := s6 j hj
    exact ⟨w, by rw [hu_n (by omega)]; exact w1, w2⟩
section ES
variable {G : GG} {l : Launch} {X : CT} {Q : State → Prop} {d mc ms cs sl : Nat} {cc : ByteArray} {own : String} {nL : Nat} {ret : Option FieldType} {h h0 : HP} {z pc : Nat} {lv : List (Nat × Value)} {st : List Value} {o : Nat} {π : Nat → Nat} {n : Nat} {g : Option Nat} {t : Nat} {u : Nat → Int32} {q : Nat → Nat → Int32}
theorem exS_putU {idx k i : Nat} {v : Int32} (S : SF G h0 h o π (n, g, t, u, q)) (fl : FL own idx 3 k .int false) (hi : 6 ≤ i) (hl : k < 13) (hk : (stF o (n, g, t, u, q)).set k (.int v) = stF o (n, g, t, upd u i v, q)) (dg : decode cc pc = .ok (.putfield idx, 3)) (k1 : ∀ h : HP, SF G h0 h o π (n, g, t, upd u i v, q) → ex G l X Q d mc ms cs sl cc own nL ret h z (pc + 3) lv st) : ex G l X Q d mc ms cs sl cc own nL ret h z pc lv (.int v :: .ref o :: st) :=
  ex_put fl S.ob rfl rfl hl dg (k1 _ (S.putO hk rfl (fun j hj => upd_n (by omega)) rfl))
theorem exS_putG {idx : Nat} {g1 : Option Nat} {v : Int32} (S : SF G h0 h o π (n, g, t, u, q)) (fl : FL own idx 3 4 .int false) (hv : v = gv g1) (dg : decode cc pc = .ok (.putfield idx, 3)) (k1 : ∀ h : HP, SF G h0 h o π (n, g1, t, u, q) → ex G l X Q d mc ms cs sl cc own nL ret h z (pc + 3) lv st) : ex G l X Q d mc ms cs sl cc own nL ret h z pc lv (.int v :: .ref o :: st) := by
  subst hv
  exact ex_put fl S.ob rfl rfl (by show 4 < 13; decide) dg (k1 _ (S.putO rfl rfl (fun j hj => rfl) rfl))
theorem exS_putT {idx : Nat} {t1 : Nat} {v : Int32} (S : SF G h0 h o π (n, g, t, u, q)) (fl : FL own idx 3 5 .int false) (hv : v = nI t1) (dg : decode cc pc = .ok (.putfield idx, 3)) (k1 : ∀ h : HP, SF G h0 h o π (n, g, t1, u, q) → ex G l X Q d mc ms cs sl cc own nL ret h z (pc + 3) lv st) : ex G l X Q d mc ms cs sl cc own nL ret h z pc lv (.int v :: .ref o :: st) := by
  subst hv
  exact ex_put fl S.ob rfl rfl (by show 5 < 13; decide) dg (k1 _ (S.putO rfl rfl (fun j hj => rfl) rfl))
theorem exP_put {idx k j : Nat} {v : Int32} (S : SF G h0 h o π (n, g, t, u, q)) (h8 : j < 8) (hn : j < n) (fl : FL own idx 2 k .int false) (hl : k < 6) (hk : (pF (q j)).set k (.int v) = pF (upd (q j) k v)) (dg : decode cc pc = .ok (.putfield idx, 3)) (k1 : ∀ h : HP, SF G h0 h o π (n, g, t, u, uq q j k v) → ex G l X Q d mc ms cs sl cc own nL ret h z (pc + 3) lv st) : ex G l X Q d mc ms cs sl cc own nL ret h z pc lv (.int v :: .ref (o + 3 + π j) :: st) :=
  ex_put fl (S.pe h8 hn) rfl rfl hl dg (k1 _ (S.putP h8 hn hk))
/-- a setting is read -/
theorem exS_ld {i : Nat} {x v : Int32} (S : SF G h0 h o π (n, g, t, u, q)) (hx : x = nI i) (hi : i < 6) (hv : u i = v) (dg : decode cc pc = .ok (.iaload, 1)) (k1 : ex G l X Q d mc ms cs sl cc own nL ret h z (pc + 1) lv (.int v :: st)) : ex G l X Q d mc ms cs sl cc own nL ret h z pc lv (.int x :: .ref (o + 1) :: st) := by
  obtain ⟨f, hf, hf2⟩ := S.1.2.1
  refine ex_iald hf hx hi (by decide) dg ?_
  rw [hf2 i hi]
  subst hv
  exact k1
/-- a setting is written -/
theorem exS_st {i : Nat} {x v : Int32} (S : SF G h0 h o π (n, g, t, u, q)) (hx : x = nI i) (hi : i < 6) (dg : decode cc pc = .ok (.iastore, 1)) (k1 : ∀ h : HP, SF G h0 h o π (n, g, t, upd u i v, q) → ex G l X Q d mc ms cs sl cc own nL ret h z (pc + 1) lv st) : ex G l X Q d mc ms cs sl cc own nL ret h z pc lv (.int v :: .int x :: .ref (o + 1) :: st) := by
  obtain ⟨f, hf, hf2⟩ := S.1.2.1
  exact ex_iast hf hx hi (by decide) dg (k1 _ (S.putI hf hi))
/-- a person is looked up -/
theorem exS_pl {i : Nat} {x : Int32} (S : SF G h0 h o π (n, g, t, u, q)) (hx : x = nI i) (hi : i < 8) (dg : decode cc pc = .ok (.aaload, 1)) (k1 : ex G l X Q d mc ms cs sl cc own nL ret h z (pc + 1) lv (.ref (o + 3 + π i) :: st)) : ex G l X Q d mc ms cs sl cc own nL ret h z pc lv (.int x :: .ref (o + 2) :: st) := by
  obtain ⟨f, hf, hf2⟩ := S.1.2.2.1
  refine ex_aald3 hf hx hi (by decide) dg ?_
  rw [hf2 i hi]
  exact k1
/-- a call that only reads -/
def p0 (v : Value) (h : HP) (z : Nat) : Option Value → HP → Nat → Prop := fun r h1 z1 => r = some v ∧ h1 = h ∧ z1 = z
theorem ex_call0 {idx a m ci d1 ny : Nat} {y : MethodName} {cy : ByteArray} {ry : Option FieldType} {As : List Value} {fs : List Value} {v : Value} {st0 : List Value} (V : VV own idx y cy ny ry m) (hC : vwCl[ci]?.map (fun q => q.1) = some y.cls) (K : Ct G l d1 0 0 y cy ny ry (.ref a :: As) h z (p0 v h z)) (he : h a = some (.inr (ci, fs))) (hn : As.length = m) (hd : d1 + 1 ≤ d) (hst : (st.map fun v => v.category).sum ≤ 8) (hc : cs ≤ mc) (hs : sl ≤ ms) (stk : st0 = As.reverse ++ .ref a :: st) (dg : decode cc pc = .ok (.invokevirtual idx, 3)) (k1 : ex G l X Q d mc ms cs sl cc own nL ret h z (pc + 3) lv (v :: st)) : ex G l X Q d mc ms cs sl cc own nL ret h z pc lv st0 :=
  ex_callV V hC K he hn hd hst hc hs stk dg (fun r h1 z1 hp => by obtain ⟨rfl, rfl, rfl⟩ := hp; exact k1)
theorem ex_callS0 {idx m d1 ny : Nat} {y : MethodName} {cy : ByteArray} {ry : Option FieldType} {As : List Value} {v : Value} {st0 : List Value} (V : VS own idx y cy ny ry m) (K : Ct G l d1 0 0 y cy ny ry As h z (p0 v h z)) (hn : As.length = m) (hd : d1 + 1 ≤ d) (hst : (st.map fun v => v.category).sum ≤ 8) (hc : cs ≤ mc) (hs : sl ≤ ms) (stk : st0 = As.reverse ++ st) (dg : decode cc pc = .ok (.invokestatic idx, 3)) (k1 : ex G l X Q d mc ms cs sl cc own nL ret h z (pc + 3) lv (v :: st)) : ex G l X Q d mc ms cs sl cc own nL ret h z pc lv st0 :=
  ex_callS V K hn hd hst hc hs stk dg (fun r h1 z1 hp => by obtain ⟨rfl, rfl, rfl⟩ := hp; exact k1)
/-- a call that makes another state of it -/
def pS (G : GG) (r0 : Option Value) (h : HP) (z o : Nat) (π : Nat → Nat) (A : AS) : Option Value → HP → Nat → Prop := fun r h1 z1 => r = r0 ∧ z1 = z ∧ SF G h h1 o π A
theorem exS_call {idx m d1 ny : Nat} {y : MethodName} {cy : ByteArray} {ry : Option FieldType} {As : List Value} {r0 : Option Value} {π1 : Nat → Nat} {A B : AS} {st0 : List Value} (V : VV own idx y cy ny ry m) (hC : y.cls = RX3) (S : SF G h0 h o π A) (K : SP G h o π A → Ct G l d1 0 0 y cy ny ry (.ref o :: As) h z (pS G r0 h z o π1 B)) (hn : As.length = m) (hd : d1 + 1 ≤ d) (hst : (st.map fun v => v.category).sum ≤ 8) (hc : cs ≤ mc) (hs : sl ≤ ms) (stk : st0 = As.reverse ++ .ref o :: st) (dg : decode cc pc = .ok (.invokevirtual idx, 3)) (k1 : ∀ h : HP, SF G h0 h o π1 B → ex G l X Q d mc ms cs sl cc own nL ret h z (pc + 3) lv (r0.toList ++ st)) : ex G l X Q d mc ms cs sl cc own nL ret h z pc lv st0 :=
  ex_callV V (ci := 3) (by rw [hC]; rfl) (K S.1) S.ob hn hd hst hc hs stk dg (fun r h1 z1 hp => by obtain ⟨rfl, rfl, S1⟩ := hp; exact k1 h1 (S.trans S1))
end ES
