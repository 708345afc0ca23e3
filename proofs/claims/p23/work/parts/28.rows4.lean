/-! calls within the class -/
def pX (G : GG) (p : Int32 × CX) (h0 : HP) (z b : Nat) : Option Value → HP → Nat → Prop := fun r h1 z1 => r = some (.int p.1) ∧ z1 = z ∧ XF G h0 h1 z b p.2
theorem PP.xf {G : GG} {h : HP} {z b : Nat} {x : CX} (S : PP G h z b x) : XF G h h z b x := ⟨S, fun _ _ _ => rfl⟩
section EX4
variable {G : GG} {l : Launch} {X : CT} {Q : State → Prop} {d mc ms cs sl : Nat} {cc : ByteArray} {own : String} {nL : Nat} {ret : Option FieldType} {h h0 : HP} {z pc : Nat} {lv : List (Nat × Value)} {st : List Value} {b : Nat}
/-- 'now' changes -/
theorem exX_now {idx m d1 ny : Nat} {x : CX} {y : MethodName} {cy : ByteArray} {ry : Option FieldType} {As : List Value} {r0 : Option Value} {f : (Nat → Nat) → Nat → Nat} {B : AS} {st0 : List Value} (V : VV own idx y cy ny ry m) (hC : y.cls = RX3) (S : XF G h0 h z b x) (K : ∀ π, SP G h (b + 1) π x.1 → Ct G l d1 0 0 y cy ny ry (.ref (b + 1) :: As) h z (pS G r0 h z (b + 1) (f π) B)) (hn : As.length = m) (hd : d1 + 1 ≤ d) (hst : (st.map fun v => v.category).sum ≤ 8) (hc : cs ≤ mc) (hs : sl ≤ ms) (stk : st0 = As.reverse ++ .ref (b + 1) :: st) (dg : decode cc pc = .ok (.invokevirtual idx, 3)) (k1 : ∀ h : HP, XF G h0 h z b (B, x.2) → ex G l X Q d mc ms cs sl cc own nL ret h z (pc + 3) lv (r0.toList ++ st)) : ex G l X Q d mc ms cs sl cc own nL ret h z pc lv st0 := by
  obtain ⟨π, hN⟩ := S.1.2.1
  exact ex_callV V (ci := 3) (by rw [hC]; rfl) (K π hN) hN.ob hn hd hst hc hs stk dg (fun r h1 z1 hp => by obtain ⟨rfl, rfl, S1⟩ := hp; exact k1 h1 (S.now S1))
/-- the trial changes -/
theorem exX_trial {idx m d1 ny : Nat} {x : CX} {π : Nat → Nat} {A : AS} {y : MethodName} {cy : ByteArray} {ry : Option FieldType} {As : List Value} {r0 : Option Value} {π1 : Nat → Nat} {B : AS} {st0 : List Value} (V : VV own idx y cy ny ry m) (hC : y.cls = RX3) (S : XF G h0 h z b x) (T : SP G h (b + 12) π A) (K : Ct G l d1 0 0 y cy ny ry (.ref (b + 12) :: As) h z (pS G r0 h z (b + 12) π1 B)) (hn : As.length = m) (hd : d1 + 1 ≤ d) (hst : (st.map fun v => v.category).sum ≤ 8) (hc : cs ≤ mc) (hs : sl ≤ ms) (stk : st0 = As.reverse ++ .ref (b + 12) :: st) (dg : decode cc pc = .ok (.invokevirtual idx, 3)) (k1 : ∀ h : HP, XF G h0 h z b x → SP G h (b + 12) π1 B → ex G l X Q d mc ms cs sl cc own nL ret h z (pc + 3) lv (r0.toList ++ st)) : ex G l X Q d mc ms cs sl cc own nL ret h z pc lv st0 :=
  ex_callV V (ci := 3) (by rw [hC]; rfl) K T.ob hn hd hst hc hs stk dg (fun r h1 z1 hp => by obtain ⟨rfl, rfl, S1⟩ := hp; exact k1 h1 (S.trial S1) S1.1)
/-- trial.copyFrom(now) -/
theorem exX_copyT {idx : Nat} {x : CX} {st0 : List Value} (V : VV own idx yX3_copyFrom cX3_copyFrom 5 none 1) (S : XF G h0 h z b x) (n8 : x.1.1 ≤ 8) (hd : 2 ≤ d) (hst : (st.map fun v => v.category).sum ≤ 8) (hc : cs ≤ mc) (hs : sl ≤ ms) (stk : st0 = .ref (b + 1) :: .ref (b + 12) :: st) (dg : decode cc pc = .ok (.invokevirtual idx, 3)) (k1 : ∀ (h : HP) (π : Nat → Nat), XF G h0 h z b x → SP G h (b + 12) π x.1 → ex G l X Q d mc ms cs sl cc own nL ret h z (pc + 3) lv st) : ex G l X Q d mc ms cs sl cc own nL ret h z pc lv st0 := by
  obtain ⟨π1, T0, hT⟩ := S.1.2.2.1
  obtain ⟨π2, hN⟩ := S.1.2.1
  exact exX_trial (As := [.ref (b + 1)]) (r0 := none) V rfl S hT (c_copy hT hN (by omega) n8) rfl hd hst hc hs stk dg (fun h S1 T1 => k1 h π1 S1 T1)
/-- history.record(now) -/
theorem exX_rec {idx : Nat} {x : CX} {st0 : List Value} (V : VV own idx yX0_record cX0_record 2 none 1) (S : XF G h0 h z b x) (n8 : x.1.1 ≤ 8) (hd : 3 ≤ d) (hst : (st.map fun v => v.category).sum ≤ 8) (hc : cs ≤ mc) (hs : sl ≤ ms) (stk : st0 = .ref (b + 1) :: .ref (b + 23) :: st) (dg : decode cc pc = .ok (.invokevirtual idx, 3)) (k1 : ∀ h : HP, XF G h0 h z b (recX x x.1) → ex G l X Q d mc ms cs sl cc own nL ret h z (pc + 3) lv st) : ex G l X Q d mc ms cs sl cc own nL ret h z pc lv st0 := by
  obtain ⟨π2, hN⟩ := S.1.2.1
  obtain ⟨σ, P, ⟨r, hA, hr, hσ, hi, k6⟩, hL⟩ := S.1.2.2.2.1
  refine ex_callV V (As := [.ref (b + 1)]) (ci := 0) rfl (c_record hA hr hσ hi k6 hN (by omega) n8) hA.1 rfl hd hst hc hs stk dg (fun r1 h1 z1 hp => ?_)
  obtain ⟨rfl, rfl, σ1, P1, H1, H2⟩ := hp
  refine k1 h1 (S.hist H1 (fun j hj => ?_))
  rw [H2 j hj]
  unfold recR
  have k6' : x.2.1 ≤ 6 := k6
  split
  · rename_i c
    rw [if_pos c] at hj
    split
    · rfl
    · exact hL j (by omega)
  · rename_i c
    rw [if_neg c] at hj
    split
    · rfl
    · exact hL (j + 1) (by omega)
/-- history.takeBack(now) -/
theorem exX_back {idx : Nat} {x : CX} {st0 : List Value} (V : VV own idx yX0_takeBack cX0_takeBack 2 none 1) (S : XF G h0 h z b x) (k1 : 1 ≤ x.2.1) (n8 : (x.2.2.1 (x.2.1 - 1)).1 ≤ 8) (hd : 3 ≤ d) (hst : (st.map fun v => v.category).sum ≤ 8) (hc : cs ≤ mc) (hs : sl ≤ ms) (stk : st0 = .ref (b + 1) :: .ref (b + 23) :: st) (dg : decode cc pc = .ok (.invokevirtual idx, 3)) (k2 : ∀ h : HP, XF G h0 h z b (x.2.2.1 (x.2.1 - 1), x.2.1 - 1, x.2.2) → ex G l X Q d mc ms cs sl cc own nL ret h z (pc + 3) lv st) : ex G l X Q d mc ms cs sl cc own nL ret h z pc lv st0 := by
  obtain ⟨π2, hN⟩ := S.1.2.1
  obtain ⟨σ, P, ⟨r, hA, hr, hσ, hi, k6⟩, hL⟩ := S.1.2.2.2.1
  have e1 : P (σ (x.2.1 - 1)) = x.2.2.1 (x.2.1 - 1) := hL _ (by omega)
  refine ex_callV V (As := [.ref (b + 1)]) (ci := 0) rfl (c_takeBack hA hr hσ hi k6 k1 hN (by omega) (by rw [e1]; exact n8)) hA.1 rfl hd hst hc hs stk dg (fun r1 h1 z1 hp => ?_)
  obtain ⟨rfl, rfl, H1, H2, H3⟩ := hp
  rw [e1] at H1
  refine k2 h1 ?_
  obtain ⟨⟨s1, -, ⟨π3, T, s3⟩, -, ⟨r5, s5, s5', s5''⟩, s6, s7⟩, s8⟩ := S
  have q : ∀ a, (a < b + 23 ∨ b + 23 + 68 ≤ a) → (a < b + 1 ∨ b + 1 + 11 ≤ a) → h1 a = h a := H3
  exact ⟨⟨by rw [q _ (by omega) (by omega)]; exact s1, ⟨π2, H1⟩, ⟨π3, T, s3.kept (fun a g1 g2 => q a (by omega) (by omega))⟩, ⟨σ, P, H2, fun j (hj : j < x.2.1 - 1) => hL j (by omega)⟩, ⟨r5, by rw [q _ (by omega) (by omega)]; exact s5, fun i hi => (s5' i hi).kept (fun a g => q a (by omega) (by omega)), s5''⟩, s6.kept (fun a g1 g2 => q a (by omega) (by omega)), s7⟩, fun a g1 g2 => by rw [q a (by omega) (by omega)]; exact s8 a g1 g2⟩
/-- a slot is looked up -/
theorem exX_sl {i : Nat} {v : Int32} {x : CX} (S : XF G h0 h z b x) (hv : v = nI i) (hi : i < 2) (dg : decode cc pc = .ok (.aaload, 1)) (k1 : ∀ r : Option Nat, slA G h z b (x.2.2.2.1 i) r → ex G l X Q d mc ms cs sl cc own nL ret h z (pc + 1) lv (va_rf r :: st)) : ex G l X Q d mc ms cs sl cc own nL ret h z pc lv (.int v :: .ref (b + 91) :: st) := by
  obtain ⟨r, s5, s5', s5''⟩ := S.1.2.2.2.2.1
  exact ex_aald4 s5 hv hi (by decide) dg (k1 _ (s5' i hi))
/-- now.copyFrom(a slot) -/
theorem exX_fromS {idx a : Nat} {x : CX} {B : AS} {st0 : List Value} (V : VV own idx yX3_copyFrom cX3_copyFrom 5 none 1) (S : XF G h0 h z b x) (T : slA G h z b (some B) (some a)) (n8 : B.1 ≤ 8) (hd : 2 ≤ d) (hst : (st.map fun v => v.category).sum ≤ 8) (hc : cs ≤ mc) (hs : sl ≤ ms) (stk : st0 = .ref a :: .ref (b + 1) :: st) (dg : decode cc pc = .ok (.invokevirtual idx, 3)) (k1 : ∀ (h : HP), XF G h0 h z b (B, x.2) → ex G l X Q d mc ms cs sl cc own nL ret h z (pc + 3) lv st) : ex G l X Q d mc ms cs sl cc own nL ret h z pc lv st0 := by
  obtain ⟨a', π, e1, e2, e3, e4⟩ := T
  obtain rfl : a = a' := Option.some.inj e1
  exact exX_now (As := [.ref a]) (r0 := none) (f := fun π => π) V rfl S (fun π1 hN => c_copy hN e4 (by omega) n8) rfl hd hst hc hs stk dg (fun h S1 => k1 h S1)
/-- a slot.copyFrom(now) -/
theorem exX_toS {idx a i : Nat} {x : CX} {B : AS} {r : Nat → Option Nat} {st0 : List Value} (V : VV own idx yX3_copyFrom cX3_copyFrom 5 none 1) (S : XF G h0 h z b x) (hr : h (b + 91) = some (aQ G 4 2 r)) (hi : i < 2) (ha : r i = some a) (hV : x.2.2.2.1 i = some B) (n8 : x.1.1 ≤ 8) (hd : 2 ≤ d) (hst : (st.map fun v => v.category).sum ≤ 8) (hc : cs ≤ mc) (hs : sl ≤ ms) (stk : st0 = .ref (b + 1) :: .ref a :: st) (dg : decode cc pc = .ok (.invokevirtual idx, 3)) (k1 : ∀ (h : HP), XF G h0 h z b (x.1, x.2.1, x.2.2.1, (fun j => if j = i then some x.1 else x.2.2.2.1 j), x.2.2.2.2) → ex G l X Q d mc ms cs sl cc own nL ret h z (pc + 3) lv st) : ex G l X Q d mc ms cs sl cc own nL ret h z pc lv st0 := by
  obtain ⟨r', s5, s5', s5''⟩ := S.1.2.2.2.2.1
  obtain rfl : r = r' := by rw [hr] at s5; simpa using s5
  have T := s5' i hi
  rw [hV] at T
  obtain ⟨a', π, e1, e2, e3, e4⟩ := T
  obtain rfl : a = a' := by rw [ha] at e1; exact Option.some.inj e1
  obtain ⟨π2, hN⟩ := S.1.2.1
  exact ex_callV V (As := [.ref (b + 1)]) (ci := 3) rfl (c_copy e4 hN (by omega) n8) e4.ob rfl hd hst hc hs stk dg (fun r1 h1 z1 hp => by obtain ⟨rfl, rfl, S1⟩ := hp; exact k1 h1 (S.slot hr hi ha hV S1))
/-- the pad changes -/
theorem exX_pad {idx m d1 ny len2 : Nat} {x : CX} {c2 : Nat → Nat} {y : MethodName} {cy : ByteArray} {ry : Option FieldType} {As : List Value} {st0 : List Value} (V : VV own idx y cy ny ry m) (hC : y.cls = RX1) (S : XF G h0 h z b x) (K : PD G h h (b + 92) x.2.2.2.2.1 x.2.2.2.2.2 → Ct G l d1 0 0 y cy ny ry (.ref (b + 92) :: As) h z (fun r h1 z1 => r = none ∧ z1 = z ∧ PD G h h1 (b + 92) len2 c2)) (hn : As.length = m) (hd : d1 + 1 ≤ d) (hst : (st.map fun v => v.category).sum ≤ 8) (hc : cs ≤ mc) (hs : sl ≤ ms) (stk : st0 = As.reverse ++ .ref (b + 92) :: st) (dg : decode cc pc = .ok (.invokevirtual idx, 3)) (k1 : ∀ h : HP, XF G h0 h z b (x.1, x.2.1, x.2.2.1, x.2.2.2.1, len2, c2) → ex G l X Q d mc ms cs sl cc own nL ret h z (pc + 3) lv st) : ex G l X Q d mc ms cs sl cc own nL ret h z pc lv st0 :=
  ex_callV V (ci := 1) (by rw [hC]; rfl) (K S.1.2.2.2.2.2.1) S.1.pob hn hd hst hc hs stk dg (fun r h1 z1 hp => by obtain ⟨rfl, rfl, S1⟩ := hp; exact k1 h1 (S.pad S1))
/-- a setting of 'now' -/
theorem exX_ld {i : Nat} {v w : Int32} {x : CX} (S : XF G h0 h z b x) (hv : v = nI i) (hi : i < 6) (hw : x.1.2.2.2.1 i = w) (dg : decode cc pc = .ok (.iaload, 1)) (k1 : ex G l X Q d mc ms cs sl cc own nL ret h z (pc + 1) lv (.int w :: st)) : ex G l X Q d mc ms cs sl cc own nL ret h z pc lv (.int v :: .ref (b + 1 + 1) :: st) := by
  obtain ⟨π, hN⟩ := S.1.2.1
  exact exS_ld hN.sf hv hi hw dg k1
theorem exX_st {i : Nat} {v w : Int32} {n : Nat} {g : Option Nat} {t : Nat} {u : Nat → Int32} {q : Nat → Nat → Int32} {R : Nat × (Nat → AS) × (Nat → Option AS) × Nat × (Nat → Nat)} (S : XF G h0 h z b ((n, g, t, u, q), R)) (hv : v = nI i) (hi : i < 6) (dg : decode cc pc = .ok (.iastore, 1)) (k1 : ∀ h : HP, XF G h0 h z b ((n, g, t, upd u i w, q), R) → ex G l X Q d mc ms cs sl cc own nL ret h z (pc + 1) lv st) : ex G l X Q d mc ms cs sl cc own nL ret h z pc lv (.int w :: .int v :: .ref (b + 1 + 1) :: st) := by
  obtain ⟨π, hN⟩ := S.1.2.1
  exact exS_st hN.sf hv hi dg (fun h S1 => k1 h (S.now S1))
theorem exX_putU {idx k i : Nat} {v : Int32} {n : Nat} {g : Option Nat} {t : Nat} {u : Nat → Int32} {q : Nat → Nat → Int32} {R : Nat × (Nat → AS) × (Nat → Option AS) × Nat × (Nat → Nat)} (S : XF G h0 h z b ((n, g, t, u, q), R)) (fl : FL own idx 3 k .int false) (hi : 6 ≤ i) (hl : k < 13) (hk : (stF (b + 1) (n, g, t, u, q)).set k (.int v) = stF (b + 1) (n, g, t, upd u i v, q)) (dg : decode cc pc = .ok (.putfield idx, 3)) (k1 : ∀ h : HP, XF G h0 h z b ((n, g, t, upd u i v, q), R) → ex G l X Q d mc ms cs sl cc own nL ret h z (pc + 3) lv st) : ex G l X Q d mc ms cs sl cc own nL ret h z pc lv (.int v :: .ref (b + 1) :: st) := by
  obtain ⟨π, hN⟩ := S.1.2.1
  exact exS_putU hN.sf fl hi hl hk dg (fun h S1 => k1 h (S.now S1))
theorem exX_padL {idx : Nat} {x : CX} {v : Int32} {l2 : Nat} (S : XF G h0 h z b x) (fl : FL own idx 1 1 .int false) (hv : v = nI l2) (hl : l2 ≤ x.2.2.2.2.1) (dg : decode cc pc = .ok (.putfield idx, 3)) (k1 : ∀ h : HP, XF G h0 h z b (x.1, x.2.1, x.2.2.1, x.2.2.2.1, l2, x.2.2.2.2.2) → ex G l X Q d mc ms cs sl cc own nL ret h z (pc + 3) lv st) : ex G l X Q d mc ms cs sl cc own nL ret h z pc lv (.int v :: .ref (b + 92) :: st) := by
  subst hv
  exact ex_put fl S.1.pob rfl rfl (Nat.le_of_ble_eq_true rfl) dg (k1 _ (S.pad (S.1.2.2.2.2.2.1.putL rfl hl)))
end EX4
theorem tabc {x : Int32} {n : Nat} (h : ¬ inR x (n + 1)) (hn : n + 1 < 2 ^ 31) : x.toInt < ((0 : Nat) : Int) ∨ ((n : Nat) : Int) < x.toInt := by
  rcases inR_not h with c | c
  · left
    have := Int32.lt_iff_toInt_lt.mp c
    simpa using this
  · right
    have h1 := Int32.le_iff_toInt_le.mp c
    rw [nI_toInt hn] at h1
    omega
/-! what the calls answer, and what there is then -/
def setA (A : AS) (i : Nat) (v : Int32) : AS := (A.1, A.2.1, A.2.2.1, upd A.2.2.2.1 i v, A.2.2.2.2)
def X_set (x : CX) (s v : Int32) : Int32 × CX := if inR s 6 ∧ ¬ (v < stV 1 (ixI s) ∨ stV 2 (ixI s) < v) then (x.1.2.2.2.1 (ixI s), recX x (setA x.1 (ixI s) v)) else (-2, x)
def X_add (x : CX) (w s : Int32) : Int32 × CX := if w < nI 1 ∨ nI 9 < w ∨ s < 0 ∨ nI 100 < s then (-2, x) else if x.1.1 < 8 then (nI x.1.1, recX x (admA x.1 w s)) else (-4, x)
def X_move (x : CX) (p y : Int32) : Int32 × CX := if inR p x.1.1 ∧ inR y x.1.1 then ((if p = y then nI 0 else abI (p - y) + nI 1), recX x (moveA x.1 (ixI p) (ixI y))) else (-1, x)
def lvA (A : AS) (i : Nat) : AS := (A.1, none, bh A.1 i, A.2.2.2.1, A.2.2.2.2)
def X_stepDown (x : CX) : Int32 × CX := match x.1.2.1 with
  | none => (-5, x)
  | some i => (nI i, recX x (lvA x.1 i))
def X_appeal (x : CX) (p : Int32) : Int32 × CX := if inR p x.1.1 then (if mayI x.1.1 x.1.2.1 x.1.2.2.2.1 x.1.2.2.2.2 (ixI p) = 0 then (-5, x) else match x.1.2.1 with
  | none => (-5, x)
  | some i => ((if (appA x.1.1 i x.1.2.2.1 x.1.2.2.2.1 x.1.2.2.2.2 (ixI p)).2 = true then nI 1 else nI 0), recX x (appA x.1.1 i x.1.2.2.1 x.1.2.2.2.1 x.1.2.2.2.2 (ixI p)).1)) else (-1, x)
def givA (A : AS) (v : Int32) : AS := (A.1, A.2.1, A.2.2.1, upd (upd A.2.2.2.1 11 (A.2.2.2.1 11 + v)) 16 (A.2.2.2.1 16 + v), A.2.2.2.2)
def X_give (x : CX) (v : Int32) : Int32 × CX := if v < nI 1 ∨ nI 9999 < v then (-2, x) else if nI 99999 < x.1.2.2.2.1 11 + v then (-4, x) else (x.1.2.2.2.1 11 + v, recX x (givA x.1 v))
def X_pass (x : CX) (v : Int32) : Int32 × CX := if v < nI 1 ∨ nI 99 < v then (-2, x) else if nI 9999 < x.1.2.2.2.1 6 + v then (-4, x) else ((itA (ixI v) x.1).2.2.2.1 13 - x.1.2.2.2.1 13, recX x (itA (ixI v) x.1))
def perN (A : AS) (j : Nat) (w : Nat) : Int32 := match w with
  | 0 => A.2.2.2.2 j 0
  | 1 => A.2.2.2.2 j 1
  | 2 => A.2.2.2.2 j 2
  | 3 => A.2.2.2.2 j 3
  | 4 => bB A.2.2.2.1 A.2.2.2.2 j
  | 5 => scI A.2.2.2.1 A.2.2.2.2 j + nI 1000
  | 6 => A.2.2.2.2 j 4
  | 7 => A.2.2.2.2 j 5
  | _ => mayI A.1 A.2.1 A.2.2.2.1 A.2.2.2.2 j
def X_person (x : CX) (p w : Int32) : Int32 := if inR p x.1.1 then (if inR w 9 then perN x.1 (ixI p) (ixI w) else -2) else -1
def cntN (x : CX) (w : Nat) : Int32 := match w with
  | 0 => x.1.2.2.2.1 0
  | 1 => x.1.2.2.2.1 1
  | 2 => x.1.2.2.2.1 2
  | 3 => x.1.2.2.2.1 3
  | 4 => x.1.2.2.2.1 4
  | 5 => x.1.2.2.2.1 5
  | 6 => x.1.2.2.2.1 6
  | 7 => nI x.1.1
  | 8 => x.1.2.2.2.1 8
  | 9 => gv x.1.2.1
  | 10 => if x.1.2.1 = none then nI x.1.2.2.1 else (-6)
  | 11 => x.1.2.2.2.1 11
  | 12 => sumB x.1.2.2.2.1 x.1.2.2.2.2 x.1.1
  | 13 => x.1.2.2.2.1 12
  | 14 => x.1.2.2.2.1 13
  | 15 => x.1.2.2.2.1 14
  | 16 => x.1.2.2.2.1 15
  | 17 => sumP x.1.2.2.2.2 x.1.1
  | 18 => x.1.2.2.2.1 16
  | 19 => nI x.2.2.2.2.1
  | _ => nI x.2.1
def X_count (x : CX) (w : Int32) : Int32 := if inR w 21 then cntN x (ixI w) else -2
/-- the first purr, k days on from the day d -/
def nxG (A : AS) (w : Int32) (k d : Nat) : Int32 := match k with
  | 0 => -6
  | k + 1 => match dayR (itA d A) with
    | some j => if w = 0 then nI j else nI (d + 1)
    | none => nxG A w k (d + 1)
def X_next (x : CX) (w : Int32) : Int32 := if w = 0 ∨ w = nI 1 then nxG x.1 w 500 0 else -2
def ueG (A : AS) (k d : Nat) : Int32 := match k with
  | 0 => -6
  | k + 1 => if (itA d A).2.2.2.1 11 = 0 then nI d else ueG A k (d + 1)
def X_untilEmpty (x : CX) : Int32 := ueG x.1 2001 0
def ifpN (A B : AS) (w : Nat) : Int32 := match w with
  | 0 => B.2.2.2.1 13 - A.2.2.2.1 13
  | 1 => B.2.2.2.1 12 - A.2.2.2.1 12
  | 2 => B.2.2.2.1 15 - A.2.2.2.1 15
  | 3 => B.2.2.2.1 8
  | _ => gv B.2.1
def X_ifPassed (x : CX) (v w : Int32) : Int32 := if v < nI 1 ∨ nI 500 < v ∨ w < 0 ∨ nI 4 < w then -2 else ifpN x.1 (itA (ixI v) x.1) (ixI w)
def dgM (A : AS) (i p : Nat) : Int32 := (itA 100 (moveA A i p)).2.2.2.2 p 5 - (moveA A i p).2.2.2.2 p 5
def bpG (A : AS) (i k p best : Nat) (most : Int32) : Nat × Int32 := match k with
  | 0 => (best, most)
  | k + 1 => if most < dgM A i p then bpG A i k (p + 1) p (dgM A i p) else bpG A i k (p + 1) best most
def X_bestPlace (x : CX) (i w : Int32) : Int32 := if inR i x.1.1 then (if w = 0 ∨ w = nI 1 then (if w = 0 then nI (bpG x.1 (ixI i) x.1.1 0 0 (-1)).1 else (bpG x.1 (ixI i) x.1.1 0 0 (-1)).2) else -2) else -1
def X_wipe (x : CX) : Int32 × CX := (nI x.2.2.2.2.1, (x.1, x.2.1, x.2.2.1, x.2.2.2.1, 0, x.2.2.2.2.2))
def X_undo (x : CX) : Int32 × CX := if x.2.1 = 0 then (-5, x) else (nI (x.2.1 - 1), (x.2.2.1 (x.2.1 - 1), x.2.1 - 1, x.2.2))
def X_save (x : CX) (s : Int32) : Int32 × CX := if inR s 2 then (x.1.2.2.2.1 6, (x.1, x.2.1, x.2.2.1, (fun j => if j = ixI s then some x.1 else x.2.2.2.1 j), x.2.2.2.2)) else (-2, x)
def X_restore (x : CX) (s : Int32) : Int32 × CX := if inR s 2 then (match x.2.2.2.1 (ixI s) with
  | none => (-5, x)
  | some B => (B.2.2.2.1 6, recX x B)) else (-2, x)
