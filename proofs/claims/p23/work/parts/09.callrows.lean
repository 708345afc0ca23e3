/-! calls by contract, and ends -/
abbrev notMH (y : MethodName) : Prop := y.cls ≠ "java/lang/invoke/MethodHandle" ∧ y.cls ≠ "java/lang/invoke/VarHandle"
/-- what every call needs of the tables -/
def VB (own : String) (idx : Nat) (y : MethodName) (cy : ByteArray) (ny : Nat) (ry : Option FieldType) (n : Nat) : Prop := Cond.methodLink own idx y ∈ TW ∧ Cond.initialized y.cls ∈ TW ∧ Cond.code y cy ny ry ∈ TW ∧ y.cls ≠ "java/lang/invoke/MethodHandle" ∧ y.cls ≠ "java/lang/invoke/VarHandle" ∧ (parseMethodDescriptor y.desc).map (fun d => d.parameters.length) = some n ∧ ny ≤ 17
def VV (own : String) (idx : Nat) (y : MethodName) (cy : ByteArray) (ny : Nat) (ry : Option FieldType) (n : Nat) : Prop := VB own idx y cy ny ry n ∧ Cond.instanceMethod y ∈ TW ∧ Cond.selects y.cls y y ∈ TW
def VS (own : String) (idx : Nat) (y : MethodName) (cy : ByteArray) (ny : Nat) (ry : Option FieldType) (n : Nat) : Prop := VB own idx y cy ny ry n ∧ Cond.static y ∈ TW
def VI (own : String) (idx : Nat) (y : MethodName) (cy : ByteArray) (ny : Nat) (n : Nat) : Prop := VB own idx y cy ny none n ∧ Cond.instanceMethod y ∈ TW ∧ y.name = "<init>"
theorem tw_cons {w : Cond} (h : w ∈ TW) : GoodIn TW (w :: TW) := fun v hv => by
  rcases List.mem_cons.mp hv with rfl | hv
  · exact tw_good _ h
  · exact tw_good _ hv
theorem PC.blind {G : GG} {as : List Value} {h : HP} {z : Nat} : FrameBlind (PC G as h z) := fun _ _ _ _ q => ⟨q.1, q.2.1, KK.calling q.2.2⟩
theorem PC.pre {G : GG} {as : List Value} {h : HP} {z : Nat} {s : State} {H : Heap} {locs : List Loc} (K : KK G s s.heap) (S : va_S (fr G) s.heap H locs) (R : Rel G h z H) : ∀ U : State, U.heap = H → s.WarmedH U.vm → PC G as h z as.toArray U := fun U hU hW => ⟨rfl, by rw [hU]; exact R, by rw [hU]; exact KK.warm hW S.2.1 K⟩
section EC
variable {G : GG} {l : Launch} {X : CT} {Q : State → Prop} {d mc ms cs sl : Nat} {cc : ByteArray} {own : String} {nL : Nat} {ret : Option FieldType} {h : HP} {z pc : Nat} {lv : List (Nat × Value)} {st st0 : List Value}
/-- behind a call -/
theorem ex_behind {m1 s1 : Nat} {as : Array Value} {post : Option Value → HP → Nat → Prop} {H : Heap} {locs : List Loc} {ls : Array Slot} (F : Fx G X cc own nL ret) (R : Rel G h z H) (S : va_S (fr G) X.2.2.1.heap H locs) (L : lv_has ls nL lv)
    (hr : va_Run X.1 l X.2.1 (rmx d mc ms) X.2.2.1 X.2.2.2.1 X.2.2.2.2.1 X.2.2.2.2.2.1 X.2.2.2.2.2.2.1 X.2.2.2.2.2.2.2 H locs cs sl m1 s1 (F0 X.2.2.2.1 pc ls st0) st (QC G post as) (fr G))
    (k1 : ∀ (r : Option Value) (h1 : HP) (z1 : Nat), post r h1 z1 → ex G l X Q d mc ms (cs + m1) (sl + s1) cc own nL ret h1 z1 (pc + 3) lv (r.toList ++ st)) :
    W X.1 l X.2.1 (rmx d mc ms) X.2.2.1 X.2.2.2.1 X.2.2.2.2.1 X.2.2.2.2.2.1 X.2.2.2.2.2.2.1 X.2.2.2.2.2.2.2 H locs cs sl Q (F0 X.2.2.2.1 pc ls st0) := by
  intro T hT XX
  obtain ⟨v, st₀, t, T', L1, g0, X', hL, e1, e2, ⟨⟨r, h1, z1, hv, hp, hR1⟩, hz, hk⟩, stp⟩ := hr T hT XX
  cases hv
  rw [g0] at hz hk
  obtain ⟨t2, a1, b1⟩ := k1 v h1 z1 hp T'.heap (locs ++ L1) ls F (by rw [e1]; exact hR1)
    ⟨Nat.le_trans S.1 (by rw [e1]; exact hz), fun q g1 g2 => by rw [e1, hk q (Nat.lt_of_lt_of_le g1 S.1) g2]; exact S.2.1 q g1 g2, fun q hq => by
      rcases List.mem_append.mp hq with h | h
      · exact S.2.2 q h
      · exact hL q h⟩ L T' rfl X'
  exact ⟨t2, stp t2 a1, b1⟩
theorem ex_callV {idx a n ci d1 m1 s1 ny : Nat} {y : MethodName} {cy : ByteArray} {ry : Option FieldType} {As : List Value} {fs : List Value} {post : Option Value → HP → Nat → Prop} (V : VV own idx y cy ny ry n) (hC : vwCl[ci]?.map (fun q => q.1) = some y.cls) (K : Ct G l d1 m1 s1 y cy ny ry (.ref a :: As) h z post) (he : h a = some (.inr (ci, fs))) (hn : As.length = n) (hd : d1 + 1 ≤ d) (hst : (st.map fun v => v.category).sum ≤ 8) (hc : cs + m1 ≤ mc) (hs : sl + s1 ≤ ms) (stk : st0 = As.reverse ++ .ref a :: st) (dg : decode cc pc = .ok (.invokevirtual idx, 3))
    (k1 : ∀ (r : Option Value) (h1 : HP) (z1 : Nat), post r h1 z1 → ex G l X Q d mc ms (cs + m1) (sl + s1) cc own nL ret h1 z1 (pc + 3) lv (r.toList ++ st)) : ex G l X Q d mc ms cs sl cc own nL ret h z pc lv st0 := by
  intro H locs ls F R S L
  obtain ⟨⟨v1, v2, v3, v4, v5, v6, v7⟩, v8, v9⟩ := V
  have hts := F.2.2.2.2.1
  have hK := F.2.2.2.2.2.2.2.1
  obtain ⟨qc, hqc, hqn⟩ : ∃ qc, vwCl[ci]? = some qc ∧ qc.1 = y.cls := by
    cases hq : vwCl[ci]? with
    | none => rw [hq] at hC; cases hC
    | some qc => rw [hq] at hC; exact ⟨qc, rfl, Option.some.inj hC⟩
  have hrecv := va_recv (s := X.2.2.1) (D := G.1) (cl := vwCl) (tys := tyG G) hK (R.P he) hqc (q0 := 0) rfl
  rw [hqn] at hrecv
  have hcw : CallW (rmx d mc ms) X.2.2.1 X.2.2.2.2.1 own y.cls idx y cy ny ry (Cond.code y cy ny ry :: TW) (rmx d1 m1 s1) m1 s1 n :=
    ⟨callB_of n hts (tw_cons v3) rfl rfl rfl (hts _ v2) (hts _ v1) ⟨v4, v5, v6⟩ ⟨by show d1 + 1 ≤ d; exact hd, by show 8 + (ny + 11) + 36 * d1 ≤ 36 * d; omega⟩, hts _ v8, hts _ v9⟩
  have hr := va_runV (p := X.1) (l := l) (e := X.2.1) (below := X.2.2.2.2.2.1) (meth := X.2.2.2.2.2.2.1) (H := H) (locs := locs) (cells := cs) (slots := sl) (g := F0 X.2.2.2.1 pc ls st0) (rest := st) (As := As) (b := a) (nL := nL) (Ts := TW) (cc := cc) ⟨F.1, F.2.1, F.2.2.1, F.2.2.2.1, hts⟩ K hcw ⟨PC.blind, hrecv, PC.pre F.2.2.2.2.2.2.2 S R⟩ rfl hn L.1 stk (lv_room hst) dg ⟨hc, hs⟩
  exact ex_behind F R S L hr k1
theorem ex_callS {idx n d1 m1 s1 ny : Nat} {y : MethodName} {cy : ByteArray} {ry : Option FieldType} {As : List Value} {post : Option Value → HP → Nat → Prop} (V : VS own idx y cy ny ry n) (K : Ct G l d1 m1 s1 y cy ny ry As h z post) (hn : As.length = n) (hd : d1 + 1 ≤ d) (hst : (st.map fun v => v.category).sum ≤ 8) (hc : cs + m1 ≤ mc) (hs : sl + s1 ≤ ms) (stk : st0 = As.reverse ++ st) (dg : decode cc pc = .ok (.invokestatic idx, 3))
    (k1 : ∀ (r : Option Value) (h1 : HP) (z1 : Nat), post r h1 z1 → ex G l X Q d mc ms (cs + m1) (sl + s1) cc own nL ret h1 z1 (pc + 3) lv (r.toList ++ st)) : ex G l X Q d mc ms cs sl cc own nL ret h z pc lv st0 := by
  intro H locs ls F R S L
  obtain ⟨⟨v1, v2, v3, v4, v5, v6, v7⟩, v8⟩ := V
  have hts := F.2.2.2.2.1
  have hcw : CallB (rmx d mc ms) X.2.2.1 X.2.2.2.2.1 own idx y cy ny ry (Cond.code y cy ny ry :: TW) (rmx d1 m1 s1) m1 s1 n ∧ (Cond.static y).before X.2.2.2.2.1 X.2.2.1 = true :=
    ⟨callB_of n hts (tw_cons v3) rfl rfl rfl (hts _ v2) (hts _ v1) ⟨v4, v5, v6⟩ ⟨by show d1 + 1 ≤ d; exact hd, by show 8 + (ny + 11) + 36 * d1 ≤ 36 * d; omega⟩, hts _ v8⟩
  have hr := va_runS (p := X.1) (l := l) (e := X.2.1) (below := X.2.2.2.2.2.1) (meth := X.2.2.2.2.2.2.1) (H := H) (locs := locs) (cells := cs) (slots := sl) (g := F0 X.2.2.2.1 pc ls st0) (rest := st) (As := As) (nL := nL) (Ts := TW) (cc := cc) ⟨F.1, F.2.1, F.2.2.1, F.2.2.2.1, hts⟩ K hcw ⟨PC.blind, PC.pre F.2.2.2.2.2.2.2 S R⟩ rfl hn L.1 stk (lv_room hst) dg ⟨hc, hs⟩
  exact ex_behind F R S L hr k1
theorem ex_callI {idx a n d1 m1 s1 ny : Nat} {y : MethodName} {cy : ByteArray} {As : List Value} {post : Option Value → HP → Nat → Prop} (V : VI own idx y cy ny n) (K : Ct G l d1 m1 s1 y cy ny none (.ref a :: As) h z post) (hn : As.length = n) (hd : d1 + 1 ≤ d) (hst : (st.map fun v => v.category).sum ≤ 8) (hc : cs + m1 ≤ mc) (hs : sl + s1 ≤ ms) (stk : st0 = As.reverse ++ .ref a :: st) (dg : decode cc pc = .ok (.invokespecial idx, 3))
    (k1 : ∀ (r : Option Value) (h1 : HP) (z1 : Nat), post r h1 z1 → ex G l X Q d mc ms (cs + m1) (sl + s1) cc own nL ret h1 z1 (pc + 3) lv (r.toList ++ st)) : ex G l X Q d mc ms cs sl cc own nL ret h z pc lv st0 := by
  intro H locs ls F R S L
  obtain ⟨⟨v1, v2, v3, v4, v5, v6, v7⟩, v8, v9⟩ := V
  have hts := F.2.2.2.2.1
  have hcw : CallB (rmx d mc ms) X.2.2.1 X.2.2.2.2.1 own idx y cy ny none (Cond.code y cy ny none :: TW) (rmx d1 m1 s1) m1 s1 n ∧ y.name = "<init>" ∧ (Cond.instanceMethod y).before X.2.2.2.2.1 X.2.2.1 = true :=
    ⟨callB_of n hts (tw_cons v3) rfl rfl rfl (hts _ v2) (hts _ v1) ⟨v4, v5, v6⟩ ⟨by show d1 + 1 ≤ d; exact hd, by show 8 + (ny + 11) + 36 * d1 ≤ 36 * d; omega⟩, v9, hts _ v8⟩
  have hr := va_runI (p := X.1) (l := l) (e := X.2.1) (below := X.2.2.2.2.2.1) (meth := X.2.2.2.2.2.2.1) (H := H) (locs := locs) (cells := cs) (slots := sl) (g := F0 X.2.2.2.1 pc ls st0) (rest := st) (As := As) (b := a) (nL := nL) (Ts := TW) (cc := cc) ⟨F.1, F.2.1, F.2.2.1, F.2.2.2.1, hts⟩ K hcw ⟨PC.blind, PC.pre F.2.2.2.2.2.2.2 S R⟩ rfl hn L.1 stk (lv_room hst) dg ⟨hc, hs⟩
  exact ex_behind F R S L hr k1
/-- a nest mate's private constructor: its link is carried by KK -/
theorem ex_callIN {idx a n d1 m1 s1 ny : Nat} {y : MethodName} {cy : ByteArray} {As : List Value} {post : Option Value → HP → Nat → Prop} (hw : KK G X.2.2.1 X.2.2.1.heap → va_Nw (.methodLinkNest own idx y RX4) X.2.2.1) (V : Cond.initialized y.cls ∈ TW ∧ Cond.code y cy ny none ∈ TW ∧ y.cls ≠ "java/lang/invoke/MethodHandle" ∧ y.cls ≠ "java/lang/invoke/VarHandle" ∧ (parseMethodDescriptor y.desc).map (fun d => d.parameters.length) = some n ∧ ny ≤ 17 ∧ Cond.instanceMethod y ∈ TW ∧ y.name = "<init>") (K : Ct G l d1 m1 s1 y cy ny none (.ref a :: As) h z post) (hn : As.length = n) (hd : d1 + 1 ≤ d) (hst : (st.map fun v => v.category).sum ≤ 8) (hc : cs + m1 ≤ mc) (hs : sl + s1 ≤ ms) (stk : st0 = As.reverse ++ .ref a :: st) (dg : decode cc pc = .ok (.invokespecial idx, 3))
    (k1 : ∀ (r : Option Value) (h1 : HP) (z1 : Nat), post r h1 z1 → ex G l X Q d mc ms (cs + m1) (sl + s1) cc own nL ret h1 z1 (pc + 3) lv (r.toList ++ st)) : ex G l X Q d mc ms cs sl cc own nL ret h z pc lv st0 := by
  intro H locs ls F R S L
  obtain ⟨v2, v3, v4, v5, v6, v7, v8, v9⟩ := V
  have hts := F.2.2.2.2.1
  have hcw : va_CN (rmx d mc ms) X.2.2.1 X.2.2.2.2.1 own idx y RX4 cy ny none (Cond.code y cy ny none :: TW) (rmx d1 m1 s1) m1 s1 n ∧ y.name = "<init>" ∧ (Cond.instanceMethod y).before X.2.2.2.2.1 X.2.2.1 = true :=
    ⟨va_cnB n hts (tw_cons v3) rfl rfl rfl (hw F.2.2.2.2.2.2.2) (hts _ v2) ⟨v4, v5, v6⟩ ⟨by show d1 + 1 ≤ d; exact hd, by show 8 + (ny + 11) + 36 * d1 ≤ 36 * d; omega⟩, v9, hts _ v8⟩
  have hr := va_runIN (p := X.1) (l := l) (e := X.2.1) (below := X.2.2.2.2.2.1) (meth := X.2.2.2.2.2.2.1) (H := H) (locs := locs) (cells := cs) (slots := sl) (g := F0 X.2.2.2.1 pc ls st0) (rest := st) (As := As) (b := a) (nL := nL) (Ts := TW) (cc := cc) ⟨F.1, F.2.1, F.2.2.1, F.2.2.2.1, hts⟩ K hcw ⟨PC.blind, PC.pre F.2.2.2.2.2.2.2 S R⟩ rfl hn L.1 stk (lv_room hst) dg ⟨hc, hs⟩
  exact ex_behind F R S L hr k1
theorem ex_iret {post : Option Value → HP → Nat → Prop} {v : Int32} (hQ : RQ G X Q cs sl post) (hr : ret = some .int) (hp : post (some (.int v)) h z) (dg : decode cc pc = .ok (.ireturn, 1)) : ex G l X Q d mc ms cs sl cc own nL ret h z pc lv [.int v] := by
  intro H locs ls F R S L
  subst hQ
  exact W.iret F.1 F.2.1 (by rw [← hr]; exact F.2.2.2.2.2.2.1) (fun t ht hW => ⟨⟨_, h, z, rfl, hp, by rw [ht]; exact R⟩, S.F ht⟩) S.2.2 dg F.2.2.2.2.2.1
theorem ex_zret {post : Option Value → HP → Nat → Prop} {v : Int32} {ty : FieldType} (hQ : RQ G X Q cs sl post) (hr : ret = some ty) (hn : narrow ty (.int v) = .int v) (hp : post (some (.int v)) h z) (dg : decode cc pc = .ok (.ireturn, 1)) : ex G l X Q d mc ms cs sl cc own nL ret h z pc lv [.int v] := by
  intro H locs ls F R S L
  subst hQ
  exact W.zret F.1 F.2.1 (by rw [← hr]; exact F.2.2.2.2.2.2.1) hn (fun t ht hW => ⟨⟨_, h, z, rfl, hp, by rw [ht]; exact R⟩, S.F ht⟩) S.2.2 dg F.2.2.2.2.2.1
theorem ex_vret {post : Option Value → HP → Nat → Prop} (hQ : RQ G X Q cs sl post) (hr : ret = none) (hp : post none h z) (dg : decode cc pc = .ok (.return_, 1)) : ex G l X Q d mc ms cs sl cc own nL ret h z pc lv [] := by
  intro H locs ls F R S L
  subst hQ
  exact W.vret F.1 F.2.1 (by rw [← hr]; exact F.2.2.2.2.2.2.1) (fun t ht hW => ⟨⟨_, h, z, rfl, hp, by rw [ht]; exact R⟩, S.F ht⟩) S.2.2 dg F.2.2.2.2.2.1
theorem ex_aret {post : Option Value → HP → Nat → Prop} {v : Value} {n : String} (hQ : RQ G X Q cs sl post) (hr : ret = some (.object n)) (hv : v = .null ∨ ∃ a, v = .ref a) (hp : post (some v) h z) (dg : decode cc pc = .ok (.areturn, 1)) : ex G l X Q d mc ms cs sl cc own nL ret h z pc lv [v] := by
  intro H locs ls F R S L
  subst hQ
  exact W.aret F.1 F.2.1 (by rw [← hr]; exact F.2.2.2.2.2.2.1) (Or.inl ⟨n, rfl⟩) hv (fun t ht hW => ⟨⟨_, h, z, rfl, hp, by rw [ht]; exact R⟩, S.F ht⟩) S.2.2 dg F.2.2.2.2.2.1
theorem ex_widen {c2 s2 : Nat} (h1 : cs ≤ c2) (h2 : sl ≤ s2) (k1 : ex G l X Q d mc ms c2 s2 cc own nL ret h z pc lv st) : ex G l X Q d mc ms cs sl cc own nL ret h z pc lv st := fun H locs ls F R S L => W.widen h1 h2 (k1 H locs ls F R S L)
theorem ex_lv {lv2 : List (Nat × Value)} (ks : List Nat) (hl : lv_pick lv ks = lv2) (k1 : ex G l X Q d mc ms cs sl cc own nL ret h z pc lv2 st) : ex G l X Q d mc ms cs sl cc own nL ret h z pc lv st := fun H locs ls F R S L => k1 H locs ls F R S (lv_sub L ks hl)
/-- a heap that says less -/
theorem ex_h {h2 : HP} (hh : ∀ a e, h2 a = some e → h a = some e) (k1 : ex G l X Q d mc ms cs sl cc own nL ret h2 z pc lv st) : ex G l X Q d mc ms cs sl cc own nL ret h z pc lv st := fun H locs ls F R S L => k1 H locs ls F ⟨R.1, R.2.1, fun a e q => R.2.2 a e (hh a e q)⟩ S L
end EC
