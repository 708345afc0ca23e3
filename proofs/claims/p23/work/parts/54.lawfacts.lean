/-! the script, for a method that reads it; and the law's first and last questions -/
def PX (G : GG) (as : List Value) (h : HP) (z b L : Nat) (xs : Nat → Int32) : Array Value → State → Prop := fun v U => PC G as h z v U ∧ va_X b L xs U U.heap ∧ b < U.heap.size ∧ ¬ fr G b
def CtX (G : GG) (l : Launch) (d mc ms : Nat) (y : MethodName) (cc : ByteArray) (nL : Nat) (ret : Option FieldType) (as : List Value) (h : HP) (z b L : Nat) (xs : Nat → Int32) (post : Option Value → HP → Nat → Prop) : Prop :=
  Met l y (Cond.code y cc nL ret :: TW) (rmx d mc ms) (PX G as h z b L xs) (QC G post) mc ms (fr G)
theorem CtX.intro {G : GG} {l : Launch} {d mc ms : Nat} {y : MethodName} {cc : ByteArray} {nL : Nat} {ret : Option FieldType} {as : List Value} {h : HP} {z b L : Nat} {xs : Nat → Int32} {post : Option Value → HP → Nat → Prop} {lv : List (Nat × Value)} (hy : plainName y.cls = true) (hn : (lg_sl as).length ≤ nL) (hlv : lv_args 0 as = lv)
    (body : ∀ (X : CT) (Q : State → Prop), RQ G X Q mc ms post → va_X b L xs X.2.2.1 X.2.2.1.heap → b < X.2.2.1.heap.size → ¬ fr G b → ex G l X Q d mc ms 0 0 cc y.cls nL ret h z 0 lv []) : CtX G l d mc ms y cc nL ret as h z b L xs post := by
  refine Met.ofW (cc := cc) (maxL := nL) (ret := ret) hy rfl ?_
  intro p e s m args below meth c s₁ B hml hv
  obtain ⟨⟨rfl, hR, hKK⟩, hX1, hX2, hX3⟩ := hv
  have hts0 := atoms_spec (ws := Cond.code y cc nL ret :: TW) B.pre
  have hown : s.vm.findClass y.cls = some m.cls := findClass_of_methodNamed B.named
  have hl := lv_entry as (n := nL) hn
  rw [hlv] at hl
  rw [lg_entry_eq]
  exact body (p, e, s, m, as.toArray, below, meth, c) _ rfl hX1 hX2 hX3 s.heap [] _ ⟨B.exec, B.bytes, hml, hown, fun w hw => hts0 w (List.mem_cons_of_mem _ hw), B.notSynchronized, B.returns, hKK⟩ hR va_S.rf hl
theorem PX.blind {G : GG} {as : List Value} {h : HP} {z b L : Nat} {xs : Nat → Int32} : FrameBlind (PX G as h z b L xs) := fun a U g mk q => ⟨PC.blind a U g mk q.1, va_X.moved (Vm.Alike.refl U.vm) q.2.1, q.2.2⟩
theorem PX.pre {G : GG} {as : List Value} {h : HP} {z b L : Nat} {xs : Nat → Int32} {s : State} {H : Heap} {locs : List Loc} (K : KK G s s.heap) (S : va_S (fr G) s.heap H locs) (R : Rel G h z H) (hX : va_X b L xs s s.heap) (hbl : b < s.heap.size) (hbA : ¬ fr G b) : ∀ U : State, U.heap = H → s.WarmedH U.vm → PX G as h z b L xs as.toArray U := fun U hU hW => ⟨PC.pre K S R U hU hW, by rw [hU]; exact va_X.moved hW.alike (hX.kept (S.2.1 b hbl hbA)), by rw [hU]; exact Nat.lt_of_lt_of_le hbl S.1, hbA⟩
section ELx
variable {G : GG} {l : Launch} {X : CT} {Q : State → Prop} {d mc ms cs sl : Nat} {cc : ByteArray} {own : String} {nL : Nat} {ret : Option FieldType} {h : HP} {z pc : Nat} {lv : List (Nat × Value)} {st st0 : List Value} {b L : Nat} {xs : Nat → Int32}
theorem ex_callX {idx n d1 ny : Nat} {y : MethodName} {cy : ByteArray} {ry : Option FieldType} {As : List Value} {v : Value} (hX : va_X b L xs X.2.2.1 X.2.2.1.heap) (hbl : b < X.2.2.1.heap.size) (hbA : ¬ fr G b) (V : VS own idx y cy ny ry n) (K : CtX G l d1 0 0 y cy ny ry As h z b L xs (p0 v h z)) (hn : As.length = n) (hd : d1 + 1 ≤ d) (hst : (st.map fun v => v.category).sum ≤ 8) (hc : cs ≤ mc) (hs : sl ≤ ms) (stk : st0 = As.reverse ++ st) (dg : decode cc pc = .ok (.invokestatic idx, 3))
    (k1 : ex G l X Q d mc ms cs sl cc own nL ret h z (pc + 3) lv (v :: st)) : ex G l X Q d mc ms cs sl cc own nL ret h z pc lv st0 := by
  intro H locs ls F R S L
  obtain ⟨⟨v1, v2, v3, v4, v5, v6, v7⟩, v8⟩ := V
  have hts := F.2.2.2.2.1
  have hcw : CallB (rmx d mc ms) X.2.2.1 X.2.2.2.2.1 own idx y cy ny ry (Cond.code y cy ny ry :: TW) (rmx d1 0 0) 0 0 n ∧ (Cond.static y).before X.2.2.2.2.1 X.2.2.1 = true :=
    ⟨callB_of n hts (tw_cons v3) rfl rfl rfl (hts _ v2) (hts _ v1) ⟨v4, v5, v6⟩ ⟨by show d1 + 1 ≤ d; exact hd, by show 8 + (ny + 11) + 36 * d1 ≤ 36 * d; omega⟩, hts _ v8⟩
  have hr := va_runS (p := X.1) (l := l) (e := X.2.1) (below := X.2.2.2.2.2.1) (meth := X.2.2.2.2.2.2.1) (H := H) (locs := locs) (cells := cs) (slots := sl) (g := F0 X.2.2.2.1 pc ls st0) (rest := st) (As := As) (nL := nL) (Ts := TW) (cc := cc) ⟨F.1, F.2.1, F.2.2.1, F.2.2.2.1, hts⟩ K hcw ⟨PX.blind, PX.pre F.2.2.2.2.2.2.2 S R hX hbl hbA⟩ rfl hn L.1 stk (lv_room hst) dg ⟨hc, hs⟩
  exact ex_behind F R S L hr (fun r h1 z1 hp => by obtain ⟨rfl, rfl, rfl⟩ := hp; exact k1)
end ELx
/-- an entry of the script, or what stands for it behind its end -/
def clI (xs : Nat → Int32) (L k : Nat) : Int32 := if k < L then xs k else nI (7919 * (k + 3) * (k + 11))
theorem dayR_0 {A : AS} (h : A.1 = 0) : dayR A = none := by
  cases hr : dayR A with
  | none => rfl
  | some j =>
    obtain ⟨-, h2⟩ := dayR_s hr
    rw [h] at h2
    cases h2
theorem X_next_0 {x : CX} (h : x.1.1 = 0) : X_next x (nI 0) = -6 := by
  have e : X_next x (nI 0) = nxG x.1 (nI 0) 500 0 := if_pos (Or.inl rfl)
  rw [e]
  rcases nx_gen (A := x.1) 500 0 (fun f hf => absurd hf (Nat.not_lt_zero _)) with ⟨j, e, he, g1, -⟩ | ⟨-, g, -⟩
  · rw [dayR_0 (by rw [itA_1, h])] at g1
    cases g1
  · exact g
theorem bad_add1 {x : CX} : X_add x (nI 0) (nI 1) = (-2, x) := if_pos (Or.inl (by decide))
theorem bad_add2 {x : CX} : X_add x (nI 1) (nI 101) = (-2, x) := if_pos (Or.inr (Or.inr (Or.inr (by decide))))
theorem bad_give {x : CX} : X_give x (nI 0) = (-2, x) := if_pos (Or.inl (by decide))
theorem bad_pass {x : CX} : X_pass x (nI 100) = (-2, x) := if_pos (Or.inr (by decide))
theorem bad_set1 {x : CX} : X_set x (nI 3) (nI 4) = (-2, x) := if_neg (fun c => c.2 (Or.inl (by rw [ixn (by omega)]; decide)))
theorem bad_set2 {x : CX} : X_set x (nI 6) (nI 0) = (-2, x) := if_neg (fun c => absurd c.1.2 (by decide))
theorem bad_ifp {x : CX} : X_ifPassed x (nI 501) (nI 0) = -2 := if_pos (Or.inr (Or.inl (by decide)))
theorem bad_next {x : CX} : X_next x (nI 2) = -2 := if_neg (by decide)
theorem bad_count {x : CX} : X_count x (nI 21) = -2 := if_neg (fun c => absurd c.2 (by decide))
theorem x0_nV : nV x0.2 := fun i B e => by cases e
