/-! rows for the law -/
def VS2 (own : String) (idx : Nat) (y : MethodName) (cy : ByteArray) (ny : Nat) (ry : Option FieldType) (n : Nat) : Prop := (Cond.methodLink own idx y ∈ TW ∧ Cond.initialized y.cls ∈ TW ∧ Cond.code y cy ny ry ∈ TW ∧ y.cls ≠ "java/lang/invoke/MethodHandle" ∧ y.cls ≠ "java/lang/invoke/VarHandle" ∧ (parseMethodDescriptor y.desc).map (fun d => d.parameters.length) = some n ∧ ny ≤ 50) ∧ Cond.static y ∈ TW
theorem vw_L_78 : VS2 RL 78 yL_isDay cL_isDay 18 (some .boolean) 1 := ⟨⟨(tw_t 403 (by decide +kernel) (by decide +kernel)), (tw_t 0 (by decide +kernel) (by decide +kernel)), (tw_t 405 (by decide +kernel) (by decide +kernel)), (by decide +kernel), (by decide +kernel), (by decide +kernel), by decide⟩, (tw_t 404 (by decide +kernel) (by decide +kernel))⟩
abbrev RX : Type := Nat × (Nat → AS) × (Nat → Option AS) × Nat × (Nat → Nat)
theorem X_count_k {x : CX} {k : Nat} (h : k < 21) : X_count x (nI k) = cntN x k := by
  unfold X_count
  rw [if_pos (inR_nI h (by decide)), ixn (by omega)]
theorem X_person_k {x : CX} {j k : Nat} (hj : j < x.1.1) (n8 : x.1.1 ≤ 8) (h : k < 9) : X_person x (nI j) (nI k) = perN x.1 j k := by
  unfold X_person
  rw [if_pos (inR_nI hj (by omega)), if_pos (inR_nI h (by decide)), ixn (by omega), ixn (by omega)]
theorem X_person_n {x : CX} {j : Nat} {w : Int32} (hj : x.1.1 ≤ j) (h9 : j < 2 ^ 31) : X_person x (nI j) w = -1 := by
  unfold X_person
  rw [if_neg]
  intro c
  have := (nI_ltI h9 (by omega)).mp c.2
  omega
section ELw
variable {G : GG} {l : Launch} {X : CT} {Q : State → Prop} {d mc ms cs sl : Nat} {cc : ByteArray} {own : String} {nL : Nat} {ret : Option FieldType} {h : HP} {z pc : Nat} {lv : List (Nat × Value)} {st st0 : List Value} {b L : Nat} {xs : Nat → Int32}
theorem ex_sld {j : Nat} {x : Int32} (hX : va_X b L xs X.2.2.1 X.2.2.1.heap) (hbl : b < X.2.2.1.heap.size) (hbA : ¬ fr G b) (hx : x = nI j) (hj : j < L) (hn : L < 2 ^ 31) (dg : decode cc pc = .ok (.iaload, 1)) (k1 : ex G l X Q d mc ms cs sl cc own nL ret h z (pc + 1) lv (.int (xs j) :: st)) : ex G l X Q d mc ms cs sl cc own nL ret h z pc lv (.int x :: .ref b :: st) := by
  intro H locs ls F R S L0
  subst hx
  refine va_sld F.1 F.2.1 hX hbl hbA S (vp_in_nI hj hn) dg ?_
  rw [nI_c hj hn]
  exact k1 H locs ls F R S L0
theorem ex_slen (hX : va_X b L xs X.2.2.1 X.2.2.1.heap) (hbl : b < X.2.2.1.heap.size) (hbA : ¬ fr G b) (dg : decode cc pc = .ok (.arraylength, 1)) (k1 : ex G l X Q d mc ms cs sl cc own nL ret h z (pc + 1) lv (.int (nI L) :: st)) : ex G l X Q d mc ms cs sl cc own nL ret h z pc lv (.ref b :: st) := by
  intro H locs ls F R S L0
  exact va_slen F.1 F.2.1 hX hbl hbA S dg (k1 H locs ls F R S L0)
theorem ex_ishr {x y : Int32} (dg : decode cc pc = .ok (.ishr, 1)) (k1 : ∀ v : Int32, v = x >>> (y &&& 31) → ex G l X Q d mc ms cs sl cc own nL ret h z (pc + 1) lv (.int v :: st)) : ex G l X Q d mc ms cs sl cc own nL ret h z pc lv (.int y :: .int x :: st) :=
  fun H locs ls F R S L => lv_ishr F.1 F.2.1 dg (k1 _ rfl H locs ls F R S L)
theorem ex_callS2 {idx n d1 m1 s1 ny : Nat} {y : MethodName} {cy : ByteArray} {ry : Option FieldType} {As : List Value} {post : Option Value → HP → Nat → Prop} (V : VS2 own idx y cy ny ry n) (K : Ct G l d1 m1 s1 y cy ny ry As h z post) (hn : As.length = n) (hd : d1 + 2 ≤ d) (hst : (st.map fun v => v.category).sum ≤ 8) (hc : cs + m1 ≤ mc) (hs : sl + s1 ≤ ms) (stk : st0 = As.reverse ++ st) (dg : decode cc pc = .ok (.invokestatic idx, 3))
    (k1 : ∀ (r : Option Value) (h1 : HP) (z1 : Nat), post r h1 z1 → ex G l X Q d mc ms (cs + m1) (sl + s1) cc own nL ret h1 z1 (pc + 3) lv (r.toList ++ st)) : ex G l X Q d mc ms cs sl cc own nL ret h z pc lv st0 := by
  intro H locs ls F R S L
  obtain ⟨⟨v1, v2, v3, v4, v5, v6, v7⟩, v8⟩ := V
  have hts := F.2.2.2.2.1
  have hcw : CallB (rmx d mc ms) X.2.2.1 X.2.2.2.2.1 own idx y cy ny ry (Cond.code y cy ny ry :: TW) (rmx d1 m1 s1) m1 s1 n ∧ (Cond.static y).before X.2.2.2.2.1 X.2.2.1 = true :=
    ⟨callB_of n hts (tw_cons v3) rfl rfl rfl (hts _ v2) (hts _ v1) ⟨v4, v5, v6⟩ ⟨by show d1 + 1 ≤ d; omega, by show 8 + (ny + 11) + 36 * d1 ≤ 36 * d; omega⟩, hts _ v8⟩
  have hr := va_runS (p := X.1) (l := l) (e := X.2.1) (below := X.2.2.2.2.2.1) (meth := X.2.2.2.2.2.2.1) (H := H) (locs := locs) (cells := cs) (slots := sl) (g := F0 X.2.2.2.1 pc ls st0) (rest := st) (As := As) (nL := nL) (Ts := TW) (cc := cc) ⟨F.1, F.2.1, F.2.2.1, F.2.2.2.1, hts⟩ K hcw ⟨PC.blind, PC.pre F.2.2.2.2.2.2.2 S R⟩ rfl hn L.1 stk (lv_room hst) dg ⟨hc, hs⟩
  exact ex_behind F R S L hr k1
/-- a call of the object's, by its contract -/
theorem ex_ch {idx m d1 ny : Nat} {y : MethodName} {cy : ByteArray} {As : List Value} {x x2 : CX} {p : Int32 × CX} {v : Int32} (V : VV own idx y cy ny (some .int) m) (hC : y.cls = RX4) (S : PP G h z b x) (K : Ct G l d1 0 0 y cy ny (some .int) (.ref b :: As) h z (pX G p h z b)) (hv : p = (v, x2)) (hn : As.length = m) (hd : d1 + 1 ≤ d) (hst : (st.map fun v => v.category).sum ≤ 8) (hc : cs ≤ mc) (hs : sl ≤ ms) (stk : st0 = As.reverse ++ .ref b :: st) (dg : decode cc pc = .ok (.invokevirtual idx, 3)) (k1 : ∀ h : HP, PP G h z b x2 → ex G l X Q d mc ms cs sl cc own nL ret h z (pc + 3) lv (.int v :: st)) : ex G l X Q d mc ms cs sl cc own nL ret h z pc lv st0 := by
  subst hv
  refine ex_callV V (ci := 4) (by rw [hC]; rfl) K S.ob hn hd hst hc hs stk dg (fun r h1 z1 hp => ?_)
  obtain ⟨rfl, rfl, S1⟩ := hp
  exact k1 h1 S1.1
theorem ex_cnt {idx k : Nat} {v : Int32} {x : CX} (V : VV own idx yX4_count cX4_count 2 (some .int) 1) (S : PP G h z b x) (wf : wfA x.1) (hk : k < 21) (hv : cntN x k = v) (hd : 3 ≤ d) (hst : (st.map fun v => v.category).sum ≤ 8) (hc : cs ≤ mc) (hs : sl ≤ ms) (dg : decode cc pc = .ok (.invokevirtual idx, 3)) (k1 : ∀ h : HP, PP G h z b x → ex G l X Q d mc ms cs sl cc own nL ret h z (pc + 3) lv (.int v :: st)) : ex G l X Q d mc ms cs sl cc own nL ret h z pc lv (.int (nI k) :: .ref b :: st) := by
  obtain ⟨⟨n, g, t, u, q⟩, kk, LL, VV, len, c⟩ := x
  refine ex_ch (As := [.int (nI k)]) (d1 := 2) V rfl S (c_count S wf.1 wf.2.1) ?_ rfl hd hst hc hs rfl dg k1
  rw [X_count_k hk, hv]
theorem ex_per {idx j k : Nat} {v : Int32} {x : CX} (V : VV own idx yX4_person cX4_person 4 (some .int) 2) (S : PP G h z b x) (wf : wfA x.1) (hj : j < x.1.1) (hk : k < 9) (hv : perN x.1 j k = v) (hd : 3 ≤ d) (hst : (st.map fun v => v.category).sum ≤ 8) (hc : cs ≤ mc) (hs : sl ≤ ms) (dg : decode cc pc = .ok (.invokevirtual idx, 3)) (k1 : ∀ h : HP, PP G h z b x → ex G l X Q d mc ms cs sl cc own nL ret h z (pc + 3) lv (.int v :: st)) : ex G l X Q d mc ms cs sl cc own nL ret h z pc lv (.int (nI k) :: .int (nI j) :: .ref b :: st) := by
  obtain ⟨⟨n, g, t, u, q⟩, kk, LL, VV, len, c⟩ := x
  refine ex_ch (As := [.int (nI j), .int (nI k)]) (d1 := 2) V rfl S (c_person S wf.1 wf.2.1) ?_ rfl hd hst hc hs rfl dg k1
  rw [X_person_k hj wf.1 hk, hv]
theorem ex_perN {idx j k : Nat} {x : CX} (V : VV own idx yX4_person cX4_person 4 (some .int) 2) (S : PP G h z b x) (wf : wfA x.1) (hj : x.1.1 ≤ j) (h9 : j < 2 ^ 31) (hd : 3 ≤ d) (hst : (st.map fun v => v.category).sum ≤ 8) (hc : cs ≤ mc) (hs : sl ≤ ms) (dg : decode cc pc = .ok (.invokevirtual idx, 3)) (k1 : ∀ h : HP, PP G h z b x → ex G l X Q d mc ms cs sl cc own nL ret h z (pc + 3) lv (.int (-1) :: st)) : ex G l X Q d mc ms cs sl cc own nL ret h z pc lv (.int (nI k) :: .int (nI j) :: .ref b :: st) := by
  obtain ⟨⟨n, g, t, u, q⟩, kk, LL, VV, len, c⟩ := x
  refine ex_ch (As := [.int (nI j), .int (nI k)]) (d1 := 2) V rfl S (c_person S wf.1 wf.2.1) ?_ rfl hd hst hc hs rfl dg k1
  rw [X_person_n hj h9]
end ELw
/-- what a method of the law answers: 1; and what there is then -/
def pL (G : GG) (b z : Nat) (x : CX) : Option Value → HP → Nat → Prop := fun r h1 z1 => r = some (.int (nI 1)) ∧ z1 = z ∧ PP G h1 z b x
/-- the number out of a script's int -/
def loN (v : Int32) (n : Nat) : Nat := (v.toBitVec &&& 2147483647#32).toNat % n
theorem loN_lt {v : Int32} {n : Nat} (h : 0 < n) : loN v n < n := Nat.mod_lt _ h
theorem and7f {v : Int32} : (v.toBitVec &&& 2147483647#32).toNat < 2 ^ 31 ∧ v &&& nI 2147483647 = nI (v.toBitVec &&& 2147483647#32).toNat := by
  refine ⟨?_, ?_⟩
  · rw [BitVec.toNat_and]
    exact Nat.lt_of_le_of_lt Nat.and_le_right (by decide)
  · apply Int32.toBitVec_inj.mp
    rw [Int32.toBitVec_and]
    show _ = BitVec.ofNat 32 _
    rw [BitVec.ofNat_toNat, BitVec.setWidth_eq]
    rfl
theorem nI_modB {a n : Nat} (hn : 0 < n) (ha : a < 2 ^ 31) (hn2 : n < 2 ^ 31) : nI a - nI a / nI n * nI n = nI (a % n) := by
  rw [nI_div hn ha hn2, nI_mul]
  have e2 : nI a = nI (a / n * n) + nI (a % n) := by
    rw [show nI (a / n * n) + nI (a % n) = nI (a / n * n + a % n) from (Int32.ofNat_add _ _).symm, Nat.div_add_mod']
  conv => lhs; lhs; rw [e2]
  rw [Int32.add_comm, Int32.add_sub_cancel]
theorem loN_c {v : Int32} {n : Nat} (hn : 0 < n) (hn2 : n < 2 ^ 31) : (v &&& nI 2147483647) - (v &&& nI 2147483647) / nI n * nI n = nI (loN v n) := by
  rw [and7f.2]
  exact nI_modB hn and7f.1 hn2
