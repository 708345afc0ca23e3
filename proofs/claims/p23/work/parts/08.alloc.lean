section EB
variable {G : GG} {l : Launch} {X : CT} {Q : State → Prop} {d mc ms cs sl : Nat} {cc : ByteArray} {own : String} {nL : Nat} {ret : Option FieldType} {h : HP} {z pc : Nat} {lv : List (Nat × Value)} {st : List Value}
theorem ex_newaI {n : Nat} (hw : Cond.arrayClass .int ∈ TW) (hn : n < 100000) (hc : cs + 1 ≤ mc) (hs : sl + n ≤ ms) (dg : decode cc pc = .ok (.newarray .int, 2)) (k1 : ex G l X Q d mc ms (cs + 1) (sl + n) cc own nL ret (hu h z (aA G 0 n (fun _ => 0))) (z + 1) (pc + 2) lv (.ref z :: st)) : ex G l X Q d mc ms cs sl cc own nL ret h z pc lv (.int (nI n) :: st) := by
  intro H locs ls F R S L
  have hb : n * componentBytes (newarray.typeOf .int) ≤ 536870912 := by
    show n * 4 ≤ _
    omega
  refine va_newaK (atype := .int) F.1 F.2.1 (F.2.2.2.2.1 _ hw) rfl dg rfl (nI_pos (by omega)) (nI_clamp (by omega)) hb hc hs R.1 fun H1 cA e1 z1 o1 hAr hNm => ?_
  obtain rfl : cA = G.2.1 0 := Option.some.inj (hNm.symm.trans (F.2.2.2.2.2.2.2.1.2 0 _ rfl).2)
  exact k1 H1 locs ls F (R.new z1 o1 e1) (vS_new S (by rw [R.1]; exact z1) (fun q hq => o1 q (by rw [← R.1]; exact hq))) L
theorem ex_newaC {n : Nat} (hw : Cond.arrayClass .char ∈ TW) (hn : n < 100000) (hc : cs + 1 ≤ mc) (hs : sl + n ≤ ms) (dg : decode cc pc = .ok (.newarray .char, 2)) (k1 : ex G l X Q d mc ms (cs + 1) (sl + n) cc own nL ret (hu h z (aA G 1 n (fun _ => 0))) (z + 1) (pc + 2) lv (.ref z :: st)) : ex G l X Q d mc ms cs sl cc own nL ret h z pc lv (.int (nI n) :: st) := by
  intro H locs ls F R S L
  have hb : n * componentBytes (newarray.typeOf .char) ≤ 536870912 := by
    show n * 2 ≤ _
    omega
  refine va_newaK (atype := .char) F.1 F.2.1 (F.2.2.2.2.1 _ hw) rfl dg rfl (nI_pos (by omega)) (nI_clamp (by omega)) hb hc hs R.1 fun H1 cA e1 z1 o1 hAr hNm => ?_
  obtain rfl : cA = G.2.1 1 := Option.some.inj (hNm.symm.trans (F.2.2.2.2.2.2.2.1.2 1 _ rfl).2)
  exact k1 H1 locs ls F (R.new z1 o1 e1) (vS_new S (by rw [R.1]; exact z1) (fun q hq => o1 q (by rw [← R.1]; exact hq))) L
theorem ex_anew {idx t n : Nat} {C : String} (ht : (tyG G)[t]? = some (G.2.1 t, .object C)) (hw : Cond.classLink own idx C ∈ TW) (hC : C = RX2 ∨ C = RX3) (hn : n < 100000) (hc : cs + 1 ≤ mc) (hs : sl + n ≤ ms) (dg : decode cc pc = .ok (.anewarray idx, 3)) (k1 : ex G l X Q d mc ms (cs + 1) (sl + n) cc own nL ret (hu h z (aQ G t n (fun _ => none))) (z + 1) (pc + 3) lv (.ref z :: st)) : ex G l X Q d mc ms cs sl cc own nL ret h z pc lv (.int (nI n) :: st) := by
  intro H locs ls F R S L
  have hAO : va_AO C X.2.2.1 := by
    rcases hC with rfl | rfl
    · exact F.2.2.2.2.2.2.2.2.2.1
    · exact F.2.2.2.2.2.2.2.2.2.2.1
  have hcl : (nI n).toNatClampNeg = n := nI_clamp (by omega)
  refine W.anew F.1 F.2.1 F.2.2.2.1 (F.2.2.2.2.1 _ hw) (va_AO.use hAO) rfl dg rfl (nI_pos (by omega)) (by rw [hcl]; omega) hc (by rw [hcl]; exact hs) fun cA kA comp f1 f2 f3 f4 => ?_
  rw [hcl]
  obtain ⟨kA', comp', -, -, -, g4⟩ := (F.2.2.2.2.2.2.2.1.2 t _ ht).2
  obtain rfl : cA = G.2.1 t := Option.some.inj (f1.symm.trans g4)
  have hz : H.size = z := R.1
  rw [hz]
  refine k1 _ locs ls F (R.new (by rw [Array.size_push, hz]) (fun q hq => by rw [Array.getElem?_push, if_neg (by omega)]) ?_) (vS_new S (by rw [Array.size_push]) (fun q hq => by rw [Array.getElem?_push, if_neg (by omega)])) L
  show (H.push _)[z]? = some (vp_cell _ _)
  rw [← hz, Array.getElem?_push_size, vp_cell_q, arrV_new]
  rfl
theorem ex_cast0 {idx t n a : Nat} {f : Nat → Int32} (hw : Cond.classLink own idx "[I" ∈ TW) (he : h a = some (aA G 0 n f)) (dg : decode cc pc = .ok (.checkcast idx, 3)) (k1 : ex G l X Q d mc ms cs sl cc own nL ret h z (pc + 3) lv (.ref a :: st)) : ex G l X Q d mc ms cs sl cc own nL ret h z pc lv (.ref a :: st) := by
  intro H locs ls F R S L
  exact va_castA (D := G.1) (cl := vwCl) (ws := [(a, aA G 0 n f)]) F.1 F.2.1 F.2.2.2.1 (F.2.2.2.2.1 _ hw) (R.P he) 0 rfl (F.2.2.2.2.2.2.2.1.2 0 _ rfl).2 dg (k1 H locs ls F R S L)
abbrev yClone (c : String) : MethodName := ⟨c, "clone", "()Ljava/lang/Object;"⟩
theorem ex_clone {idx k : Nat} (hk : k < 3) (w1 : Cond.methodLink own idx (yClone "[I") ∈ TW) (w2 : Cond.sameMethod "[I" "java/lang/Object" "clone" "()Ljava/lang/Object;" ∈ TW) (w3 : Cond.native (yClone "java/lang/Object") ∈ TW) (w4 : Cond.instanceMethod (yClone "java/lang/Object") ∈ TW) (w5 : Cond.selects "[I" (yClone "[I") (yClone "java/lang/Object") ∈ TW)
    (hd : 1 ≤ d) (hst : (st.map fun v => v.category).sum ≤ 8) (hc : cs + 1 ≤ mc) (hs : sl + 6 ≤ ms) (dg : decode cc pc = .ok (.invokevirtual idx, 3)) (k1 : ex G l X Q d mc ms (cs + 1) (sl + 6) cc own nL ret (hu h z (aA G 0 6 (stV k))) (z + 1) (pc + 3) lv (.ref z :: st)) : ex G l X Q d mc ms cs sl cc own nL ret h z pc lv (.ref (G.2.2.2 k) :: st) := by
  intro H locs ls F R S L T hT XX
  have hts := F.2.2.2.2.1
  have hK := F.2.2.2.2.2.2.2.1
  obtain ⟨cell, s1, s2, s3, s4, s5, s6, s7⟩ := (F.2.2.2.2.2.2.2.2.1 k hk).2
  have hcl := F.2.2.2.2.2.2.2.2.2.2.2.1
  have hnm : X.2.2.1.vm.findClass "[I" = some (G.2.1 0) := (hK.2 0 _ rfl).2
  obtain ⟨c0, t0', f1, f2, f3⟩ := Cond.castable_spec (va_Nw.use (A := X.2.2.2.2.1) rfl hcl)
  cases hnm.symm.trans f1
  have hcell : H[G.2.2.2 k]? = some cell := by rw [S.2.1 _ (Array.getElem?_eq_some_iff.mp s1).1 s7]; exact s1
  obtain ⟨hobj, kS, hkS, compS, hkindS⟩ := s2
  obtain ⟨-, kA, hkA, comp, hkind⟩ := State.isArrayOf_alike XX.warmed.alike ((hK.2 0 _ rfl).1 0 (fun _ => .null))
  have hvm : cell = ({ cls := cell.cls, slots := cell.slots, vm := cell.vm, monitor := cell.monitor } : Cell) ∨ True := Or.inr trivial
  obtain ⟨vm', X', stp⟩ := XX.cloneArray F.1 F.2.2.2.1 (hts _ w1) (hts _ w2) (hts _ w3) (hts _ w4) (hts _ w5) (a := G.2.2.2 k) (cell := cell) (by rw [hT]; exact hcell) hobj s3 (by rw [s6]; exact hnm) f2 (by rw [s6]; exact f3)
    (fun i v hv => by
      have hi : i < 6 := by rw [← s4]; exact (Array.getElem?_eq_some_iff.mp hv).1
      rw [s5 i hi] at hv
      cases hv
      rw [s6]
      have hk' : T.vm.classes[G.2.1 0]? = some kA := hkA
      simp [State.fitsSlot, State.slotType?, hk', hkind, fits])
    (g := F0 X.2.2.2.1 pc ls (.ref (G.2.2.2 k) :: st)) rfl (by show ls.size = _; rw [L.1]; exact F.2.2.1.symm) rfl (by rw [F.2.1]; exact dg) hd (by show 2 * 0 + _ + 14 ≤ 36 * d; omega) hc (by rw [s4]; exact hs) (hloader := Vm.clonesLoader_of_array hkS hkindS)
  have hce : ({ cls := cell.cls, slots := cell.slots } : Cell) = vp_cell (G.2.1 0) (6, .inl (stV k)) := by
    have e : cell.slots = (arrV (G.2.1 0) 6 (fun j => .int (stV k j))).slots := by
      apply Array.ext_getElem?
      intro i
      by_cases hi : i < 6
      · rw [s5 i hi, arrV_read _ _ hi]
      · rw [Array.getElem?_eq_none (by omega), Array.getElem?_eq_none (by rw [arrV_size]; omega)]
    rw [e, s6]
    rfl
  rw [hce, s4] at X'
  rw [hce, hT] at stp
  have hz : H.size = z := R.1
  obtain ⟨t2, a1, b1⟩ := k1 (H.push (vp_cell (G.2.1 0) (6, .inl (stV k)))) locs ls F (R.new (by rw [Array.size_push, hz]) (fun q hq => by rw [Array.getElem?_push, if_neg (by omega)]) (by show (H.push _)[z]? = some (vp_cell _ _); rw [← hz, Array.getElem?_push_size])) (vS_new S (by rw [Array.size_push]) (fun q hq => by rw [Array.getElem?_push, if_neg (by omega)])) L
    ((T.setVm vm').pushCell (vp_cell (G.2.1 0) (6, .inl (stV k)))) (by rw [← hT]; rfl) X'
  refine ⟨t2, stp t2 ?_, b1⟩
  rw [hz]
  exact a1
theorem ex_objInit {idx a : Nat} (w1 : Cond.methodLink own idx objectInit ∈ TW) (w2 : Cond.instanceMethod objectInit ∈ TW) (w3 : Cond.code objectInit ⟨#[0xb1]⟩ 1 none ∈ TW) (hd : 1 ≤ d) (hst : (st.map fun v => v.category).sum ≤ 8) (dg : decode cc pc = .ok (.invokespecial idx, 3)) (k1 : ex G l X Q d mc ms cs sl cc own nL ret h z (pc + 3) lv st) : ex G l X Q d mc ms cs sl cc own nL ret h z pc lv (.ref a :: st) := by
  intro H locs ls F R S L
  have hts := F.2.2.2.2.1
  exact W.objInit F.1 F.2.1 F.2.2.2.1 (hts _ w1) (hts _ w2) (hts _ w3) rfl (by show ls.size = _; rw [L.1]; exact F.2.2.1.symm) rfl dg hd (by show 2 * 0 + _ + 12 ≤ 36 * d; omega) (k1 H locs ls F R S L)
/-- System.arraycopy between two rows of ints, from the start -/
theorem ex_copy {idx a0 a n n0 n1 : Nat} {f g : Nat → Int32} (w1 : Cond.methodLink own idx arraycopyName ∈ TW) (w2 : Cond.native arraycopyName ∈ TW) (w3 : Cond.static arraycopyName ∈ TW) (w4 : Cond.initialized "java/lang/System" ∈ TW) (he0 : h a0 = some (aA G 0 n0 f)) (he : h a = some (aA G 0 n1 g)) (h0 : n ≤ n0) (h1 : n ≤ n1) (hn : n < 100000) (hd : 1 ≤ d) (hst : (st.map fun v => v.category).sum ≤ 8) (dg : decode cc pc = .ok (.invokestatic idx, 3)) (k1 : ex G l X Q d mc ms cs sl cc own nL ret (hu h a (aA G 0 n1 (va_cpy f g 0 0 n))) z (pc + 3) lv st) : ex G l X Q d mc ms cs sl cc own nL ret h z pc lv (.int (nI n) :: .int (nI 0) :: .ref a :: .int (nI 0) :: .ref a0 :: st) := by
  intro H locs ls F R S L T hT XX
  have hts := F.2.2.2.2.1
  have hK := F.2.2.2.2.2.2.2.1
  have hc0 : H[a0]? = some (vp_cell (G.2.1 0) (n0, .inl f)) := (R.2.2 _ _ he0).2
  have hc1 : H[a]? = some (vp_cell (G.2.1 0) (n1, .inl g)) := (R.2.2 _ _ he).2
  have z0 : (nI 0).toNatClampNeg = 0 := nI_clamp (by decide)
  have zn : (nI n).toNatClampNeg = n := nI_clamp (by omega)
  have hw : nativeFrameWords "java/lang/System" "arraycopy" 5 + 11 ≤ 28 := by decide +kernel
  obtain ⟨-, k0, hk0, cm0, hkk0⟩ := (hK.2 0 _ rfl).1 n0 (fun j => .int (f j))
  obtain ⟨vm', X', stp⟩ := XX.arraycopy F.1 F.2.2.2.1 (hts _ w1) (hts _ w2) (hts _ w3) (hts _ w4) (src := a0) (dst := a) (cs := vp_cell (G.2.1 0) (n0, .inl f)) (cd := vp_cell (G.2.1 0) (n1, .inl g)) (srcPos := nI 0) (destPos := nI 0) (n := nI n) (by rw [hT]; exact hc0) (by rw [hT]; exact hc1)
    (fun _ h => by cases h) (fun _ h => by cases h) (fun h => by cases h) (fun h => by cases h) hk0 hk0 hkk0 hkk0 (by simp [refKind]) (nI_pos (by decide)) (nI_pos (by decide)) (nI_pos (by omega))
    (by rw [nI_toInt (by decide), nI_toInt (by omega)]; show ¬ _ > ((arrV (G.2.1 0) n0 (fun j => .int (f j))).slots.size : Int); rw [arrV_size]; omega)
    (by rw [nI_toInt (by decide), nI_toInt (by omega)]; show ¬ _ > ((arrV (G.2.1 0) n1 (fun j => .int (g j))).slots.size : Int); rw [arrV_size]; omega)
    (fun vm₁ _ i hi => by
      rw [zn] at hi
      have e : (vp_cell (G.2.1 0) (n0, .inl f)).slots.getD ((nI 0).toNatClampNeg + i) .null = .int (f ((nI 0).toNatClampNeg + i)) := by
        show (arrV (G.2.1 0) n0 (fun j => .int (f j))).slots.getD _ _ = _
        rw [Array.getD_eq_getD_getElem?, arrV_read _ _ (by rw [z0]; omega)]
        rfl
      refine ⟨?_, ?_⟩
      · rw [e]
        rfl
      · rw [e]
        exact trivial)
    (g := F0 X.2.2.2.1 pc ls (.int (nI n) :: .int (nI 0) :: .ref a :: .int (nI 0) :: .ref a0 :: st)) rfl (by show ls.size = _; rw [L.1]; exact F.2.2.1.symm) (rest := st) rfl (by rw [F.2.1]; exact dg) hd (by show 2 * 0 + _ + (nativeFrameWords "java/lang/System" "arraycopy" 5 + 11) ≤ 36 * d; omega)
  have e1 : copied (vp_cell (G.2.1 0) (n0, .inl f)) (vp_cell (G.2.1 0) (n1, .inl g)) (nI 0) (nI 0) (nI n) = vp_cell (G.2.1 0) (n1, .inl (va_cpy f g (nI 0).toNatClampNeg (nI 0).toNatClampNeg (nI n).toNatClampNeg)) := va_copied (fun z => .int z) _ _ f g (by rw [z0, zn]; omega)
  rw [z0, zn] at e1
  rw [e1] at X' stp
  have hl : a < H.size := (Array.getElem?_eq_some_iff.mp hc1).1
  have hheap : ((T.setVm vm').setCell a (vp_cell (G.2.1 0) (n1, .inl (va_cpy f g 0 0 n)))).heap = H.setIfInBounds a (vp_cell (G.2.1 0) (n1, .inl (va_cpy f g 0 0 n))) := by rw [← hT]; rfl
  have oq : ∀ q : Nat, q ≠ a → (H.setIfInBounds a (vp_cell (G.2.1 0) (n1, .inl (va_cpy f g 0 0 n))))[q]? = H[q]? := fun q hq => by simp [Array.getElem?_setIfInBounds, Ne.symm hq]
  obtain ⟨t, a1, b1⟩ := k1 _ _ ls F (R.put he (by simp) oq (show (H.setIfInBounds a _)[a]? = some (vp_cell _ _) by simp [Array.getElem?_setIfInBounds, hl])) ⟨by simp; exact S.1, fun q g1 g2 => by
      rw [oq q (fun e => g2 (by rw [e]; exact (R.2.2 _ _ he).1))]
      exact S.2.1 q g1 g2, fun q hq => by
      rcases List.mem_append.mp hq with h | h
      · exact S.2.2 q h
      · obtain ⟨z, -, hz⟩ := List.mem_map.mp h
        rw [← hz]
        exact (R.2.2 _ _ he).1⟩ L _ hheap X'
  exact ⟨t, stp t a1, b1⟩
end EB
