/-! the law: both objects -/
theorem PP.kept2 {G : GG} {h h1 : HP} {z b : Nat} {x : CX} (S : PP G h z b x) (q : ∀ a, (a < b + 94 ∨ b + 94 + 6 ≤ a) → h1 a = h a) : PP G h1 z b x := by
  obtain ⟨s1, ⟨π2, s2⟩, ⟨π3, T, s3⟩, ⟨σ, P, s4, s4'⟩, ⟨r, s5, s5', s5''⟩, s6, s7⟩ := S
  exact ⟨by rw [q _ (by omega)]; exact s1, ⟨π2, s2.kept (fun a g1 g2 => q a (by omega))⟩, ⟨π3, T, s3.kept (fun a g1 g2 => q a (by omega))⟩, ⟨σ, P, s4.kept (fun a g1 g2 => q a (by omega)), s4'⟩, ⟨r, by rw [q _ (by omega)]; exact s5, fun i hi => (s5' i hi).kept (fun a g => q a (by omega)), s5''⟩, s6.kept (fun a g1 g2 => q a (by omega)), s7⟩
theorem MF.mp {G : GG} {h0 h : HP} {m : Nat} {x : CX} (S : MF G h0 h m x) : MP G h m x := S.kept (fun _ _ _ => rfl)
theorem MF.out {G : GG} {h0 h : HP} {m : Nat} {x : CX} (S : MF G h0 h m x) : ∀ a, (a < m ∨ m + 6 ≤ a) → h a = h0 a := by
  obtain ⟨fs, fp, fl, fw, fd, s1, s2⟩ := S
  exact s1.2.2.2.2.2.2
theorem XF.mod {G : GG} {h h1 : HP} {z b : Nat} {x y : CX} (S : XF G h h1 z b y) (M : MP G h (b + 94) x) : MP G h1 (b + 94) x := M.kept (fun a g1 g2 => S.2 a g1 (by omega))
section EL
variable {G : GG} {l : Launch} {X : CT} {Q : State → Prop} {d mc ms cs sl : Nat} {cc : ByteArray} {own : String} {nL : Nat} {ret : Option FieldType} {h : HP} {z pc : Nat} {lv : List (Nat × Value)} {st : List Value} {b L : Nat} {xs : Nat → Int32}
theorem ex_sld {j : Nat} {x : Int32} (hX : va_X b L xs X.2.2.1 X.2.2.1.heap) (hbl : b < X.2.2.1.heap.size) (hbA : ¬ fr G b) (hx : x = nI j) (hj : j < L) (hn : L < 2 ^ 31) (dg : decode cc pc = .ok (.iaload, 1)) (k1 : ex G l X Q d mc ms cs sl cc own nL ret h z (pc + 1) lv (.int (xs j) :: st)) : ex G l X Q d mc ms cs sl cc own nL ret h z pc lv (.int x :: .ref b :: st) := by
  intro H locs ls F R S L0
  subst hx
  refine va_sld F.1 F.2.1 hX hbl hbA S (vp_in_nI hj hn) dg ?_
  rw [nI_c hj hn]
  exact k1 H locs ls F R S L0
theorem ex_slen (hX : va_X b L xs X.2.2.1 X.2.2.1.heap) (hbl : b < X.2.2.1.heap.size) (hbA : ¬ fr G b) (dg : decode cc pc = .ok (.arraylength, 1)) (k1 : ex G l X Q d mc ms cs sl cc own nL ret h z (pc + 1) lv (.int (nI L) :: st)) : ex G l X Q d mc ms cs sl cc own nL ret h z pc lv (.ref b :: st) := by
  intro H locs ls F R S L0
  exact va_slen F.1 F.2.1 hX hbl hbA S dg (k1 H locs ls F R S L0)
end EL
theorem law_lt {i L : Nat} (hi : i < 2000) (hL : L ≤ 1536) (h : ¬ i + 3 ≤ L) : nI L - nI 3 < nI i := by
  by_cases c : 3 ≤ L
  · rw [nI_sub c]
    exact (nI_ltI (by omega) (by omega)).mpr (by omega)
  · refine Int32.lt_of_lt_of_le (b := 0) ?_ (nI_pos' (by omega))
    rcases (show L = 0 ∨ L = 1 ∨ L = 2 by omega) with rfl | rfl | rfl <;> decide
theorem law_ge {i L : Nat} (hL : L ≤ 1536) (h : i + 3 ≤ L) : ¬ nI L - nI 3 < nI i := by
  rw [nI_sub (by omega)]
  exact fun q => absurd ((nI_ltI (by omega) (by omega)).mp q) (by omega)
theorem and31 {x : Int32} : ∃ j, j < 32 ∧ x &&& nI 31 = nI j := by
  refine ⟨(x.toBitVec &&& 31#32).toNat, ?_, ?_⟩
  · rw [BitVec.toNat_and]
    exact Nat.lt_of_le_of_lt Nat.and_le_right (by decide)
  · apply Int32.toBitVec_inj.mp
    rw [Int32.toBitVec_and]
    show _ = BitVec.ofNat 32 _
    rw [BitVec.ofNat_toNat, BitVec.setWidth_eq]
    rfl
