/-! the rows of 'ex' that touch the heap -/
theorem Rel.put {G : GG} {h : HP} {z a : Nat} {e e0 : va_E} {H H1 : Heap} (R : Rel G h z H) (he : h a = some e0) (z1 : H1.size = H.size) (o : ∀ q : Nat, q ≠ a → H1[q]? = H[q]?) (n : va_at G.1 vwCl (a, e) H1) : Rel G (hu h a e) z H1 := by
  refine ⟨z1.trans R.1, R.2.1, fun b e1 hb => ?_⟩
  by_cases q : b = a
  · subst q
    rw [hu_s] at hb
    cases hb
    exact ⟨(R.2.2 _ _ he).1, n⟩
  · rw [hu_n q] at hb
    exact ⟨(R.2.2 _ _ hb).1, (R.2.2 _ _ hb).2.kept (o b q)⟩
theorem Rel.new {G : GG} {h : HP} {z : Nat} {e : va_E} {H H1 : Heap} (R : Rel G h z H) (z1 : H1.size = z + 1) (o : ∀ q : Nat, q < z → H1[q]? = H[q]?) (n : va_at G.1 vwCl (z, e) H1) : Rel G (hu h z e) (z + 1) H1 := by
  obtain ⟨rz, rb, rc⟩ := R
  subst rz
  refine ⟨z1, Nat.le_succ_of_le rb, fun b e1 hb => ?_⟩
  by_cases q : b = H.size
  · subst q
    rw [hu_s] at hb
    cases hb
    exact ⟨rb, n⟩
  · rw [hu_n q] at hb
    exact ⟨(rc _ _ hb).1, (rc _ _ hb).2.kept (o b (rc _ _ hb).2.lt)⟩
theorem Rel.P {G : GG} {h : HP} {z a : Nat} {e : va_E} {H : Heap} (R : Rel G h z H) (he : h a = some e) : va_P G.1 vwCl [(a, e)] H := by
  intro k q hk
  have : k = 0 := by
    rcases k with _ | k
    · rfl
    · simp at hk
  subst this
  cases hk
  exact (R.2.2 _ _ he).2
theorem vS_new {A : Nat → Prop} {H0 H H1 : Heap} {locs : List Loc} (h : va_S A H0 H locs) (z1 : H1.size = H.size + 1) (o : ∀ q : Nat, q < H.size → H1[q]? = H[q]?) : va_S A H0 H1 locs :=
  ⟨Nat.le_trans h.1 (by omega), fun x h1 h2 => (o x (Nat.lt_of_lt_of_le h1 h.1)).trans (h.2.1 x h1 h2), h.2.2⟩
/-- a field's link: of the class 'own' the entry 'idx' names the field k of the class ci -/
def FL (own : String) (idx ci k : Nat) (ty : FieldType) (fin : Bool) : Prop := ∃ (C : String) (T : u_T) (N : Nat) (t0 : Nat → FieldType), vwCl[ci]? = some (C, T, N) ∧ (∀ w ∈ u_ws C T N, w ∈ TW) ∧ (∀ k, k < N → parseFieldDescriptor (T k).2.2.1 = some (t0 k)) ∧ (∀ a, a < N → ∀ b, b < N → a ≠ b → (T a).2.1 ≠ (T b).2.1) ∧ k < N ∧ t0 k = ty ∧ (T k).2.2.2 = fin ∧ (T k).1 = C ∧ Cond.fieldLink own idx C (T k).2.1 (T k).2.2.1 ∈ TW
/-- a class that is made: of the class 'own' the entry 'idx' names the class ci, of N fields, whose first values are fs -/
def NL (own : String) (idx ci : Nat) (N : Nat) (fs : List Value) : Prop := ∃ (C : String) (T : u_T) (t0 : Nat → FieldType), vwCl[ci]? = some (C, T, N) ∧ (∀ w ∈ u_ws C T N, w ∈ TW) ∧ (∀ k, k < N → parseFieldDescriptor (T k).2.2.1 = some (t0 k)) ∧ (∀ j, j < N → defaultValue (t0 j) = vp_V fs j) ∧ Cond.classLink own idx C ∈ TW ∧ Cond.instantiable C N ∈ TW ∧ Cond.initialized C ∈ TW
section EH
variable {G : GG} {l : Launch} {X : CT} {Q : State → Prop} {d mc ms cs sl : Nat} {cc : ByteArray} {own : String} {nL : Nat} {ret : Option FieldType} {h : HP} {z pc : Nat} {lv : List (Nat × Value)} {st : List Value}
theorem ex_get {idx ci k a : Nat} {ty : FieldType} {fin : Bool} {fs : List Value} {v : Value} (L0 : FL own idx ci k ty fin) (he : h a = some (.inr (ci, fs))) (hv : fs[k]? = some v) (dg : decode cc pc = .ok (.getfield idx, 3)) (k1 : ex G l X Q d mc ms cs sl cc own nL ret h z (pc + 3) lv (v :: st)) : ex G l X Q d mc ms cs sl cc own nL ret h z pc lv (.ref a :: st) := by
  intro H locs ls F R S L
  obtain ⟨C, T, N, t0, c1, c2, c3, c4, c5, c6, c7, c8, c9⟩ := L0
  exact va_get (D := G.1) (cl := vwCl) (tys := tyG G) (ws := [(a, .inr (ci, fs))]) (Ts := TW) (C := C) (T := T) (N := N) F.1 F.2.1 F.2.2.2.2.1 c2 F.2.2.2.1 F.2.2.2.2.2.2.2.1 (R.P he) 0 rfl c1 k c5 (F.2.2.2.2.1 _ c9) (fun x hx => by rw [c8] at hx; exact hx) hv dg (k1 H locs ls F R S L)
theorem ex_put {idx ci k a : Nat} {ty : FieldType} {fs : List Value} {v : Value} (L0 : FL own idx ci k ty false) (he : h a = some (.inr (ci, fs))) (hn : narrow ty v = v) (hfit : fits ty v = true) (hl : k < fs.length) (dg : decode cc pc = .ok (.putfield idx, 3)) (k1 : ex G l X Q d mc ms cs sl cc own nL ret (hu h a (.inr (ci, fs.set k v))) z (pc + 3) lv st) : ex G l X Q d mc ms cs sl cc own nL ret h z pc lv (v :: .ref a :: st) := by
  intro H locs ls F R S L
  obtain ⟨C, T, N, t0, c1, c2, c3, c4, c5, c6, c7, c8, c9⟩ := L0
  have hK := F.2.2.2.2.2.2.2.1
  have hts := F.2.2.2.2.1
  have hown := F.2.2.2.1
  have hap := va_apart (own := own) hts c2 t0 c3 c4 hK c1
  obtain ⟨hb, r, h1, cell, q1, q2, q3, q4⟩ := R.2.2 _ _ he
  have hr : r = (C, T, N) := Option.some.inj (h1.symm.trans c1)
  subst hr
  obtain ⟨hS, hfc, kC, hkC, hkind⟩ := hK.1 ci _ c1
  obtain ⟨cf, kf, fi, f, hi, hsl⟩ := hS k c5
  have hlay := hts _ (c2 _ (u_in_lay c5))
  unfold u_lay at hlay
  rw [if_neg (by rw [c7]; decide)] at hlay
  have hst := (u_facts hfc hkC (u_lays hts c2 c5) hi).1
  have hd : parseFieldDescriptor (T k).2.2.1 = some ty := by rw [← c6]; exact c3 k c5
  have h6 := u_store hfc hkC hkind hlay hi hd hn hfit
  refine W.putK F.1 F.2.1 (f := f) ⟨hown, hts _ c9, ⟨_, _, _, by rw [c8] at hi; exact hi⟩, hst⟩ (by rw [q2]; exact h6) q1 q3 (by rw [hsl]; exact k2_hasslot (q4 k c5)) rfl rfl dg fun H' e1 e2 e3 => ?_
  rw [hsl] at e1 ⊢
  exact k1 H' _ ls F (R.put he e2 e3 ⟨_, c1, t_OB.to (V := updV (vp_V fs) k v) ⟨_, e1, q2, q3, t_set q4 hap c5 v⟩ (fun j _ => vp_updV_set hl v j)⟩) (S.put e2 e3 hb) L
theorem ex_putF {idx ci k a : Nat} {ty : FieldType} {fs : List Value} {v : Value} (hin : X.2.2.2.2.2.2.1.name = "<init>") (hoc : vwCl[ci]?.map (fun q => q.1) = some own) (L0 : FL own idx ci k ty true) (he : h a = some (.inr (ci, fs))) (hn : narrow ty v = v) (hfit : fits ty v = true) (hl : k < fs.length) (dg : decode cc pc = .ok (.putfield idx, 3)) (k1 : ex G l X Q d mc ms cs sl cc own nL ret (hu h a (.inr (ci, fs.set k v))) z (pc + 3) lv st) : ex G l X Q d mc ms cs sl cc own nL ret h z pc lv (v :: .ref a :: st) := by
  intro H locs ls F R S L
  obtain ⟨C, T, N, t0, c1, c2, c3, c4, c5, c6, c7, c8, c9⟩ := L0
  have hCo : C = own := by rw [c1] at hoc; exact Option.some.inj hoc
  have hK := F.2.2.2.2.2.2.2.1
  have hts := F.2.2.2.2.1
  have hown := F.2.2.2.1
  have hap := va_apart (own := own) hts c2 t0 c3 c4 hK c1
  obtain ⟨hb, r, h1, cell, q1, q2, q3, q4⟩ := R.2.2 _ _ he
  have hr : r = (C, T, N) := Option.some.inj (h1.symm.trans c1)
  subst hr
  obtain ⟨hS, hfc, kC, hkC, hkind⟩ := hK.1 ci _ c1
  obtain ⟨cf, kf, fi, f, hi, hsl⟩ := hS k c5
  have hlay := hts _ (c2 _ (u_in_lay c5))
  unfold u_lay at hlay
  rw [if_pos c7] at hlay
  have hst := (u_facts hfc hkC (u_lays hts c2 c5) hi).1
  have hcf : X.2.2.2.1.cls = cf := by
    obtain ⟨_, _, c', _, _, _, -, -, hf', -, -, -, hown2, -⟩ := Cond.laysFinal_spec hlay
    have e1 : c' = cf := by have := hi.symm.trans hf'; simp at this; exact this.1.symm
    rw [c8, hCo] at hown2
    rw [← e1]; exact Option.some.inj (hown.symm.trans hown2)
  have hd : parseFieldDescriptor (T k).2.2.1 = some ty := by rw [← c6]; exact c3 k c5
  have h6 := u_fits hfc hkC hkind (Or.inr hlay) hi hd hn hfit
  refine W.putFinK F.1 F.2.1 hown (hts _ c9) (by rw [c8] at hi; exact hi) hst hcf hin (by rw [q2]; exact h6) q1 q3 (by rw [hsl]; exact k2_hasslot (q4 k c5)) rfl rfl dg fun H' e1 e2 e3 => ?_
  rw [hsl] at e1 ⊢
  exact k1 H' _ ls F (R.put he e2 e3 ⟨_, c1, t_OB.to (V := updV (vp_V fs) k v) ⟨_, e1, q2, q3, t_set q4 hap c5 v⟩ (fun j _ => vp_updV_set hl v j)⟩) (S.put e2 e3 hb) L
theorem ex_new {idx ci N : Nat} {fs : List Value} (L0 : NL own idx ci N fs) (hc : cs + 1 ≤ mc) (hs : sl + N ≤ ms) (dg : decode cc pc = .ok (.new idx, 3)) (k1 : ex G l X Q d mc ms (cs + 1) (sl + N) cc own nL ret (hu h z (.inr (ci, fs))) (z + 1) (pc + 3) lv (.ref z :: st)) : ex G l X Q d mc ms cs sl cc own nL ret h z pc lv st := by
  intro H locs ls F R S L
  obtain ⟨C, T, t0, c1, c2, c3, c4, c5, c6, c7⟩ := L0
  have hts := F.2.2.2.2.1
  have hKn := F.2.2.2.2.2.2.2.1.1 ci _ c1
  have hz : H.size = z := R.1
  refine W.newcK F.1 F.2.1 F.2.2.2.1 (hts _ c5) (hts _ c6) (hts _ c7) rfl dg hc hs hKn.2.1 hz fun H1 kC hkC e1 z1 o1 => ?_
  exact k1 H1 locs ls F (R.new z1 o1 ⟨_, c1, (u_born t0 hts c2 hKn hkC e1 c3).to c4⟩) (vS_new S (by omega) (fun q hq => o1 q (by omega))) L
end EH
