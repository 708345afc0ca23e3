theorem nI_c {j n : Nat} (hj : j < n) (hn : n < 2 ^ 31) : (nI j).toNatClampNeg = j := nI_clamp (Nat.lt_trans hj hn)
theorem vS.T {G : GG} {k : Nat} {U : State} {H : Heap} (h : vS G k U H) : va_T .int (G.2.2.2 k) 6 (fun j => .int (stV k j)) (fr G) U H := by
  obtain ⟨cell, h1, h2, h3, h4, h5, h6, h7⟩ := h
  exact ⟨cell, h1, h2, h3, by omega, by rw [h4], h5, h7⟩
/-- an array's cell by its kind -/
abbrev aA (G : GG) (t n : Nat) (f : Nat → Int32) : va_E := .inl (G.2.1 t, n, .inl f)
abbrev aQ (G : GG) (t n : Nat) (f : Nat → Option Nat) : va_E := .inl (G.2.1 t, n, .inr (.inr (.inr (.inr f))))
section EA
variable {G : GG} {l : Launch} {X : CT} {Q : State → Prop} {d mc ms cs sl : Nat} {cc : ByteArray} {own : String} {nL : Nat} {ret : Option FieldType} {h : HP} {z pc : Nat} {lv : List (Nat × Value)} {st : List Value}
theorem ex_iald {a n j : Nat} {f : Nat → Int32} {x : Int32} (he : h a = some (aA G 0 n f)) (hx : x = nI j) (hj : j < n) (hn : n < 2 ^ 31) (dg : decode cc pc = .ok (.iaload, 1)) (k1 : ex G l X Q d mc ms cs sl cc own nL ret h z (pc + 1) lv (.int (f j) :: st)) : ex G l X Q d mc ms cs sl cc own nL ret h z pc lv (.int x :: .ref a :: st) := by
  intro H locs ls F R S L
  subst hx
  refine va_iald (D := G.1) (cl := vwCl) (tys := tyG G) (ws := [(a, aA G 0 n f)]) F.1 F.2.1 F.2.2.2.2.2.2.2.1 (R.P he) 0 0 rfl rfl (vp_in_nI hj hn) dg ?_
  rw [nI_c hj hn]
  exact k1 H locs ls F R S L
theorem ex_cald {a n j : Nat} {f : Nat → Int32} {x : Int32} (he : h a = some (aA G 1 n f)) (hx : x = nI j) (hj : j < n) (hn : n < 2 ^ 31) (dg : decode cc pc = .ok (.caload, 1)) (k1 : ex G l X Q d mc ms cs sl cc own nL ret h z (pc + 1) lv (.int (f j) :: st)) : ex G l X Q d mc ms cs sl cc own nL ret h z pc lv (.int x :: .ref a :: st) := by
  intro H locs ls F R S L
  subst hx
  refine va_cald (D := G.1) (cl := vwCl) (tys := tyG G) (ws := [(a, aA G 1 n f)]) F.1 F.2.1 F.2.2.2.2.2.2.2.1 (R.P he) 0 1 rfl rfl (vp_in_nI hj hn) dg ?_
  rw [nI_c hj hn]
  exact k1 H locs ls F R S L
theorem ex_aald3 {a n j : Nat} {f : Nat → Option Nat} {x : Int32} (he : h a = some (aQ G 3 n f)) (hx : x = nI j) (hj : j < n) (hn : n < 2 ^ 31) (dg : decode cc pc = .ok (.aaload, 1)) (k1 : ex G l X Q d mc ms cs sl cc own nL ret h z (pc + 1) lv (va_rf (f j) :: st)) : ex G l X Q d mc ms cs sl cc own nL ret h z pc lv (.int x :: .ref a :: st) := by
  intro H locs ls F R S L
  subst hx
  refine va_aldq (D := G.1) (cl := vwCl) (tys := tyG G) (ws := [(a, aQ G 3 n f)]) F.1 F.2.1 F.2.2.2.2.2.2.2.1 (R.P he) 0 3 rfl rfl (vp_in_nI hj hn) dg ?_
  rw [nI_c hj hn]
  exact k1 H locs ls F R S L
theorem ex_aald4 {a n j : Nat} {f : Nat → Option Nat} {x : Int32} (he : h a = some (aQ G 4 n f)) (hx : x = nI j) (hj : j < n) (hn : n < 2 ^ 31) (dg : decode cc pc = .ok (.aaload, 1)) (k1 : ex G l X Q d mc ms cs sl cc own nL ret h z (pc + 1) lv (va_rf (f j) :: st)) : ex G l X Q d mc ms cs sl cc own nL ret h z pc lv (.int x :: .ref a :: st) := by
  intro H locs ls F R S L
  subst hx
  refine va_aldq (D := G.1) (cl := vwCl) (tys := tyG G) (ws := [(a, aQ G 4 n f)]) F.1 F.2.1 F.2.2.2.2.2.2.2.1 (R.P he) 0 4 rfl rfl (vp_in_nI hj hn) dg ?_
  rw [nI_c hj hn]
  exact k1 H locs ls F R S L
theorem ex_iast {a n j : Nat} {f : Nat → Int32} {x v : Int32} (he : h a = some (aA G 0 n f)) (hx : x = nI j) (hj : j < n) (hn : n < 2 ^ 31) (dg : decode cc pc = .ok (.iastore, 1)) (k1 : ex G l X Q d mc ms cs sl cc own nL ret (hu h a (aA G 0 n (upd f j v))) z (pc + 1) lv st) : ex G l X Q d mc ms cs sl cc own nL ret h z pc lv (.int v :: .int x :: .ref a :: st) := by
  intro H locs ls F R S L
  subst hx
  have hK := F.2.2.2.2.2.2.2.1
  have hP : H[a]? = some (vp_cell (G.2.1 0) (n, .inl f)) := (R.2.2 _ _ he).2
  refine W.iast F.1 F.2.1 hP ((hK.2 0 _ rfl).1 n (fun j => .int (f j))) (fun q => by cases q) (by show ¬ (nI j < 0 ∨ (arrV _ _ _).slots.size ≤ _); rw [arrV_size]; exact vp_in_nI hj hn) rfl rfl dg fun H1 e z1 oq => ?_
  refine k1 H1 _ ls F (R.put he z1 oq ?_) (S.put z1 oq (R.2.2 _ _ he).1) L
  show H1[a]? = some (vp_cell _ _)
  rw [e, nI_c hj hn, vp_cell_i, vp_cell_i, arrV_store]
  congr 2
  funext q
  by_cases hq : q = j
  · subst hq
    simp [updV, upd]
  · simp [updV, upd, hq]
theorem ex_cast {a n j : Nat} {f : Nat → Int32} {x v : Int32} (he : h a = some (aA G 1 n f)) (hx : x = nI j) (hj : j < n) (hn : n < 2 ^ 31) (dg : decode cc pc = .ok (.castore, 1)) (k1 : ex G l X Q d mc ms cs sl cc own nL ret (hu h a (aA G 1 n (upd f j (vp_nar .char v)))) z (pc + 1) lv st) : ex G l X Q d mc ms cs sl cc own nL ret h z pc lv (.int v :: .int x :: .ref a :: st) := by
  intro H locs ls F R S L
  subst hx
  have hK := F.2.2.2.2.2.2.2.1
  have hP : H[a]? = some (vp_cell (G.2.1 1) (n, .inl f)) := (R.2.2 _ _ he).2
  refine W.cast F.1 F.2.1 hP ((hK.2 1 _ rfl).1 n (fun j => .int (f j))) (fun q => by cases q) (by show ¬ (nI j < 0 ∨ (arrV _ _ _).slots.size ≤ _); rw [arrV_size]; exact vp_in_nI hj hn) rfl rfl dg fun H1 e z1 oq => ?_
  refine k1 H1 _ ls F (R.put he z1 oq ?_) (S.put z1 oq (R.2.2 _ _ he).1) L
  show H1[a]? = some (vp_cell _ _)
  rw [e, nI_c hj hn, vp_cell_i, vp_cell_i, arrV_store]
  congr 2
  funext q
  by_cases hq : q = j
  · subst hq
    simp [updV, upd, vp_nar]
    try rfl
  · simp [updV, upd, hq]
/-- a reference is put into an array of its own class: t is the array's kind, ci the object's -/
theorem ex_aast {t ci a n j v : Nat} {f : Nat → Option Nat} {x : Int32} {vs : List Value} {r : vw_C} (hc : vwCl[ci]? = some r) (ht : (tyG G)[t]? = some (G.2.1 t, .object r.1)) (he : h a = some (aQ G t n f)) (hv : h v = some (.inr (ci, vs))) (hx : x = nI j) (hj : j < n) (hn : n < 2 ^ 31) (dg : decode cc pc = .ok (.aastore, 1)) (k1 : ex G l X Q d mc ms cs sl cc own nL ret (hu h a (aQ G t n (va_up f j (some v)))) z (pc + 1) lv st) : ex G l X Q d mc ms cs sl cc own nL ret h z pc lv (.ref v :: .int x :: .ref a :: st) := by
  intro H locs ls F R S L
  subst hx
  have hK := F.2.2.2.2.2.2.2.1
  have hP : H[a]? = some (vp_cell (G.2.1 t) (n, .inr (.inr (.inr (.inr f))))) := (R.2.2 _ _ he).2
  obtain ⟨-, r', hr', cellV, g1, g2, g3, -⟩ := R.2.2 _ _ hv
  have hcls := (hK.1 ci r hc).2
  obtain ⟨kA, comp, k1', k2, k3, -⟩ := (hK.2 t _ ht).2
  have hcomp : comp = G.1.1 ci := Option.some.inj (k3.symm.trans hcls.1)
  subst hcomp
  obtain ⟨kC, hkC, -⟩ := hcls.2
  have h0 : ¬ nI j < 0 := fun q => vp_in_nI hj hn (Or.inl q)
  refine W.aast F.1 F.2.1 hP (fun q h => by cases h) (fun h => by cases h) k1' k2 rfl hkC ⟨h0, by show _ < (arrV _ _ _).slots.size; rw [arrV_size, nI_c hj hn]; exact hj⟩ g1 (fun q h => by rw [g3] at h; cases h) (by rw [g2]; exact hkC) (by rw [g2]; exact va_assign hcls) rfl rfl dg fun H1 e z1 oq => ?_
  refine k1 H1 _ ls F (R.put he z1 oq ?_) (S.put z1 oq (R.2.2 _ _ he).1) L
  show H1[a]? = some (vp_cell _ _)
  rw [e, nI_c hj hn, vp_cell_q, vp_cell_q, arrV_store]
  congr 2
  funext q
  by_cases hq : q = j
  · subst hq
    simp [updV, va_up, va_rf]
  · simp [updV, va_up, hq]
theorem ex_alen {a t n : Nat} {x : (Nat → Int32) ⊕ (Nat → Int64) ⊕ (Nat → UInt32) ⊕ (Nat → UInt64) ⊕ (Nat → Option Nat)} {ty : FieldType} (ht : (tyG G)[t]? = some (G.2.1 t, ty)) (he : h a = some (.inl (G.2.1 t, n, x))) (dg : decode cc pc = .ok (.arraylength, 1)) (k1 : ex G l X Q d mc ms cs sl cc own nL ret h z (pc + 1) lv (.int (nI n) :: st)) : ex G l X Q d mc ms cs sl cc own nL ret h z pc lv (.ref a :: st) := by
  intro H locs ls F R S L
  exact va_alen (D := G.1) (cl := vwCl) (tys := tyG G) (ws := [(a, .inl (G.2.1 t, n, x))]) F.1 F.2.1 F.2.2.2.2.2.2.2.1 (R.P he) 0 t rfl ht rfl dg (k1 H locs ls F R S L)
/-- the static rows -/
theorem ex_gets {idx k : Nat} (hk : k < 3) (hl : Cond.fieldLink own idx RX4 (stN k) "[I" ∈ TW) (dg : decode cc pc = .ok (.getstatic idx, 3)) (k1 : ex G l X Q d mc ms cs sl cc own nL ret h z (pc + 3) lv (.ref (G.2.2.2 k) :: st)) : ex G l X Q d mc ms cs sl cc own nL ret h z pc lv st := by
  intro H locs ls F R S L
  exact va_gets F.1 F.2.1 (F.2.2.2.2.2.2.2.2.1 k hk).1 S F.2.2.2.1 (F.2.2.2.2.1 _ hl) (fun _ h => h) dg (k1 H locs ls F R S L)
theorem ex_getsN (ho : own = RX3) (dg : decode cc pc = .ok (.getstatic 9, 3)) (k1 : ex G l X Q d mc ms cs sl cc own nL ret h z (pc + 3) lv (.ref (G.2.2.2 0) :: st)) : ex G l X Q d mc ms cs sl cc own nL ret h z pc lv st := by
  intro H locs ls F R S L
  subst ho
  have hN := F.2.2.2.2.2.2.2.2.2.2.2.2.2.2
  exact va_getsN F.1 F.2.1 (F.2.2.2.2.2.2.2.2.1 0 (by decide)).1 S F.2.2.2.1 (va_Nw.use rfl hN) (fun _ h => h) dg (k1 H locs ls F R S L)
theorem ex_tld {k j : Nat} {x : Int32} (hk : k < 3) (hx : x = nI j) (hj : j < 6) (dg : decode cc pc = .ok (.iaload, 1)) (k1 : ex G l X Q d mc ms cs sl cc own nL ret h z (pc + 1) lv (.int (stV k j) :: st)) : ex G l X Q d mc ms cs sl cc own nL ret h z pc lv (.int x :: .ref (G.2.2.2 k) :: st) := by
  intro H locs ls F R S L
  subst hx
  exact va_ti F.1 F.2.1 (F.2.2.2.2.2.2.2.2.1 k hk).2.T S (vp_in_nI hj (by decide)) (by rw [nI_c hj (by decide)]) dg (k1 H locs ls F R S L)
theorem ex_tlen {k : Nat} (hk : k < 3) (dg : decode cc pc = .ok (.arraylength, 1)) (k1 : ex G l X Q d mc ms cs sl cc own nL ret h z (pc + 1) lv (.int (nI 6) :: st)) : ex G l X Q d mc ms cs sl cc own nL ret h z pc lv (.ref (G.2.2.2 k) :: st) := by
  intro H locs ls F R S L
  exact va_tlen F.1 F.2.1 (F.2.2.2.2.2.2.2.2.1 k hk).2.T S rfl dg (k1 H locs ls F R S L)
end EA
