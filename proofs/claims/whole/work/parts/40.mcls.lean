/-! the whole object of the model: its five arrays -/
def MA (G : GG) (h0 h : HP) (m k len : Nat) (fs fp fl fw fd : Nat → Int32) : Prop := h m = some (.inr (5, mF m k len)) ∧ h (m + 1) = some (aA G 0 130 fs) ∧ h (m + 2) = some (aA G 0 390 fp) ∧ h (m + 3) = some (aA G 0 130 fl) ∧ h (m + 4) = some (aA G 2 2 fw) ∧ h (m + 5) = some (aA G 0 60 fd) ∧ ∀ a, (a < m ∨ m + 6 ≤ a) → h a = h0 a
def mV (f w : Nat → Int32) (i : Nat) (v : Option AS) : Prop := match v with
  | none => w i = nI 0
  | some B => w i = nI 1 ∧ AR f (65 * i) B
/-- what the five arrays tell -/
def MR (x : CX) (fs fp fl fw fd : Nat → Int32) : Prop := AR fs 0 x.1 ∧ (∀ j, j < x.2.1 → AR fp (65 * j) (x.2.2.1 j)) ∧ x.2.1 ≤ 6 ∧ (∀ i, i < 2 → mV fl fw i (x.2.2.2.1 i)) ∧ (∀ i, i < x.2.2.2.2.1 → fd i = nI (x.2.2.2.2.2 i)) ∧ x.2.2.2.2.1 ≤ 60
def MF (G : GG) (h0 h : HP) (m : Nat) (x : CX) : Prop := ∃ fs fp fl fw fd : Nat → Int32, MA G h0 h m x.2.1 x.2.2.2.2.1 fs fp fl fw fd ∧ MR x fs fp fl fw fd
def MP (G : GG) (h : HP) (m : Nat) (x : CX) : Prop := MF G h h m x
theorem MA.kept {G : GG} {h0 h h1 : HP} {m k len : Nat} {fs fp fl fw fd : Nat → Int32} (S : MA G h0 h m k len fs fp fl fw fd) (q : ∀ a, m ≤ a → a < m + 6 → h1 a = h a) : MA G h1 h1 m k len fs fp fl fw fd := by
  obtain ⟨s0, s1, s2, s3, s4, s5, -⟩ := S
  exact ⟨by rw [q _ (by omega) (by omega)]; exact s0, by rw [q _ (by omega) (by omega)]; exact s1, by rw [q _ (by omega) (by omega)]; exact s2, by rw [q _ (by omega) (by omega)]; exact s3, by rw [q _ (by omega) (by omega)]; exact s4, by rw [q _ (by omega) (by omega)]; exact s5, fun _ _ => rfl⟩
theorem MA.self {G : GG} {h0 h : HP} {m k len : Nat} {fs fp fl fw fd : Nat → Int32} (S : MA G h0 h m k len fs fp fl fw fd) : MA G h h m k len fs fp fl fw fd := S.kept (fun _ _ _ => rfl)
theorem MF.kept {G : GG} {h0 h h1 : HP} {m : Nat} {x : CX} (S : MF G h0 h m x) (q : ∀ a, m ≤ a → a < m + 6 → h1 a = h a) : MP G h1 m x := by
  obtain ⟨fs, fp, fl, fw, fd, s1, s2⟩ := S
  exact ⟨fs, fp, fl, fw, fd, s1.kept q, s2⟩
theorem MA.fr {G : GG} {h0 h h1 : HP} {m k len k1 len1 : Nat} {fs fp fl fw fd fs1 fp1 fl1 fw1 fd1 : Nat → Int32} (S : MA G h0 h m k len fs fp fl fw fd) (S1 : MA G h h1 m k1 len1 fs1 fp1 fl1 fw1 fd1) : MA G h0 h1 m k1 len1 fs1 fp1 fl1 fw1 fd1 :=
  ⟨S1.1, S1.2.1, S1.2.2.1, S1.2.2.2.1, S1.2.2.2.2.1, S1.2.2.2.2.2.1, fun a ha => (S1.2.2.2.2.2.2 a ha).trans (S.2.2.2.2.2.2 a ha)⟩
theorem MF.trans {G : GG} {h0 h h1 : HP} {m : Nat} {x y : CX} (S : MF G h0 h m x) (S1 : MF G h h1 m y) : MF G h0 h1 m y := by
  obtain ⟨fs, fp, fl, fw, fd, s1, s2⟩ := S
  obtain ⟨fs1, fp1, fl1, fw1, fd1, t1, t2⟩ := S1
  exact ⟨fs1, fp1, fl1, fw1, fd1, s1.fr t1, t2⟩
theorem MA.rp {G : GG} {h0 h : HP} {m k len p : Nat} {fs fp fl fw fd : Nat → Int32} {A : AS} (S : MA G h0 h m k len fs fp fl fw fd) (R : AR fs p A) : RP G h m k len p A := ⟨S.1, fs, S.2.1, R⟩
/-- a row has changed -/
theorem MA.rf {G : GG} {h0 h h1 : HP} {m k len p : Nat} {fs fp fl fw fd : Nat → Int32} {B : AS} (S : MA G h0 h m k len fs fp fl fw fd) (N : RF G h h1 m k len p B) : ∃ fs1 : Nat → Int32, MA G h0 h1 m k len fs1 fp fl fw fd ∧ AR fs1 p B ∧ ∀ i, (i < p ∨ p + 65 ≤ i) → fs1 i = fs i := by
  obtain ⟨s0, s1, s2, s3, s4, s5, s6⟩ := S
  obtain ⟨n1, ⟨f0, f, a1, a2, a3, a4⟩, a5⟩ := N
  obtain rfl : f0 = fs := by rw [s1] at a1; simpa using a1.symm
  exact ⟨f, ⟨n1, a2, by rw [a5 _ (by omega)]; exact s2, by rw [a5 _ (by omega)]; exact s3, by rw [a5 _ (by omega)]; exact s4, by rw [a5 _ (by omega)]; exact s5, fun a ha => by rw [a5 a (by omega)]; exact s6 a ha⟩, a3, a4⟩
theorem MF.rp {G : GG} {h0 h : HP} {m : Nat} {x : CX} (S : MF G h0 h m x) : RP G h m x.2.1 x.2.2.2.2.1 0 x.1 := by
  obtain ⟨fs, fp, fl, fw, fd, s1, s2⟩ := S
  exact s1.rp s2.1
theorem MF.now {G : GG} {h0 h h1 : HP} {m : Nat} {x : CX} {B : AS} (S : MF G h0 h m x) (N : RF G h h1 m x.2.1 x.2.2.2.2.1 0 B) : MF G h0 h1 m (B, x.2) := by
  obtain ⟨fs, fp, fl, fw, fd, s1, s2⟩ := S
  obtain ⟨fs1, t1, t2, t3⟩ := s1.rf N
  exact ⟨fs1, fp, fl, fw, fd, t1, t2, s2.2⟩
theorem MF.trial {G : GG} {h0 h h1 : HP} {m : Nat} {x : CX} {B : AS} (S : MF G h0 h m x) (n8 : x.1.1 ≤ 8) (N : RF G h h1 m x.2.1 x.2.2.2.2.1 65 B) : MF G h0 h1 m x := by
  obtain ⟨fs, fp, fl, fw, fd, s1, s2⟩ := S
  obtain ⟨fs1, t1, t2, t3⟩ := s1.rf N
  exact ⟨fs1, fp, fl, fw, fd, t1, s2.1.kept n8 (fun i hi => by rw [t3 _ (by omega)]), s2.2⟩
theorem MF.ob {G : GG} {h0 h : HP} {m : Nat} {x : CX} (S : MF G h0 h m x) : h m = some (.inr (5, mF m x.2.1 x.2.2.2.2.1)) := S.rp.1
def pM (G : GG) (p : Int32 × CX) (h0 : HP) (z m : Nat) : Option Value → HP → Nat → Prop := fun r h1 z1 => r = some (.int p.1) ∧ z1 = z ∧ MF G h0 h1 m p.2
section EMa
variable {G : GG} {l : Launch} {X : CT} {Q : State → Prop} {d mc ms cs sl : Nat} {cc : ByteArray} {own : String} {nL : Nat} {ret : Option FieldType} {h h0 : HP} {z pc : Nat} {lv : List (Nat × Value)} {st : List Value} {m k len : Nat} {fs fp fl fw fd : Nat → Int32}
theorem exA_st1 {j : Nat} {x v : Int32} (S : MA G h0 h m k len fs fp fl fw fd) (hx : x = nI j) (hj : j < 130) (dg : decode cc pc = .ok (.iastore, 1)) (k1 : ∀ h : HP, MA G h0 h m k len (upd fs j v) fp fl fw fd → ex G l X Q d mc ms cs sl cc own nL ret h z (pc + 1) lv st) : ex G l X Q d mc ms cs sl cc own nL ret h z pc lv (.int v :: .int x :: .ref (m + 1) :: st) := by
  obtain ⟨s0, s1, s2, s3, s4, s5, s6⟩ := S
  exact ex_iast s1 hx hj (by decide) dg (k1 _ ⟨by rw [hu_n (by omega)]; exact s0, hu_s, by rw [hu_n (by omega)]; exact s2, by rw [hu_n (by omega)]; exact s3, by rw [hu_n (by omega)]; exact s4, by rw [hu_n (by omega)]; exact s5, fun a ha => by rw [hu_n (by omega)]; exact s6 a ha⟩)
theorem exA_st2 {j : Nat} {x v : Int32} (S : MA G h0 h m k len fs fp fl fw fd) (hx : x = nI j) (hj : j < 390) (dg : decode cc pc = .ok (.iastore, 1)) (k1 : ∀ h : HP, MA G h0 h m k len fs (upd fp j v) fl fw fd → ex G l X Q d mc ms cs sl cc own nL ret h z (pc + 1) lv st) : ex G l X Q d mc ms cs sl cc own nL ret h z pc lv (.int v :: .int x :: .ref (m + 2) :: st) := by
  obtain ⟨s0, s1, s2, s3, s4, s5, s6⟩ := S
  exact ex_iast s2 hx hj (by decide) dg (k1 _ ⟨by rw [hu_n (by omega)]; exact s0, by rw [hu_n (by omega)]; exact s1, hu_s, by rw [hu_n (by omega)]; exact s3, by rw [hu_n (by omega)]; exact s4, by rw [hu_n (by omega)]; exact s5, fun a ha => by rw [hu_n (by omega)]; exact s6 a ha⟩)
theorem exA_st3 {j : Nat} {x v : Int32} (S : MA G h0 h m k len fs fp fl fw fd) (hx : x = nI j) (hj : j < 130) (dg : decode cc pc = .ok (.iastore, 1)) (k1 : ∀ h : HP, MA G h0 h m k len fs fp (upd fl j v) fw fd → ex G l X Q d mc ms cs sl cc own nL ret h z (pc + 1) lv st) : ex G l X Q d mc ms cs sl cc own nL ret h z pc lv (.int v :: .int x :: .ref (m + 3) :: st) := by
  obtain ⟨s0, s1, s2, s3, s4, s5, s6⟩ := S
  exact ex_iast s3 hx hj (by decide) dg (k1 _ ⟨by rw [hu_n (by omega)]; exact s0, by rw [hu_n (by omega)]; exact s1, by rw [hu_n (by omega)]; exact s2, hu_s, by rw [hu_n (by omega)]; exact s4, by rw [hu_n (by omega)]; exact s5, fun a ha => by rw [hu_n (by omega)]; exact s6 a ha⟩)
theorem exA_st4 {j : Nat} {x v : Int32} (S : MA G h0 h m k len fs fp fl fw fd) (hx : x = nI j) (hj : j < 2) (dg : decode cc pc = .ok (.bastore, 1)) (k1 : ∀ h : HP, MA G h0 h m k len fs fp fl (upd fw j (vp_nar .boolean v)) fd → ex G l X Q d mc ms cs sl cc own nL ret h z (pc + 1) lv st) : ex G l X Q d mc ms cs sl cc own nL ret h z pc lv (.int v :: .int x :: .ref (m + 4) :: st) := by
  obtain ⟨s0, s1, s2, s3, s4, s5, s6⟩ := S
  exact ex_zast s4 hx hj (by decide) dg (k1 _ ⟨by rw [hu_n (by omega)]; exact s0, by rw [hu_n (by omega)]; exact s1, by rw [hu_n (by omega)]; exact s2, by rw [hu_n (by omega)]; exact s3, hu_s, by rw [hu_n (by omega)]; exact s5, fun a ha => by rw [hu_n (by omega)]; exact s6 a ha⟩)
theorem exA_st5 {j : Nat} {x v : Int32} (S : MA G h0 h m k len fs fp fl fw fd) (hx : x = nI j) (hj : j < 60) (dg : decode cc pc = .ok (.iastore, 1)) (k1 : ∀ h : HP, MA G h0 h m k len fs fp fl fw (upd fd j v) → ex G l X Q d mc ms cs sl cc own nL ret h z (pc + 1) lv st) : ex G l X Q d mc ms cs sl cc own nL ret h z pc lv (.int v :: .int x :: .ref (m + 5) :: st) := by
  obtain ⟨s0, s1, s2, s3, s4, s5, s6⟩ := S
  exact ex_iast s5 hx hj (by decide) dg (k1 _ ⟨by rw [hu_n (by omega)]; exact s0, by rw [hu_n (by omega)]; exact s1, by rw [hu_n (by omega)]; exact s2, by rw [hu_n (by omega)]; exact s3, by rw [hu_n (by omega)]; exact s4, hu_s, fun a ha => by rw [hu_n (by omega)]; exact s6 a ha⟩)
theorem exA_pk {idx k2 : Nat} {v : Int32} (S : MA G h0 h m k len fs fp fl fw fd) (f0 : FL own idx 5 2 .int false) (hv : v = nI k2) (dg : decode cc pc = .ok (.putfield idx, 3)) (k1 : ∀ h : HP, MA G h0 h m k2 len fs fp fl fw fd → ex G l X Q d mc ms cs sl cc own nL ret h z (pc + 3) lv st) : ex G l X Q d mc ms cs sl cc own nL ret h z pc lv (.int v :: .ref m :: st) := by
  obtain ⟨s0, s1, s2, s3, s4, s5, s6⟩ := S
  subst hv
  exact ex_put f0 s0 rfl rfl (Nat.le_of_ble_eq_true rfl) dg (k1 _ ⟨hu_s, by rw [hu_n (by omega)]; exact s1, by rw [hu_n (by omega)]; exact s2, by rw [hu_n (by omega)]; exact s3, by rw [hu_n (by omega)]; exact s4, by rw [hu_n (by omega)]; exact s5, fun a ha => by rw [hu_n (by omega)]; exact s6 a ha⟩)
theorem exA_pl {idx l2 : Nat} {v : Int32} (S : MA G h0 h m k len fs fp fl fw fd) (f0 : FL own idx 5 6 .int false) (hv : v = nI l2) (dg : decode cc pc = .ok (.putfield idx, 3)) (k1 : ∀ h : HP, MA G h0 h m k l2 fs fp fl fw fd → ex G l X Q d mc ms cs sl cc own nL ret h z (pc + 3) lv st) : ex G l X Q d mc ms cs sl cc own nL ret h z pc lv (.int v :: .ref m :: st) := by
  obtain ⟨s0, s1, s2, s3, s4, s5, s6⟩ := S
  subst hv
  exact ex_put f0 s0 rfl rfl (Nat.le_of_ble_eq_true rfl) dg (k1 _ ⟨hu_s, by rw [hu_n (by omega)]; exact s1, by rw [hu_n (by omega)]; exact s2, by rw [hu_n (by omega)]; exact s3, by rw [hu_n (by omega)]; exact s4, by rw [hu_n (by omega)]; exact s5, fun a ha => by rw [hu_n (by omega)]; exact s6 a ha⟩)
end EMa
