/-! more rows over a state: its size, a copy of settings, calls of a person, the array of the people -/
theorem SF.to {G : GG} {h0 h : HP} {o : Nat} {π : Nat → Nat} {A B : AS} (S : SF G h0 h o π A) (e1 : B.1 = A.1) (e2 : B.2.1 = A.2.1) (e3 : B.2.2.1 = A.2.2.1) (e4 : ∀ i, i < 17 → i ≠ 7 → i ≠ 9 → i ≠ 10 → B.2.2.2.1 i = A.2.2.2.1 i) (e5 : ∀ j k, j < A.1 → k < 6 → B.2.2.2.2 j k = A.2.2.2.2 j k) : SF G h0 h o π B := ⟨S.1.to e1 e2 e3 e4 e5, S.2⟩
theorem SP.wit {G : GG} {h : HP} {o : Nat} {π : Nat → Nat} {A : AS} (S : SP G h o π A) : ∃ w : Nat → Nat → Int32, ∀ j, j < 8 → h (o + 3 + π j) = some (.inr (2, pF (w j))) ∧ (j < A.1 → ∀ k, k < 6 → w j k = A.2.2.2.2 j k) := by
  have h1 : ∀ j : Nat, ∃ w : Nat → Int32, j < 8 → h (o + 3 + π j) = some (.inr (2, pF w)) ∧ (j < A.1 → ∀ k, k < 6 → w k = A.2.2.2.2 j k) := by
    intro j
    by_cases hj : j < 8
    · obtain ⟨w, w1, w2⟩ := S.2.2.2.2.2 j hj
      exact ⟨w, fun _ => ⟨w1, w2⟩⟩
    · exact ⟨fun _ => 0, fun q => absurd q hj⟩
  exact ⟨fun j => Classical.choose (h1 j), fun j hj => Classical.choose_spec (h1 j) hj⟩
theorem SF.putN {G : GG} {h0 h : HP} {o : Nat} {π : Nat → Nat} {n n1 : Nat} {g : Option Nat} {t : Nat} {u : Nat → Int32} {q : Nat → Nat → Int32} {fs : List Value} (S : SF G h0 h o π (n, g, t, u, q)) (hk : fs = stF o (n1, g, t, u, q)) : ∃ w : Nat → Nat → Int32, (∀ j k, j < n → j < 8 → k < 6 → w j k = q j k) ∧ SF G h0 (hu h o (.inr (3, fs))) o π (n1, g, t, u, w) := by
  obtain ⟨w, hw⟩ := S.1.wit
  obtain ⟨⟨s1, ⟨f, s2, s2'⟩, ⟨r, s3, s3'⟩, s4, s5, s6⟩, s7⟩ := S
  refine ⟨w, fun j k hj h8 hk => (hw j h8).2 hj k hk, ⟨by rw [hu_s, hk]; rfl, ⟨f, by rw [hu_n (by omega)]; exact s2, s2'⟩, ⟨r, by rw [hu_n (by omega)]; exact s3, s3'⟩, s4, s5, fun j hj => ?_⟩, fun a ha => by rw [hu_n (by omega)]; exact s7 a ha⟩
  exact ⟨w j, by rw [hu_n (by omega)]; exact (hw j hj).1, fun _ k _ => rfl⟩
theorem SF.cpy {G : GG} {h0 h : HP} {o : Nat} {π : Nat → Nat} {n : Nat} {g : Option Nat} {t : Nat} {u ub : Nat → Int32} {q : Nat → Nat → Int32} {f1 : Nat → Int32} (S : SF G h0 h o π (n, g, t, u, q)) (hf : ∀ i, i < 6 → f1 i = ub i) : SF G h0 (hu h (o + 1) (aA G 0 6 f1)) o π (n, g, t, (fun i => if i < 6 then ub i else u i), q) := by
  obtain ⟨⟨s1, -, ⟨r, s3, s3'⟩, s4, s5, s6⟩, s7⟩ := S
  refine ⟨⟨?_, ⟨_, hu_s, fun b hb => ?_⟩, ⟨r, by rw [hu_n (by omega)]; exact s3, s3'⟩, s4, s5, fun j hj => ?_⟩, fun a ha => by rw [hu_n (by omega)]; exact s7 a ha⟩
  · rw [hu_n (by omega), s1]
    rfl
  · show f1 b = if b < 6 then ub b else u b
    rw [if_pos hb, hf b hb]
  · obtain ⟨w, w1, w2⟩ := s6 j hj
    exact ⟨w, by rw [hu_n (by omega)]; exact w1, w2⟩
section ES2
variable {G : GG} {l : Launch} {X : CT} {Q : State → Prop} {d mc ms cs sl : Nat} {cc : ByteArray} {own : String} {nL : Nat} {ret : Option FieldType} {h h0 : HP} {z pc : Nat} {lv : List (Nat × Value)} {st : List Value} {o : Nat} {π : Nat → Nat} {n : Nat} {g : Option Nat} {t : Nat} {u : Nat → Int32} {q : Nat → Nat → Int32}
theorem ex_topi {x y : Int32} (e : x = y) (k1 : ex G l X Q d mc ms cs sl cc own nL ret h z pc lv (.int y :: st)) : ex G l X Q d mc ms cs sl cc own nL ret h z pc lv (.int x :: st) := by
  subst e
  exact k1
theorem exS_putN {idx n1 : Nat} {v : Int32} (S : SF G h0 h o π (n, g, t, u, q)) (fl : FL own idx 3 2 .int false) (hv : v = nI n1) (dg : decode cc pc = .ok (.putfield idx, 3)) (k1 : ∀ (h : HP) (w : Nat → Nat → Int32), (∀ j k, j < n → j < 8 → k < 6 → w j k = q j k) → SF G h0 h o π (n1, g, t, u, w) → ex G l X Q d mc ms cs sl cc own nL ret h z (pc + 3) lv st) : ex G l X Q d mc ms cs sl cc own nL ret h z pc lv (.int v :: .ref o :: st) := by
  subst hv
  obtain ⟨w, hw, S1⟩ := S.putN (n1 := n1) (fs := (stF o (n, g, t, u, q)).set 2 (.int (nI n1))) rfl
  exact ex_put fl S.ob rfl rfl (by show 2 < 13; decide) dg (k1 _ w hw S1)
theorem exS_cpy {idx o2 : Nat} {π2 : Nat → Nat} {B : AS} (w1 : Cond.methodLink own idx arraycopyName ∈ TW) (w2 : Cond.native arraycopyName ∈ TW) (w3 : Cond.static arraycopyName ∈ TW) (w4 : Cond.initialized "java/lang/System" ∈ TW) (S : SF G h0 h o π (n, g, t, u, q)) (S2 : SP G h o2 π2 B) (hd : 1 ≤ d) (hst : (st.map fun v => v.category).sum ≤ 8) (dg : decode cc pc = .ok (.invokestatic idx, 3)) (k1 : ∀ h : HP, SF G h0 h o π (n, g, t, (fun i => if i < 6 then B.2.2.2.1 i else u i), q) → ex G l X Q d mc ms cs sl cc own nL ret h z (pc + 3) lv st) : ex G l X Q d mc ms cs sl cc own nL ret h z pc lv (.int (nI 6) :: .int (nI 0) :: .ref (o + 1) :: .int (nI 0) :: .ref (o2 + 1) :: st) := by
  obtain ⟨f, hf, hf2⟩ := S.1.2.1
  obtain ⟨f2, hg, hg2⟩ := S2.2.1
  refine ex_copy w1 w2 w3 w4 hg hf (Nat.le_refl _) (Nat.le_refl _) (by decide) hd hst dg (k1 _ (S.cpy fun i hi => ?_))
  rw [← hg2 i hi]
  unfold va_cpy
  simp [hi]
theorem exP_call {idx m d1 ny j : Nat} {y : MethodName} {cy : ByteArray} {ry : Option FieldType} {As : List Value} {r0 : Option Value} {π1 : Nat → Nat} {A B : AS} {st0 : List Value} (V : VV own idx y cy ny ry m) (hC : y.cls = RX2) (S : SF G h0 h o π A) (h8 : j < 8) (hn1 : j < A.1) (K : SP G h o π A → Ct G l d1 0 0 y cy ny ry (.ref (o + 3 + π j) :: As) h z (pS G r0 h z o π1 B)) (hn : As.length = m) (hd : d1 + 1 ≤ d) (hst : (st.map fun v => v.category).sum ≤ 8) (hc : cs ≤ mc) (hs : sl ≤ ms) (stk : st0 = As.reverse ++ .ref (o + 3 + π j) :: st) (dg : decode cc pc = .ok (.invokevirtual idx, 3)) (k1 : ∀ h : HP, SF G h0 h o π1 B → ex G l X Q d mc ms cs sl cc own nL ret h z (pc + 3) lv (r0.toList ++ st)) : ex G l X Q d mc ms cs sl cc own nL ret h z pc lv st0 :=
  ex_callV V (ci := 2) (by rw [hC]; rfl) (K S.1) (S.pe h8 hn1) hn hd hst hc hs stk dg (fun r h1 z1 hp => by obtain ⟨rfl, rfl, S1⟩ := hp; exact k1 h1 (S.trans S1))
end ES2
theorem ac_1 : Cond.methodLink RX3 64 arraycopyName ∈ TW := tw_t 195 (by decide +kernel) (by decide +kernel)
theorem ac_2 : Cond.native arraycopyName ∈ TW := tw_t 197 (by decide +kernel) (by decide +kernel)
theorem ac_3 : Cond.static arraycopyName ∈ TW := tw_t 196 (by decide +kernel) (by decide +kernel)
theorem ac_4 : Cond.initialized "java/lang/System" ∈ TW := tw_t 6 (by decide +kernel) (by decide +kernel)
