/-! the law's entry -/
theorem len_lt {args : Array Value} {s : State} {t : Term} {v : Value} {a : Nat} {cell : Cell} (h : (Term.length t).eval args s none [] s = some v) (ht : t.eval args s none [] s = some (.ref a)) (hc : s.arrayAt? a = some cell) : cell.slots.size < 2 ^ 31 := by
  simp only [Term.eval, Option.bind_eq_bind] at h
  rw [ht] at h
  simp only [Option.bind_some] at h
  rw [hc] at h
  simp only [Option.bind_some] at h
  by_cases c : cell.slots.size < 2 ^ 31
  · exact c
  · rw [if_neg c] at h
    cases h
theorem ex_cls {args : Array Value} {s : State} {t : Term} {C : String} {a : Nat} {cell : Cell} (h : (Cond.exactly t C).before args s = true) (ht : t.eval args s none [] s = some (.ref a)) (hc : s.heap[a]? = some cell) : s.vm.findClass C = some cell.cls := by
  unfold Cond.before Cond.holds at h
  simp only [Cond.value] at h
  rw [ht] at h
  cases hf : s.vm.findClass C with
  | none => rw [hf] at h; simp at h
  | some c =>
    rw [hf] at h
    simp only [hc, Option.bind_eq_bind, Option.bind_some] at h
    cases hk : s.vm.classes[c]? with
    | none => rw [hk] at h; simp at h
    | some k =>
      rw [hk] at h
      simp at h
      rw [h.1.2]
theorem ar_prim {args : Array Value} {s : State} {ty : FieldType} (h : (Cond.arrayClass ty).before args s = true) : ∃ cA, ArrOfT s cA ty ∧ s.vm.findClass ("[" ++ ty.toString) = some cA := by
  obtain ⟨cA, kA, comp, h1, h2, h3⟩ := Cond.arrayClass_spec h
  exact ⟨cA, fun n z => ⟨fun k h => (by cases h), kA, h2, comp, h3⟩, h1⟩
theorem ar_obj {s : State} {C : String} (h : va_AO C s) : ∃ cA, ArrOfT s cA (.object C) ∧ va_RA s cA (.object C) := by
  obtain ⟨comp, c, k, h1, h2, h3, h4, h5⟩ := Cond.arrayOver_spec h
  exact ⟨c, fun n z => ⟨fun k h => (by cases h), k, h3, comp, h4⟩, k, comp, h3, h4, h1, h5⟩
theorem vS_of {G : GG} {args : Array Value} {s : State} {k : Nat} {n : String} (hA : ∀ a : Nat, a < s.heap.size → ¬ fr G a)
    (hla : (Cond.laysStatic RX4 n "[I").before args s = true) (hin : (Cond.initialized RX4).before args s = true)
    (har : (Cond.arrayOf (.static RX4 n "[I") .int).before args s = true) (hle : (Cond.eq (.length (.static RX4 n "[I")) (.int 6)).before args s = true)
    (hel : ∀ j : Nat, j < 6 → (Cond.eq (.elem (.static RX4 n "[I") (.int (Int32.ofNat j))) (.int (stV k j))).before args s = true)
    (hex : (Cond.exactly (.static RX4 n "[I") "[I").before args s = true) (h0 : s.vm.findClass "[I" = some (G.2.1 0)) : ∃ t : Nat, va_Z RX4 n "[I" (.ref t) (fr G) s s.heap ∧ (∀ G2 : GG, G2.2.1 0 = G.2.1 0 → G2.2.2.1 = G.2.2.1 → G2.2.2.2 k = t → vS G2 k s s.heap) := by
  obtain ⟨t, ht, cell, e1, e2, e3, e4, e5, e6, e7⟩ := va_Tof (f := fun j => .int (stV k j)) (N := 6) (A := fr G) (by decide) har (va_eqt hle) (fun j hj => va_eqt (hel j hj)) hA
  refine ⟨t, va_Zof hla hin ht hA, fun G2 g1 g2 g3 => ⟨cell, by rw [g3]; exact e1, e2, e3, ?_, e6, ?_, ?_⟩⟩
  · obtain ⟨a, cell2, q1, q2, q3⟩ := Term.length_spec (va_eqt hle)
    obtain rfl : a = t := by rw [ht] at q1; cases q1; rfl
    obtain ⟨q4, -, -, -⟩ := State.arrayAt?_spec q2
    obtain rfl : cell2 = cell := by rw [e1] at q4; cases q4; rfl
    have hlt := len_lt (va_eqt hle) ht q2
    have e5' : Int32.ofNat cell2.slots.size = Int32.ofNat 6 := e5
    exact (nI_eq hlt (by decide)).mp e5'
  · have := ex_cls hex ht e1
    rw [h0] at this
    rw [g1]
    exact (Option.some.inj this).symm
  · rw [g3]
    intro q
    exact e7 (by show G.2.2.1 ≤ t; rw [← g2]; exact q)
theorem room_le {s : State} {pl : Platform} {r r2 : Room} (h : s.hasRoom pl r = true) (h1 : r2.frames ≤ r.frames) (h2 : r2.locals ≤ r.locals) (h3 : r2.cells ≤ r.cells) (h4 : r2.slots ≤ r.slots) : s.hasRoom pl r2 = true := by
  simp only [State.hasRoom, Bool.and_eq_true, decide_eq_true_eq] at h ⊢
  obtain ⟨⟨⟨⟨g1, g2, g3, g4, g5, g6⟩, g7⟩, g8⟩, g9⟩ := h
  exact ⟨⟨⟨⟨by omega, by omega, by omega, by omega, by omega, g6⟩, by omega⟩, by omega⟩, g9⟩
theorem W_room {p : Program} {l : Launch} {e : Env} {R R2 : Room} {s : State} {m : MethodId} {args : Array Value} {below : List Frame} {meth : Method} {c : Code} {H : Heap} {locs : List Loc} {cells slots : Nat} {Q : State → Prop} {g : JFrame} (h1 : R2.frames ≤ R.frames) (h2 : R2.locals ≤ R.locals) (h3 : R2.cells ≤ R.cells) (h4 : R2.slots ≤ R.slots) (k : W p l e R2 s m args below meth c H locs cells slots Q g) : W p l e R s m args below meth c H locs cells slots Q g := fun T hT X => k T hT ⟨X.admits, X.cas, X.clock, X.frames, room_le X.room h1 h2 h3 h4, X.hears, X.method, X.code, X.here, X.tail, X.warmed, X.limits, X.bytes, X.same⟩
