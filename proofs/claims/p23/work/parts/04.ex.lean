/-! the judgement 'ex': W over a heap that is told by a function from addresses to cells -/
abbrev HP : Type := Nat → Option va_E
def hu (h : HP) (a : Nat) (e : va_E) : HP := fun q => if q = a then some e else h q
theorem hu_s {h : HP} {a : Nat} {e : va_E} : hu h a e a = some e := by simp [hu]
theorem hu_n {h : HP} {a b : Nat} {e : va_E} (n : b ≠ a) : hu h a e b = h b := by simp [hu, n]
abbrev GG : Type := va_G × (Nat → ClassId) × Nat × (Nat → Nat)
abbrev tyG (G : GG) : List (ClassId × FieldType) := [(G.2.1 0, .int), (G.2.1 1, .char), (G.2.1 1, .char), (G.2.1 3, .object RX2), (G.2.1 4, .object RX3)]
abbrev fr (G : GG) : Nat → Prop := fun q => G.2.2.1 ≤ q
def Rel (G : GG) (h : HP) (z : Nat) (H : Heap) : Prop := H.size = z ∧ G.2.2.1 ≤ z ∧ ∀ (a : Nat) (e : va_E), h a = some e → G.2.2.1 ≤ a ∧ va_at G.1 vwCl (a, e) H
def fV : Nat → Int32 := fun k => match k with
  | 0 => 70
  | 1 => 30
  | 2 => 10
  | 3 => 28
  | 4 => 3
  | _ => 20
def loV : Nat → Int32 := fun k => match k with
  | 0 => 1
  | 1 => 0
  | 2 => 0
  | 3 => 5
  | 4 => 1
  | _ => 0
def hiV : Nat → Int32 := fun k => match k with
  | 0 => 200
  | 1 => 200
  | 2 => 99
  | 3 => 40
  | 4 => 9
  | _ => 60
def stV : Nat → Nat → Int32 := fun k => match k with
  | 0 => fV
  | 1 => loV
  | _ => hiV
def stN : Nat → String := fun k => match k with
  | 0 => "FIRST_VALUES"
  | 1 => "LOWEST_VALUES"
  | _ => "HIGHEST_VALUES"
def vS (G : GG) (k : Nat) (U : State) (H : Heap) : Prop := ∃ cell : Cell, H[G.2.2.2 k]? = some cell ∧ U.isArrayOf cell .int ∧ cell.vm ≠ .unknown ∧ cell.slots.size = 6 ∧ (∀ j : Nat, j < 6 → cell.slots[j]? = some (.int (stV k j))) ∧ cell.cls = G.2.1 0 ∧ ¬ fr G (G.2.2.2 k)
theorem vS.moved {G : GG} {k : Nat} {u U : State} {H : Heap} (hvm : u.vm.Alike U.vm) (h : vS G k u H) : vS G k U H := by
  obtain ⟨cell, h1, h2, h3⟩ := h
  exact ⟨cell, h1, State.isArrayOf_alike hvm h2, h3⟩
theorem vS.kept {G : GG} {k : Nat} {U : State} {H H1 : Heap} (h : vS G k U H) (hq : ∀ a : Nat, a < H.size → ¬ fr G a → H1[a]? = H[a]?) : vS G k U H1 := by
  obtain ⟨cell, h1, h2, h3, h4, h5, h6, h7⟩ := h
  exact ⟨cell, by rw [hq _ (Array.getElem?_eq_some_iff.mp h1).1 h7]; exact h1, h2, h3, h4, h5, h6, h7⟩
def KK (G : GG) (U : State) (H : Heap) : Prop := va_K G.1 vwCl (tyG G) U ∧ (∀ k : Nat, k < 3 → va_Z RX4 (stN k) "[I" (.ref (G.2.2.2 k)) (fr G) U H ∧ vS G k U H) ∧ va_AO RX2 U ∧ va_AO RX3 U ∧ va_Nw (.castable "[I" "java/lang/Cloneable") U ∧ va_Nw (.methodLinkNest RX4 32 yX1_init RX4) U ∧ va_Nw (.methodLinkNest RX3 63 yX2_init RX4) U ∧ va_Nw (.fieldLinkNest RX3 9 RX4 "FIRST_VALUES" "[I" RX4) U
theorem KK.calling {G : GG} {U : State} {H : Heap} {g : JFrame} {mk : MethodId} {a : Array Value} (h : KK G U H) : KK G (U.calling g mk a) H := by
  obtain ⟨h1, h2, h3, h4, h5, h6, h7, h8⟩ := h
  have e : (U.calling g mk a).vm = U.vm := rfl
  have al : U.vm.Alike (U.calling g mk a).vm := Vm.Alike.refl U.vm
  exact ⟨va_K.moved al h1, fun k hk => ⟨va_Z.moved al (h2 k hk).1, vS.moved al (h2 k hk).2⟩, va_AO.moved al h3, va_AO.moved al h4, va_Nw.same rfl rfl h5, va_Nw.same rfl rfl h6, va_Nw.same rfl rfl h7, va_Nw.same rfl rfl h8⟩
theorem KK.warm {G : GG} {s U : State} {H H1 : Heap} (hW : s.WarmedH U.vm) (hq : ∀ a : Nat, a < H.size → ¬ fr G a → H1[a]? = H[a]?) (h : KK G s H) : KK G U H1 := by
  obtain ⟨h1, h2, h3, h4, h5, h6, h7, h8⟩ := h
  have al : s.vm.Alike U.vm := hW.alike
  exact ⟨va_K.moved al h1, fun k hk => ⟨va_Z.kept (va_Z.moved al (h2 k hk).1) hq, vS.kept (vS.moved al (h2 k hk).2) hq⟩, va_AO.moved al h3, va_AO.moved al h4, va_Nw.warmC hW h5, va_Nw.warmM hW h6, va_Nw.warmM hW h7, va_Nw.warmF hW h8⟩
abbrev CT : Type := Program × Env × State × MethodId × Array Value × List Frame × Method × Code
abbrev rmx (d mc ms : Nat) : Room := { frames := d, cells := mc, slots := ms, locals := 36 * d }
def Fx (G : GG) (X : CT) (cc : ByteArray) (own : String) (nL : Nat) (ret : Option FieldType) : Prop :=
  X.1.tables.exec = Jvm.exec ∧ X.2.2.2.2.2.2.2.code = cc ∧ X.2.2.2.2.2.2.2.maxLocals = nL ∧ X.2.2.1.vm.findClass own = some X.2.2.2.1.cls ∧ (∀ w ∈ TW, w.before X.2.2.2.2.1 X.2.2.1 = true) ∧ X.2.2.2.2.2.2.1.locks = false ∧ X.2.2.2.2.2.2.1.sig.returnType = ret ∧ KK G X.2.2.1 X.2.2.1.heap
def ex (G : GG) (l : Launch) (X : CT) (Q : State → Prop) (d mc ms cs sl : Nat) (cc : ByteArray) (own : String) (nL : Nat) (ret : Option FieldType) (h : HP) (z pc : Nat) (lv : List (Nat × Value)) (st : List Value) : Prop :=
  ∀ (H : Heap) (locs : List Loc) (ls : Array Slot), Fx G X cc own nL ret → Rel G h z H → va_S (fr G) X.2.2.1.heap H locs → lv_has ls nL lv → W X.1 l X.2.1 (rmx d mc ms) X.2.2.1 X.2.2.2.1 X.2.2.2.2.1 X.2.2.2.2.2.1 X.2.2.2.2.2.2.1 X.2.2.2.2.2.2.2 H locs cs sl Q (F0 X.2.2.2.1 pc ls st)
/-- what a method leaves -/
def QC (G : GG) (post : Option Value → HP → Nat → Prop) : Array Value → State → Outcome → State → Prop := fun _ st oc t => (∃ (r : Option Value) (h : HP) (z : Nat), oc = .returned r ∧ post r h z ∧ Rel G h z t.heap) ∧ va_F (fr G) st t
def PC (G : GG) (as : List Value) (h : HP) (z : Nat) : Array Value → State → Prop := fun v U => v = as.toArray ∧ Rel G h z U.heap ∧ KK G U U.heap
def RQ (G : GG) (X : CT) (Q : State → Prop) (cs sl : Nat) (post : Option Value → HP → Nat → Prop) : Prop := Q = MQ X.2.2.2.2.2.1 (QC G post) X.2.2.2.2.1 X.2.2.1 cs sl (fr G)
/-- a method's contract -/
def Ct (G : GG) (l : Launch) (d mc ms : Nat) (y : MethodName) (cc : ByteArray) (nL : Nat) (ret : Option FieldType) (as : List Value) (h : HP) (z : Nat) (post : Option Value → HP → Nat → Prop) : Prop :=
  Met l y (Cond.code y cc nL ret :: TW) (rmx d mc ms) (PC G as h z) (QC G post) mc ms (fr G)
theorem Ct.intro {G : GG} {l : Launch} {d mc ms : Nat} {y : MethodName} {cc : ByteArray} {nL : Nat} {ret : Option FieldType} {as : List Value} {h : HP} {z : Nat} {post : Option Value → HP → Nat → Prop} {lv : List (Nat × Value)} (hy : plainName y.cls = true) (hn : (lg_sl as).length ≤ nL) (hlv : lv_args 0 as = lv)
    (body : ∀ (X : CT) (Q : State → Prop), RQ G X Q mc ms post → X.2.2.2.2.2.2.1.name = y.name → ex G l X Q d mc ms 0 0 cc y.cls nL ret h z 0 lv []) : Ct G l d mc ms y cc nL ret as h z post := by
  refine Met.ofW (cc := cc) (maxL := nL) (ret := ret) hy rfl ?_
  intro p e s m args below meth c s₁ B hml hv
  obtain ⟨rfl, hR, hKK⟩ := hv
  have hts0 := atoms_spec (ws := Cond.code y cc nL ret :: TW) B.pre
  have hown : s.vm.findClass y.cls = some m.cls := findClass_of_methodNamed B.named
  have hl := lv_entry as (n := nL) hn
  rw [hlv] at hl
  rw [lg_entry_eq]
  exact body (p, e, s, m, as.toArray, below, meth, c) _ rfl (name_of_methodNamed B.named B.method).1 s.heap [] _ ⟨B.exec, B.bytes, hml, hown, fun w hw => hts0 w (List.mem_cons_of_mem _ hw), B.notSynchronized, B.returns, hKK⟩ hR va_S.rf hl
