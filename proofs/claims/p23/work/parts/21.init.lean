theorem hu_id {h : HP} {a : Nat} {e : va_E} (q : h a = some e) : h = hu h a e := by
  funext b
  unfold hu
  split
  · rename_i e1
    rw [e1, q]
  · rfl
section ER
variable {G : GG} {l : Launch} {X : CT} {Q : State → Prop} {d mc ms cs sl : Nat} {cc : ByteArray} {own : String} {nL : Nat} {ret : Option FieldType} {B : HP} {z pc : Nat} {lv : List (Nat × Value)} {st : List Value}
theorem ex_putR {idx ci k a : Nat} {ty : FieldType} {fs fs1 : List Value} {v : Value} (L0 : FL own idx ci k ty false) (hn : narrow ty v = v) (hfit : fits ty v = true) (hl : k < fs.length) (hf : fs.set k v = fs1) (dg : decode cc pc = .ok (.putfield idx, 3)) (k1 : ex G l X Q d mc ms cs sl cc own nL ret (hu B a (.inr (ci, fs1))) z (pc + 3) lv st) : ex G l X Q d mc ms cs sl cc own nL ret (hu B a (.inr (ci, fs))) z pc lv (v :: .ref a :: st) := by
  subst hf
  refine ex_put L0 hu_s hn hfit hl dg ?_
  rw [hu_hu]
  exact k1
theorem ex_putFR {idx ci k a : Nat} {ty : FieldType} {fs fs1 : List Value} {v : Value} (hin : X.2.2.2.2.2.2.1.name = "<init>") (hoc : vwCl[ci]?.map (fun q => q.1) = some own) (L0 : FL own idx ci k ty true) (hn : narrow ty v = v) (hfit : fits ty v = true) (hl : k < fs.length) (hf : fs.set k v = fs1) (dg : decode cc pc = .ok (.putfield idx, 3)) (k1 : ex G l X Q d mc ms cs sl cc own nL ret (hu B a (.inr (ci, fs1))) z (pc + 3) lv st) : ex G l X Q d mc ms cs sl cc own nL ret (hu B a (.inr (ci, fs))) z pc lv (v :: .ref a :: st) := by
  subst hf
  refine ex_putF hin hoc L0 hu_s hn hfit hl dg ?_
  rw [hu_hu]
  exact k1
theorem ex_cZ {a b : Nat} {e c : va_E} (n : a ≠ b) (k1 : ex G l X Q d mc ms cs sl cc own nL ret (hu (hu B b c) a e) z pc lv st) : ex G l X Q d mc ms cs sl cc own nL ret (hu (hu B a e) b c) z pc lv st := by
  rw [hu_c n]
  exact k1
end ER
/-- the first value of a state -/
def u0 : Nat → Int32 := fun i => match i with
  | 0 => 70
  | 1 => 30
  | 2 => 10
  | 3 => 28
  | 4 => 3
  | 5 => 20
  | 8 => 50
  | 11 => 1000
  | _ => 0
def A0 : AS := (0, none, 0, u0, fun _ _ => 0)
/-- a State in the making: m persons stand -/
def IN (G : GG) (h0 h : HP) (o m : Nat) : Prop := h o = some (.inr (3, stF o A0)) ∧ (∃ f : Nat → Int32, h (o + 1) = some (aA G 0 6 f) ∧ ∀ i, i < 6 → f i = u0 i) ∧ (∃ r : Nat → Option Nat, h (o + 2) = some (aQ G 3 8 r) ∧ ∀ j, j < m → r j = some (o + 3 + j)) ∧ (∀ j, j < m → h (o + 3 + j) = some (.inr (2, pF (fun _ => 0)))) ∧ ∀ a, (a < o ∨ o + 3 + m ≤ a) → h a = h0 a
theorem IN.done {G : GG} {h0 h : HP} {o : Nat} (H : IN G h0 h o 8) : SF G h0 h o (fun j => j) A0 := by
  obtain ⟨h1, h2, h3, h4, h5⟩ := H
  exact ⟨⟨h1, h2, h3, fun j hj => hj, fun i j _ _ e => e, fun j hj => ⟨_, h4 j hj, fun hn => absurd hn (Nat.not_lt_zero _)⟩⟩, h5⟩
theorem IN.next {G : GG} {h0 h : HP} {o m : Nat} {r : Nat → Option Nat} (H : IN G h0 h o m) (hr : h (o + 2) = some (aQ G 3 8 r)) (hm : m < 8) : IN G h0 (hu (hu h (o + 3 + m) (.inr (2, pF (fun _ => 0)))) (o + 2) (aQ G 3 8 (va_up r m (some (o + 3 + m))))) o (m + 1) := by
  obtain ⟨h1, ⟨f, h2, h2'⟩, ⟨r', h3, h3'⟩, h4, h5⟩ := H
  have e : r = r' := by rw [hr] at h3; simpa using h3
  subst e
  refine ⟨by rw [hu_n (by omega), hu_n (by omega)]; exact h1, ⟨f, by rw [hu_n (by omega), hu_n (by omega)]; exact h2, h2'⟩, ⟨_, hu_s, fun j hj => ?_⟩, fun j hj => ?_, fun a ha => by rw [hu_n (by omega), hu_n (by omega)]; exact h5 a (by omega)⟩
  · show (if j = m then _ else r j) = _
    by_cases e : j = m
    · rw [if_pos e, e]
    · rw [if_neg e]
      exact h3' j (by omega)
  · rw [hu_n (by omega)]
    by_cases e : j = m
    · rw [e, hu_s]
    · rw [hu_n (by omega)]
      exact h4 j (by omega)

set_option maxRecDepth 20000 in
set_option maxHeartbeats 2000000 in
theorem c_Sinit {G : GG} {l : Launch} {h0 : HP} {o : Nat} (H0 : h0 o = some (.inr (3, [.null, .null, .int 0, .int 0, .int 0, .int 0, .int 0, .int 0, .int 0, .int 0, .int 0, .int 0, .int 0]))) : Ct G l 2 10 62 yX3_init cX3_init 2 none [.ref o] h0 (o + 1) (fun r h1 z1 => r = none ∧ z1 = o + 11 ∧ SF G h0 h1 o (fun j => j) A0) := by
  refine Ct.intro (lv := [(0, .ref o)]) (by decide +kernel) (Nat.le_of_ble_eq_true rfl) rfl (fun X Q hQ hnm => ?_)
  refine ex_heq (hu_id H0) ?_
  refine ex_aload_n 0 dX3_init_0 rfl rfl ?_
  refine ex_objInit oi_X3_3 oi_2 oi_3 (by decide) (Nat.le_of_ble_eq_true rfl) dX3_init_1 ?_
  refine ex_aload_n 0 dX3_init_4 rfl rfl ?_
  refine ex_getsN rfl dX3_init_5 ?_
  refine ex_clone (by decide) (tw_t 25 (by decide +kernel) (by decide +kernel)) (tw_t 26 (by decide +kernel) (by decide +kernel)) (tw_t 27 (by decide +kernel) (by decide +kernel)) (tw_t 28 (by decide +kernel) (by decide +kernel)) (tw_t 29 (by decide +kernel) (by decide +kernel)) (by decide) (Nat.le_of_ble_eq_true rfl) (by decide) (by decide) dX3_init_8 ?_
  refine ex_cast0 (t := 0) cl_X3_14 hu_s dX3_init_11 ?_
  refine ex_cZ (by omega) ?_
  refine ex_putFR (fs1 := [.ref (o + 1), .null, .int 0, .int 0, .int 0, .int 0, .int 0, .int 0, .int 0, .int 0, .int 0, .int 0, .int 0]) hnm rfl fl_X3_18 rfl rfl (Nat.le_of_ble_eq_true rfl) rfl dX3_init_14 ?_
  refine ex_aload_n 0 dX3_init_17 rfl rfl ?_
  refine ex_bipush (v := nI 8) dX3_init_18 (by decide) ?_
  refine ex_anew (t := 3) rfl cl_X3_23 (Or.inl rfl) (by decide) (by decide) (by decide) dX3_init_20 ?_
  refine ex_cZ (by omega) ?_
  refine ex_putFR (fs1 := [.ref (o + 1), .ref (o + 1 + 1), .int 0, .int 0, .int 0, .int 0, .int 0, .int 0, .int 0, .int 0, .int 0, .int 0, .int 0]) hnm rfl fl_X3_25 rfl rfl (Nat.le_of_ble_eq_true rfl) rfl dX3_init_23 ?_
  refine ex_aload_n 0 dX3_init_26 rfl rfl ?_
  refine ex_iconst (v := nI 0) dX3_init_27 (by decide) ?_
  refine ex_putR (fs1 := [.ref (o + 1), .ref (o + 1 + 1), .int (nI 0), .int 0, .int 0, .int 0, .int 0, .int 0, .int 0, .int 0, .int 0, .int 0, .int 0]) fl_X3_29 rfl rfl (Nat.le_of_ble_eq_true rfl) rfl dX3_init_28 ?_
  refine ex_aload_n 0 dX3_init_31 rfl rfl ?_
  refine ex_bipush (v := nI 50) dX3_init_32 (by decide) ?_
  refine ex_putR (fs1 := [.ref (o + 1), .ref (o + 1 + 1), .int (nI 0), .int (nI 50), .int 0, .int 0, .int 0, .int 0, .int 0, .int 0, .int 0, .int 0, .int 0]) fl_X3_33 rfl rfl (Nat.le_of_ble_eq_true rfl) rfl dX3_init_34 ?_
  refine ex_aload_n 0 dX3_init_37 rfl rfl ?_
  refine ex_bipush (v := (-6)) dX3_init_38 (by decide) ?_
  refine ex_putR (fs1 := [.ref (o + 1), .ref (o + 1 + 1), .int (nI 0), .int (nI 50), .int (-6), .int 0, .int 0, .int 0, .int 0, .int 0, .int 0, .int 0, .int 0]) fl_X3_36 rfl rfl (Nat.le_of_ble_eq_true rfl) rfl dX3_init_40 ?_
  refine ex_aload_n 0 dX3_init_43 rfl rfl ?_
  refine ex_iconst (v := nI 0) dX3_init_44 (by decide) ?_
  refine ex_putR (fs1 := [.ref (o + 1), .ref (o + 1 + 1), .int (nI 0), .int (nI 50), .int (-6), .int (nI 0), .int 0, .int 0, .int 0, .int 0, .int 0, .int 0, .int 0]) fl_X3_39 rfl rfl (Nat.le_of_ble_eq_true rfl) rfl dX3_init_45 ?_
  refine ex_aload_n 0 dX3_init_48 rfl rfl ?_
  refine ex_sipush (v := nI 1000) dX3_init_49 (by decide) ?_
  refine ex_putR (fs1 := [.ref (o + 1), .ref (o + 1 + 1), .int (nI 0), .int (nI 50), .int (-6), .int (nI 0), .int (nI 1000), .int 0, .int 0, .int 0, .int 0, .int 0, .int 0]) fl_X3_42 rfl rfl (Nat.le_of_ble_eq_true rfl) rfl dX3_init_52 ?_
  refine ex_aload_n 0 dX3_init_55 rfl rfl ?_
  refine ex_iconst (v := nI 0) dX3_init_56 (by decide) ?_
  refine ex_putR (fs1 := [.ref (o + 1), .ref (o + 1 + 1), .int (nI 0), .int (nI 50), .int (-6), .int (nI 0), .int (nI 1000), .int (nI 0), .int 0, .int 0, .int 0, .int 0, .int 0]) fl_X3_45 rfl rfl (Nat.le_of_ble_eq_true rfl) rfl dX3_init_57 ?_
  refine ex_aload_n 0 dX3_init_60 rfl rfl ?_
  refine ex_iconst (v := nI 0) dX3_init_61 (by decide) ?_
  refine ex_putR (fs1 := [.ref (o + 1), .ref (o + 1 + 1), .int (nI 0), .int (nI 50), .int (-6), .int (nI 0), .int (nI 1000), .int (nI 0), .int (nI 0), .int 0, .int 0, .int 0, .int 0]) fl_X3_48 rfl rfl (Nat.le_of_ble_eq_true rfl) rfl dX3_init_62 ?_
  refine ex_aload_n 0 dX3_init_65 rfl rfl ?_
  refine ex_iconst (v := nI 0) dX3_init_66 (by decide) ?_
  refine ex_putR (fs1 := [.ref (o + 1), .ref (o + 1 + 1), .int (nI 0), .int (nI 50), .int (-6), .int (nI 0), .int (nI 1000), .int (nI 0), .int (nI 0), .int (nI 0), .int 0, .int 0, .int 0]) fl_X3_51 rfl rfl (Nat.le_of_ble_eq_true rfl) rfl dX3_init_67 ?_
  refine ex_aload_n 0 dX3_init_70 rfl rfl ?_
  refine ex_iconst (v := nI 0) dX3_init_71 (by decide) ?_
  refine ex_putR (fs1 := [.ref (o + 1), .ref (o + 1 + 1), .int (nI 0), .int (nI 50), .int (-6), .int (nI 0), .int (nI 1000), .int (nI 0), .int (nI 0), .int (nI 0), .int (nI 0), .int 0, .int 0]) fl_X3_54 rfl rfl (Nat.le_of_ble_eq_true rfl) rfl dX3_init_72 ?_
  refine ex_aload_n 0 dX3_init_75 rfl rfl ?_
  refine ex_iconst (v := nI 0) dX3_init_76 (by decide) ?_
  refine ex_putR (fs1 := [.ref (o + 1), .ref (o + 1 + 1), .int (nI 0), .int (nI 50), .int (-6), .int (nI 0), .int (nI 1000), .int (nI 0), .int (nI 0), .int (nI 0), .int (nI 0), .int (nI 0), .int 0]) fl_X3_57 rfl rfl (Nat.le_of_ble_eq_true rfl) rfl dX3_init_77 ?_
  refine ex_aload_n 0 dX3_init_80 rfl rfl ?_
  refine ex_iconst (v := nI 0) dX3_init_81 (by decide) ?_
  refine ex_putR (fs1 := [.ref (o + 1), .ref (o + 1 + 1), .int (nI 0), .int (nI 50), .int (-6), .int (nI 0), .int (nI 1000), .int (nI 0), .int (nI 0), .int (nI 0), .int (nI 0), .int (nI 0), .int (nI 0)]) fl_X3_60 rfl rfl (Nat.le_of_ble_eq_true rfl) rfl dX3_init_82 ?_
  refine ex_iconst (v := nI 0) dX3_init_85 (by decide) ?_
  refine ex_istore_n (lv' := [(1, .int (nI 0)), (0, .ref o)]) dX3_init_86 rfl (by decide) rfl ?_
  suffices H : ∀ (k m : Nat) (h : HP), m + k = 8 → IN G h0 h o m → ex G l X Q 2 10 62 (2 + m) (14 + 6 * m) cX3_init yX3_init.cls 2 none h (o + 3 + m) 87 [(1, .int (nI m)), (0, .ref o)] [] from by
    refine ex_widen (c2 := 2 + 0) (s2 := 14 + 6 * 0) (by decide) (by decide) ?_
    refine H 8 0 _ (by omega) ⟨hu_s, ⟨fV, by rw [hu_n (by omega), hu_n (by omega)]; exact hu_s, fun i hi => ?_⟩, ⟨_, by rw [hu_n (by omega)]; exact hu_s, fun j hj => absurd hj (Nat.not_lt_zero _)⟩, fun j hj => absurd hj (Nat.not_lt_zero _), fun a ha => by rw [hu_n (by omega), hu_n (by omega), hu_n (by omega)]⟩
    rcases (show i = 0 ∨ i = 1 ∨ i = 2 ∨ i = 3 ∨ i = 4 ∨ i = 5 by omega) with rfl | rfl | rfl | rfl | rfl | rfl <;> rfl
  intro k
  induction k with
  | zero =>
    intro m h hm I
    obtain rfl : m = 8 := by omega
    refine ex_iload_n 0 dX3_init_87 rfl rfl ?_
    refine ex_bipush (v := nI 8) dX3_init_88 (by decide) ?_
    refine ex_icmp_ge (tgt := 112) dX3_init_90 (by decide) (fun c_90 => ?_) (fun c_90 => absurd ((nI_leI (by omega) (by omega)).mpr (by omega)) c_90)
    exact ex_vret hQ rfl ⟨rfl, rfl, I.done⟩ dX3_init_112
  | succ k ih =>
    intro m h hm I
    obtain ⟨r, hr, -⟩ := I.2.2.1
    refine ex_iload_n 0 dX3_init_87 rfl rfl ?_
    refine ex_bipush (v := nI 8) dX3_init_88 (by decide) ?_
    refine ex_icmp_ge (tgt := 112) dX3_init_90 (by decide) (fun c_90 => absurd c_90 (fun q9 => absurd ((nI_leI (by omega) (by omega)).mp q9) (by omega))) (fun c_90 => ?_)
    refine ex_aload_n 1 dX3_init_93 rfl rfl ?_
    refine ex_get (v := .ref (o + 2)) fl_X3_25 I.1 rfl dX3_init_94 ?_
    refine ex_iload_n 0 dX3_init_97 rfl rfl ?_
    refine ex_new nl_X3_23 (by omega) (by omega) dX3_init_98 ?_
    refine ex_dup dX3_init_101 rfl ?_
    refine ex_callIN (As := []) (fun K => K.2.2.2.2.2.2.1) vn_X3_63 (c_Pinit (a := o + 3 + m)) rfl (by decide) (Nat.le_of_ble_eq_true rfl) (by omega) (by omega) rfl dX3_init_102 (fun r1 h1 z1 hp => ?_)
    obtain ⟨rfl, rfl, rfl⟩ := hp
    refine ex_aast (t := 3) (ci := 2) (r := (RX2, TX2, 6)) (n := 8) (f := r) (j := m) rfl rfl (by rw [hu_n (by omega)]; exact hr) hu_s rfl (by omega) (by decide) dX3_init_105 ?_
    refine ex_iinc (v := nI (m + 1)) (lv' := [(1, .int (nI (m + 1))), (0, .ref o)]) 0 dX3_init_106 rfl (nI_1 m) (by decide) rfl ?_
    refine ex_goto (tgt := 87) dX3_init_109 (by decide) ?_
    refine ex_widen (c2 := 2 + (m + 1)) (s2 := 14 + 6 * (m + 1)) (by omega) (by omega) ?_
    exact ih (m + 1) _ (by omega) (I.next hr (by omega))
