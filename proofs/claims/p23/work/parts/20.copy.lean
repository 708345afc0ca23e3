set_option maxRecDepth 20000 in
set_option maxHeartbeats 2000000 in
theorem c_copyT {G : GG} {l : Launch} {h0 : HP} {z o o2 : Nat} {π π2 : Nat → Nat} {n : Nat} {g : Option Nat} {t : Nat} {u : Nat → Int32} {q : Nat → Nat → Int32} {n2 : Nat} {g2 : Option Nat} {t2 : Nat} {u2 : Nat → Int32} {q2 : Nat → Nat → Int32} (S0 : SP G h0 o π (n, g, t, u, q)) (S02 : SP G h0 o2 π2 (n2, g2, t2, u2, q2)) (hap : o + 11 ≤ o2 ∨ o2 + 11 ≤ o) (n8 : n2 ≤ 8) : Ct G l 1 0 0 yX3_copyFrom cX3_copyFrom 5 none [.ref o, .ref o2] h0 z (pS G none h0 z o π (n2, g2, t2, u2, q2)) := by
  refine Ct.intro (lv := [(0, .ref o), (1, .ref o2)]) (by decide +kernel) (Nat.le_of_ble_eq_true rfl) rfl (fun X Q hQ hnm => ?_)
  have S := S0.sf
  refine ex_aload_n 1 dX3_copyFrom_0 rfl rfl ?_
  refine ex_get (v := .ref (o2 + 1)) fl_X3_18 (S02.kept (fun a h1 h2 => S.2 a (by omega))).ob rfl dX3_copyFrom_1 ?_
  refine ex_iconst (v := nI 0) dX3_copyFrom_4 (by decide) ?_
  refine ex_aload_n 0 dX3_copyFrom_5 rfl rfl ?_
  refine ex_get (v := .ref (o + 1)) fl_X3_18 S.ob rfl dX3_copyFrom_6 ?_
  refine ex_iconst (v := nI 0) dX3_copyFrom_9 (by decide) ?_
  refine ex_getsN rfl dX3_copyFrom_10 ?_
  refine ex_tlen (k := 0) (by decide) dX3_copyFrom_13 ?_
  refine exS_cpy ac_1 ac_2 ac_3 ac_4 S (S02.kept (fun a h1 h2 => S.2 a (by omega))) (by decide) (Nat.le_of_ble_eq_true rfl) dX3_copyFrom_14 (fun h S => ?_)
  refine ex_aload_n 0 dX3_copyFrom_17 rfl rfl ?_
  refine ex_aload_n 1 dX3_copyFrom_18 rfl rfl ?_
  refine ex_get (v := .int (nI n2)) fl_X3_29 (S02.kept (fun a h1 h2 => S.2 a (by omega))).ob rfl dX3_copyFrom_19 ?_
  refine exS_putN (n1 := n2) S fl_X3_29 rfl dX3_copyFrom_22 (fun h w hw S => ?_)
  refine ex_iconst (v := nI 0) dX3_copyFrom_25 (by decide) ?_
  refine ex_istore_n (lv' := [(2, .int (nI 0)), (0, .ref o), (1, .ref o2)]) dX3_copyFrom_26 rfl (by decide) rfl ?_
  suffices H : ∀ (k m : Nat) (h : HP) (v : Nat → Nat → Int32), m + k = 8 → SF G h0 h o π (n2, g, t, (fun i => if i < 6 then u2 i else u i), v) → (∀ j b, j < m → j < n2 → b < 6 → v j b = q2 j b) → ex G l X Q 1 0 0 0 0 cX3_copyFrom yX3_copyFrom.cls 5 none h z 27 [(2, .int (nI m)), (0, .ref o), (1, .ref o2)] [] from by
    have e2 := H 8 0 h w (by omega) S (fun j b hj => absurd hj (by omega))
    refine ex_lv (lv2 := [(2, .int (nI 0)), (0, .ref o), (1, .ref o2)]) [0, 1, 2] rfl ?_
    exact e2
  intro k
  induction k with
  | zero =>
    intro m h v hm S hv
    refine ex_iload_n 0 dX3_copyFrom_27 rfl rfl ?_
    refine ex_bipush (v := nI 8) dX3_copyFrom_28 (by decide) ?_
    refine ex_icmp_ge (tgt := 67) dX3_copyFrom_30 (by decide) (fun c_30 => ?_) (fun c_30 => absurd ((nI_leI (by omega) (by omega)).mpr (by omega)) c_30)
    refine ex_aload_n 1 dX3_copyFrom_67 rfl rfl ?_
    refine ex_aload_n 2 dX3_copyFrom_68 rfl rfl ?_
    refine ex_get (v := .int (u2 8)) fl_X3_33 (S02.kept (fun a h1 h2 => S.2 a (by omega))).ob rfl dX3_copyFrom_69 ?_
    refine exS_putU (i := 8) S fl_X3_33 (by decide) (by decide) rfl dX3_copyFrom_72 (fun h S => ?_)
    refine ex_aload_n 1 dX3_copyFrom_75 rfl rfl ?_
    refine ex_aload_n 2 dX3_copyFrom_76 rfl rfl ?_
    refine ex_get (v := .int (gv g2)) fl_X3_36 (S02.kept (fun a h1 h2 => S.2 a (by omega))).ob rfl dX3_copyFrom_77 ?_
    refine exS_putG (g1 := g2) S fl_X3_36 rfl dX3_copyFrom_80 (fun h S => ?_)
    refine ex_aload_n 1 dX3_copyFrom_83 rfl rfl ?_
    refine ex_aload_n 2 dX3_copyFrom_84 rfl rfl ?_
    refine ex_get (v := .int (nI t2)) fl_X3_39 (S02.kept (fun a h1 h2 => S.2 a (by omega))).ob rfl dX3_copyFrom_85 ?_
    refine exS_putT (t1 := t2) S fl_X3_39 rfl dX3_copyFrom_88 (fun h S => ?_)
    refine ex_aload_n 1 dX3_copyFrom_91 rfl rfl ?_
    refine ex_aload_n 2 dX3_copyFrom_92 rfl rfl ?_
    refine ex_get (v := .int (u2 11)) fl_X3_42 (S02.kept (fun a h1 h2 => S.2 a (by omega))).ob rfl dX3_copyFrom_93 ?_
    refine exS_putU (i := 11) S fl_X3_42 (by decide) (by decide) rfl dX3_copyFrom_96 (fun h S => ?_)
    refine ex_aload_n 1 dX3_copyFrom_99 rfl rfl ?_
    refine ex_aload_n 2 dX3_copyFrom_100 rfl rfl ?_
    refine ex_get (v := .int (u2 6)) fl_X3_45 (S02.kept (fun a h1 h2 => S.2 a (by omega))).ob rfl dX3_copyFrom_101 ?_
    refine exS_putU (i := 6) S fl_X3_45 (by decide) (by decide) rfl dX3_copyFrom_104 (fun h S => ?_)
    refine ex_aload_n 1 dX3_copyFrom_107 rfl rfl ?_
    refine ex_aload_n 2 dX3_copyFrom_108 rfl rfl ?_
    refine ex_get (v := .int (u2 12)) fl_X3_48 (S02.kept (fun a h1 h2 => S.2 a (by omega))).ob rfl dX3_copyFrom_109 ?_
    refine exS_putU (i := 12) S fl_X3_48 (by decide) (by decide) rfl dX3_copyFrom_112 (fun h S => ?_)
    refine ex_aload_n 1 dX3_copyFrom_115 rfl rfl ?_
    refine ex_aload_n 2 dX3_copyFrom_116 rfl rfl ?_
    refine ex_get (v := .int (u2 13)) fl_X3_51 (S02.kept (fun a h1 h2 => S.2 a (by omega))).ob rfl dX3_copyFrom_117 ?_
    refine exS_putU (i := 13) S fl_X3_51 (by decide) (by decide) rfl dX3_copyFrom_120 (fun h S => ?_)
    refine ex_aload_n 1 dX3_copyFrom_123 rfl rfl ?_
    refine ex_aload_n 2 dX3_copyFrom_124 rfl rfl ?_
    refine ex_get (v := .int (u2 14)) fl_X3_54 (S02.kept (fun a h1 h2 => S.2 a (by omega))).ob rfl dX3_copyFrom_125 ?_
    refine exS_putU (i := 14) S fl_X3_54 (by decide) (by decide) rfl dX3_copyFrom_128 (fun h S => ?_)
    refine ex_aload_n 1 dX3_copyFrom_131 rfl rfl ?_
    refine ex_aload_n 2 dX3_copyFrom_132 rfl rfl ?_
    refine ex_get (v := .int (u2 15)) fl_X3_57 (S02.kept (fun a h1 h2 => S.2 a (by omega))).ob rfl dX3_copyFrom_133 ?_
    refine exS_putU (i := 15) S fl_X3_57 (by decide) (by decide) rfl dX3_copyFrom_136 (fun h S => ?_)
    refine ex_aload_n 1 dX3_copyFrom_139 rfl rfl ?_
    refine ex_aload_n 2 dX3_copyFrom_140 rfl rfl ?_
    refine ex_get (v := .int (u2 16)) fl_X3_60 (S02.kept (fun a h1 h2 => S.2 a (by omega))).ob rfl dX3_copyFrom_141 ?_
    refine exS_putU (i := 16) S fl_X3_60 (by decide) (by decide) rfl dX3_copyFrom_144 (fun h S => ?_)
    exact ex_vret hQ rfl ⟨rfl, rfl, S.to rfl rfl rfl (fun i hi a1 a2 a3 => by
          rcases (show i = 0 ∨ i = 1 ∨ i = 2 ∨ i = 3 ∨ i = 4 ∨ i = 5 ∨ i = 6 ∨ i = 8 ∨ i = 11 ∨ i = 12 ∨ i = 13 ∨ i = 14 ∨ i = 15 ∨ i = 16 by omega) with rfl | rfl | rfl | rfl | rfl | rfl | rfl | rfl | rfl | rfl | rfl | rfl | rfl | rfl <;> rfl) (fun j b hj hb => (hv j b (by have : j < n2 := hj; omega) hj hb).symm)⟩ dX3_copyFrom_147
  | succ k ih =>
    intro m h v hm S hv
    rcases Nat.lt_or_ge m n2 with hlt | hge
    · refine ex_iload_n 0 dX3_copyFrom_27 rfl rfl ?_
      refine ex_bipush (v := nI 8) dX3_copyFrom_28 (by decide) ?_
      refine ex_icmp_ge (tgt := 67) dX3_copyFrom_30 (by decide) (fun c_30 => absurd c_30 (fun q9 => absurd ((nI_leI (by omega) (by omega)).mp q9) (by omega))) (fun c_30 => ?_)
      refine ex_aload_n 1 dX3_copyFrom_33 rfl rfl ?_
      refine ex_iload_n 0 dX3_copyFrom_34 rfl rfl ?_
      refine ex_call0 (As := [.int (nI m)]) (v := .ref (o + 3 + π m)) (ci := 3) vl_X3_70 rfl (c_at S.1 (by omega) hlt n8) S.ob rfl (by decide) (Nat.le_of_ble_eq_true rfl) (Nat.le_refl _) (Nat.le_refl _) rfl dX3_copyFrom_35 ?_
      refine ex_astore_n (lv' := [(3, .ref (o + 3 + π m)), (2, .int (nI m)), (0, .ref o), (1, .ref o2)]) dX3_copyFrom_38 rfl (by decide) rfl ?_
      refine ex_aload_n 3 dX3_copyFrom_39 rfl rfl ?_
      refine ex_iload_n 1 dX3_copyFrom_40 rfl rfl ?_
      refine ex_call0 (As := [.int (nI m)]) (v := .ref (o2 + 3 + π2 m)) (ci := 3) vl_X3_70 rfl (c_at (S02.kept (fun a h1 h2 => S.2 a (by omega))) (by omega) hlt n8) (S02.kept (fun a h1 h2 => S.2 a (by omega))).ob rfl (by decide) (Nat.le_of_ble_eq_true rfl) (Nat.le_refl _) (Nat.le_refl _) rfl dX3_copyFrom_41 ?_
      refine ex_astore (lv' := [(4, .ref (o2 + 3 + π2 m)), (3, .ref (o + 3 + π m)), (2, .int (nI m)), (0, .ref o), (1, .ref o2)]) dX3_copyFrom_44 (by decide) rfl ?_
      refine ex_aload_n 1 dX3_copyFrom_46 rfl rfl ?_
      refine ex_ifnull dX3_copyFrom_47 ?_
      refine ex_aload 0 dX3_copyFrom_50 rfl ?_
      refine ex_ifnull dX3_copyFrom_52 ?_
      refine ex_aload_n 1 dX3_copyFrom_55 rfl rfl ?_
      refine ex_aload 0 dX3_copyFrom_56 rfl ?_
      refine exP_call (As := [.ref (o2 + 3 + π2 m)]) (r0 := none) (B := (n2, g, t, (fun i => if i < 6 then u2 i else u i), (uq (uq (uq (uq (uq (uq v m 0 (q2 m 0)) m 1 (q2 m 1)) m 2 (q2 m 2)) m 3 (q2 m 3)) m 4 (q2 m 4)) m 5 (q2 m 5)))) vl_X3_74 rfl S (by omega) hlt (fun S1 => c_pcopy S1 (S02.kept (fun a h1 h2 => S.2 a (by omega))) hap (by omega) hlt (by omega) hlt) rfl (by decide) (Nat.le_of_ble_eq_true rfl) (Nat.le_refl _) (Nat.le_refl _) rfl dX3_copyFrom_58 (fun h S => ?_)
      refine ex_iinc (v := nI (m + 1)) (lv' := [(2, .int (nI (m + 1))), (4, .ref (o2 + 3 + π2 m)), (3, .ref (o + 3 + π m)), (0, .ref o), (1, .ref o2)]) 2 dX3_copyFrom_61 rfl (nI_1 m) (by decide) rfl ?_
      refine ex_goto (tgt := 27) dX3_copyFrom_64 (by decide) ?_
      have e2 := ih (m + 1) h _ (by omega) S (fun j b hj hn hb => by
        by_cases e : j = m
        · subst e
          rcases (show b = 0 ∨ b = 1 ∨ b = 2 ∨ b = 3 ∨ b = 4 ∨ b = 5 by omega) with rfl | rfl | rfl | rfl | rfl | rfl <;> simp [uq]
        · simp only [uq, e, if_false]
          rw [← hv j b (by omega) hn hb]
          split <;> (try split) <;> (try split) <;> (try split) <;> (try split) <;> (try split) <;> rfl)
      refine ex_lv (lv2 := [(2, .int (nI (m + 1))), (0, .ref o), (1, .ref o2)]) [0, 3, 4] rfl ?_
      exact e2
    · refine ex_iload_n 0 dX3_copyFrom_27 rfl rfl ?_
      refine ex_bipush (v := nI 8) dX3_copyFrom_28 (by decide) ?_
      refine ex_icmp_ge (tgt := 67) dX3_copyFrom_30 (by decide) (fun c_30 => absurd c_30 (fun q9 => absurd ((nI_leI (by omega) (by omega)).mp q9) (by omega))) (fun c_30 => ?_)
      refine ex_aload_n 1 dX3_copyFrom_33 rfl rfl ?_
      refine ex_iload_n 0 dX3_copyFrom_34 rfl rfl ?_
      refine ex_call0 (As := [.int (nI m)]) (v := .null) (ci := 3) vl_X3_70 rfl (c_atN S.1 (Or.inr ((nI_leI (by omega) (by omega)).mpr hge)) n8) S.ob rfl (by decide) (Nat.le_of_ble_eq_true rfl) (Nat.le_refl _) (Nat.le_refl _) rfl dX3_copyFrom_35 ?_
      refine ex_astore_nN (lv' := [(3, .null), (2, .int (nI m)), (0, .ref o), (1, .ref o2)]) dX3_copyFrom_38 rfl (by decide) rfl ?_
      refine ex_aload_n 3 dX3_copyFrom_39 rfl rfl ?_
      refine ex_iload_n 1 dX3_copyFrom_40 rfl rfl ?_
      refine ex_call0 (As := [.int (nI m)]) (v := .null) (ci := 3) vl_X3_70 rfl (c_atN (S02.kept (fun a h1 h2 => S.2 a (by omega))) (Or.inr ((nI_leI (by omega) (by omega)).mpr hge)) n8) (S02.kept (fun a h1 h2 => S.2 a (by omega))).ob rfl (by decide) (Nat.le_of_ble_eq_true rfl) (Nat.le_refl _) (Nat.le_refl _) rfl dX3_copyFrom_41 ?_
      refine ex_astoreN (lv' := [(4, .null), (3, .null), (2, .int (nI m)), (0, .ref o), (1, .ref o2)]) dX3_copyFrom_44 (by decide) rfl ?_
      refine ex_aload_nN 1 dX3_copyFrom_46 rfl rfl ?_
      refine ex_ifnullN (tgt := 61) dX3_copyFrom_47 (by decide) ?_
      refine ex_iinc (v := nI (m + 1)) (lv' := [(2, .int (nI (m + 1))), (4, .null), (3, .null), (0, .ref o), (1, .ref o2)]) 2 dX3_copyFrom_61 rfl (nI_1 m) (by decide) rfl ?_
      refine ex_goto (tgt := 27) dX3_copyFrom_64 (by decide) ?_
      have e2 := ih (m + 1) h v (by omega) S (fun j b hj hn hb => hv j b (by omega) hn hb)
      refine ex_lv (lv2 := [(2, .int (nI (m + 1))), (0, .ref o), (1, .ref o2)]) [0, 3, 4] rfl ?_
      exact e2

theorem c_copy {G : GG} {l : Launch} {h0 : HP} {z o o2 : Nat} {π π2 : Nat → Nat} {A B : AS} (S0 : SP G h0 o π A) (S02 : SP G h0 o2 π2 B) (hap : o + 11 ≤ o2 ∨ o2 + 11 ≤ o) (n8 : B.1 ≤ 8) : Ct G l 1 0 0 yX3_copyFrom cX3_copyFrom 5 none [.ref o, .ref o2] h0 z (pS G none h0 z o π B) := by
  obtain ⟨n, g, t, u, q⟩ := A
  obtain ⟨n2, g2, t2, u2, q2⟩ := B
  exact c_copyT S0 S02 hap n8

def pV (h : HP) (z : Nat) : Option Value → HP → Nat → Prop := fun r h1 z1 => r = none ∧ h1 = h ∧ z1 = z
theorem ex_heq {G : GG} {l : Launch} {X : CT} {Q : State → Prop} {d mc ms cs sl : Nat} {cc : ByteArray} {own : String} {nL : Nat} {ret : Option FieldType} {h h2 : HP} {z pc : Nat} {lv : List (Nat × Value)} {st : List Value} (e : h = h2) (k1 : ex G l X Q d mc ms cs sl cc own nL ret h2 z pc lv st) : ex G l X Q d mc ms cs sl cc own nL ret h z pc lv st := by
  subst e
  exact k1
theorem ex_zeq {G : GG} {l : Launch} {X : CT} {Q : State → Prop} {d mc ms cs sl : Nat} {cc : ByteArray} {own : String} {nL : Nat} {ret : Option FieldType} {h : HP} {z z2 pc : Nat} {lv : List (Nat × Value)} {st : List Value} (e : z = z2) (k1 : ex G l X Q d mc ms cs sl cc own nL ret h z2 pc lv st) : ex G l X Q d mc ms cs sl cc own nL ret h z pc lv st := by
  subst e
  exact k1
theorem hu_hu {h : HP} {a : Nat} {e e2 : va_E} : hu (hu h a e) a e2 = hu h a e2 := by
  funext b
  unfold hu
  split <;> rfl
theorem hu_c {h : HP} {a b : Nat} {e e2 : va_E} (n : a ≠ b) : hu (hu h a e) b e2 = hu (hu h b e2) a e := by
  funext x
  unfold hu
  by_cases h1 : x = b
  · by_cases h2 : x = a
    · exact absurd (h2.symm.trans h1) n
    · simp [h1, h2]
      intro q
      exact absurd (q.symm) n
  · simp [h1]

set_option maxRecDepth 20000 in
set_option maxHeartbeats 2000000 in
theorem c_Pinit {G : GG} {l : Launch} {h0 : HP} {z : Nat} {a : Nat} : Ct G l 1 0 0 yX2_init cX2_init 1 none [.ref a] h0 z (pV h0 z) := by
  refine Ct.intro (lv := [(0, .ref a)]) (by decide +kernel) (Nat.le_of_ble_eq_true rfl) rfl (fun X Q hQ hnm => ?_)
  refine ex_aload_n 0 dX2_init_0 rfl rfl ?_
  refine ex_objInit oi_X2_1 oi_2 oi_3 (by decide) (Nat.le_of_ble_eq_true rfl) dX2_init_1 ?_
  exact ex_vret hQ rfl ⟨rfl, rfl, rfl⟩ dX2_init_4
