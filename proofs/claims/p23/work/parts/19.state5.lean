set_option maxRecDepth 20000 in
set_option maxHeartbeats 2000000 in
theorem c_relocate {G : GG} {l : Launch} {h0 : HP} {z o : Nat} {π : Nat → Nat} {n : Nat} {g : Option Nat} {t : Nat} {u : Nat → Int32} {q : Nat → Nat → Int32} (S0 : SP G h0 o π (n, g, t, u, q)) (gw : ∀ i, g = some i → i < n) (tw : t < n ∨ t = 0) (n8 : n ≤ 8) {x y : Nat} (hx : x < n) (hy : y < n) : Ct G l 1 0 0 yX3_relocate cX3_relocate 5 none [.ref o, .int (nI x), .int (nI y)] h0 z (pS G none h0 z o (fun j => π (mvI x y j)) (moveA (n, g, t, u, q) x y)) := by
  refine Ct.intro (lv := [(0, .ref o), (1, .int (nI x)), (2, .int (nI y))]) (by decide +kernel) (Nat.le_of_ble_eq_true rfl) rfl (fun X Q hQ hnm => ?_)
  have S := S0.sf
  refine ex_aload_n 0 dX3_relocate_0 rfl rfl ?_
  refine ex_iload_n 1 dX3_relocate_1 rfl rfl ?_
  refine ex_call0 (As := [.int (nI x)]) (v := .ref (o + 3 + π x)) (ci := 3) vl_X3_70 rfl (c_at S.1 (by omega) hx n8) S.ob rfl (by decide) (Nat.le_of_ble_eq_true rfl) (Nat.le_refl _) (Nat.le_refl _) rfl dX3_relocate_2 ?_
  refine ex_astore_n (lv' := [(3, .ref (o + 3 + π x)), (0, .ref o), (1, .int (nI x)), (2, .int (nI y))]) dX3_relocate_5 rfl (by decide) rfl ?_
  refine ex_aload_n 0 dX3_relocate_6 rfl rfl ?_
  refine ex_ifnull dX3_relocate_7 ?_
  refine ex_aload_n 1 dX3_relocate_10 rfl rfl ?_
  refine ex_iload_n 3 dX3_relocate_11 rfl rfl ?_
  refine ex_call0 (As := [.int (nI y)]) (v := .ref (o + 3 + π y)) (ci := 3) vl_X3_70 rfl (c_at S.1 (by omega) hy n8) S.ob rfl (by decide) (Nat.le_of_ble_eq_true rfl) (Nat.le_refl _) (Nat.le_refl _) rfl dX3_relocate_12 ?_
  refine ex_ifnonnull (tgt := 19) dX3_relocate_15 (by decide) ?_
  refine ex_iload_n 2 dX3_relocate_19 rfl rfl ?_
  refine ex_istore (lv' := [(4, .int (nI x)), (3, .ref (o + 3 + π x)), (0, .ref o), (1, .int (nI x)), (2, .int (nI y))]) dX3_relocate_20 (by decide) rfl ?_
  obtain ⟨r0, hr0, SA0⟩ := S.sa
  have L2 : ∀ (k p : Nat) (h : HP) (r : Nat → Option Nat), k + y = p ∨ (p = x ∧ x ≤ y) → p ≤ x → SAF G h0 h o π (n, g, t, u, q) r → (∀ j, j < 8 → r j = some (o + 3 + π (if x ≤ j ∧ j < y then j + 1 else if p < j ∧ j ≤ x then j - 1 else j))) → ex G l X Q 1 0 0 0 0 cX3_relocate yX3_relocate.cls 5 none h z 53 [(4, .int (nI p)), (3, .ref (o + 3 + π x)), (2, .int (nI y)), (1, .int (nI x)), (0, .ref o)] [] := by
    intro k
    induction k with
    | zero =>
      intro p h r hk hp S hr
      refine ex_iload 0 dX3_relocate_53 rfl ?_
      refine ex_iload_n 2 dX3_relocate_55 rfl rfl ?_
      refine ex_icmp_le (tgt := 81) dX3_relocate_56 (by decide) (fun c_56 => ?_) (fun c_56 => absurd ((nI_leI (by omega) (by omega)).mpr (by omega)) c_56)
      refine ex_aload_n 4 dX3_relocate_81 rfl rfl ?_
      refine ex_get (v := .ref (o + 2)) fl_X3_25 S.ob rfl dX3_relocate_82 ?_
      refine ex_iload_n 2 dX3_relocate_85 rfl rfl ?_
      refine ex_aload_n 1 dX3_relocate_86 rfl rfl ?_
      refine exA_st (i := y) (j := x) S rfl (by omega) (by omega) dX3_relocate_87 (fun h S => ?_)
      have S := S.done n8 hx hy (fun j hj => by
        show (if j = y then _ else r j) = _
        unfold mvI
        by_cases e : j = y
        · rw [if_pos e, if_pos e]
        · rw [if_neg e, if_neg e, hr j hj]
          by_cases e1 : x ≤ j ∧ j < y
          · rw [if_pos e1, if_pos e1]
          · rw [if_neg e1, if_neg e1]
            by_cases e2 : p < j ∧ j ≤ x
            · rw [if_pos e2, if_pos (by omega)]
            · rw [if_neg e2, if_neg (by omega)])
      rcases g with _ | i
      · refine ex_aload_n 4 dX3_relocate_88 rfl rfl ?_
        refine ex_aload_n 4 dX3_relocate_89 rfl rfl ?_
        refine ex_aload_n 4 dX3_relocate_90 rfl rfl ?_
        refine ex_get (v := .int (-6)) fl_X3_36 S.ob rfl dX3_relocate_91 ?_
        refine ex_iload_n 3 dX3_relocate_94 rfl rfl ?_
        refine ex_iload_n 2 dX3_relocate_95 rfl rfl ?_
        refine ex_call0 (As := [.int (-6), .int (nI x), .int (nI y)]) (v := .int (-6)) (ci := 3) vl_X3_93 rfl (c_pamN (by omega) (by omega)) S.ob rfl (by decide) (Nat.le_of_ble_eq_true rfl) (Nat.le_refl _) (Nat.le_refl _) rfl dX3_relocate_96 ?_
        refine exS_putG (g1 := none) S fl_X3_36 rfl dX3_relocate_99 (fun h S => ?_)
        refine ex_aload_n 4 dX3_relocate_102 rfl rfl ?_
        refine ex_aload_n 4 dX3_relocate_103 rfl rfl ?_
        refine ex_aload_n 4 dX3_relocate_104 rfl rfl ?_
        refine ex_get (v := .int (nI t)) fl_X3_39 S.ob rfl dX3_relocate_105 ?_
        refine ex_iload_n 3 dX3_relocate_108 rfl rfl ?_
        refine ex_iload_n 2 dX3_relocate_109 rfl rfl ?_
        refine ex_call0 (As := [.int (nI t), .int (nI x), .int (nI y)]) (v := .int (nI (mvP t x y))) (ci := 3) vl_X3_93 rfl (c_pam (by omega) (by omega) (by omega)) S.ob rfl (by decide) (Nat.le_of_ble_eq_true rfl) (Nat.le_refl _) (Nat.le_refl _) rfl dX3_relocate_110 ?_
        refine exS_putT (t1 := mvP t x y) S fl_X3_39 rfl dX3_relocate_113 (fun h S => ?_)
        exact ex_vret hQ rfl ⟨rfl, rfl, S⟩ dX3_relocate_116
      · have gi := gw i rfl
        refine ex_aload_n 4 dX3_relocate_88 rfl rfl ?_
        refine ex_aload_n 4 dX3_relocate_89 rfl rfl ?_
        refine ex_aload_n 4 dX3_relocate_90 rfl rfl ?_
        refine ex_get (v := .int (nI i)) fl_X3_36 S.ob rfl dX3_relocate_91 ?_
        refine ex_iload_n 3 dX3_relocate_94 rfl rfl ?_
        refine ex_iload_n 2 dX3_relocate_95 rfl rfl ?_
        refine ex_call0 (As := [.int (nI i), .int (nI x), .int (nI y)]) (v := .int (nI (mvP i x y))) (ci := 3) vl_X3_93 rfl (c_pam (by omega) (by omega) (by omega)) S.ob rfl (by decide) (Nat.le_of_ble_eq_true rfl) (Nat.le_refl _) (Nat.le_refl _) rfl dX3_relocate_96 ?_
        refine exS_putG (g1 := (some (mvP i x y))) S fl_X3_36 rfl dX3_relocate_99 (fun h S => ?_)
        refine ex_aload_n 4 dX3_relocate_102 rfl rfl ?_
        refine ex_aload_n 4 dX3_relocate_103 rfl rfl ?_
        refine ex_aload_n 4 dX3_relocate_104 rfl rfl ?_
        refine ex_get (v := .int (nI t)) fl_X3_39 S.ob rfl dX3_relocate_105 ?_
        refine ex_iload_n 3 dX3_relocate_108 rfl rfl ?_
        refine ex_iload_n 2 dX3_relocate_109 rfl rfl ?_
        refine ex_call0 (As := [.int (nI t), .int (nI x), .int (nI y)]) (v := .int (nI (mvP t x y))) (ci := 3) vl_X3_93 rfl (c_pam (by omega) (by omega) (by omega)) S.ob rfl (by decide) (Nat.le_of_ble_eq_true rfl) (Nat.le_refl _) (Nat.le_refl _) rfl dX3_relocate_110 ?_
        refine exS_putT (t1 := mvP t x y) S fl_X3_39 rfl dX3_relocate_113 (fun h S => ?_)
        exact ex_vret hQ rfl ⟨rfl, rfl, S⟩ dX3_relocate_116
    | succ k ih =>
      intro p h r hk hp S hr
      rcases Nat.lt_or_ge y p with hlt | hge
      · refine ex_iload 0 dX3_relocate_53 rfl ?_
        refine ex_iload_n 2 dX3_relocate_55 rfl rfl ?_
        refine ex_icmp_le (tgt := 81) dX3_relocate_56 (by decide) (fun c_56 => absurd c_56 (fun q9 => absurd ((nI_leI (by omega) (by omega)).mp q9) (by omega))) (fun c_56 => ?_)
        refine ex_aload_n 4 dX3_relocate_59 rfl rfl ?_
        refine ex_get (v := .ref (o + 2)) fl_X3_25 S.ob rfl dX3_relocate_60 ?_
        refine ex_iload 0 dX3_relocate_63 rfl ?_
        refine ex_aload_n 4 dX3_relocate_65 rfl rfl ?_
        refine ex_get (v := .ref (o + 2)) fl_X3_25 S.ob rfl dX3_relocate_66 ?_
        refine ex_iload 0 dX3_relocate_69 rfl ?_
        refine ex_iconst (v := nI 1) dX3_relocate_71 (by decide) ?_
        refine ex_isubN dX3_relocate_72 (by omega) ?_
        refine exA_ld (i := p - 1) (j := (p - 1)) S rfl (by omega) (by rw [hr _ (by omega), if_neg (by omega), if_neg (by omega)]) dX3_relocate_73 ?_
        refine exA_st (i := p) (j := (p - 1)) S rfl (by omega) (by omega) dX3_relocate_74 (fun h S => ?_)
        refine ex_iinc (v := nI (p - 1)) (lv' := [(4, .int (nI (p - 1))), (3, .ref (o + 3 + π x)), (2, .int (nI y)), (1, .int (nI x)), (0, .ref o)]) 0 dX3_relocate_75 rfl (by have e9 := pk_m1 (p - 1); rw [show p - 1 + 1 = p by omega] at e9; exact e9) (by decide) rfl ?_
        refine ex_goto (tgt := 53) dX3_relocate_78 (by decide) ?_
        have e2 := ih (p - 1) h _ (by omega) (by omega) S (fun j hj => by
          show (if j = p then _ else r j) = _
          by_cases e : j = p
          · rw [if_pos e, if_neg (by omega), if_pos (by omega), e]
          · rw [if_neg e, hr j hj]
            by_cases e1 : x ≤ j ∧ j < y
            · rw [if_pos e1, if_pos e1]
            · rw [if_neg e1, if_neg e1]
              by_cases e2 : p < j ∧ j ≤ x
              · rw [if_pos e2, if_pos (by omega)]
              · rw [if_neg e2, if_neg (by omega)])
        refine ex_lv (lv2 := [(4, .int (nI (p - 1))), (3, .ref (o + 3 + π x)), (2, .int (nI y)), (1, .int (nI x)), (0, .ref o)]) [0, 1, 2, 3, 4] rfl ?_
        exact e2
      · refine ex_iload 0 dX3_relocate_53 rfl ?_
        refine ex_iload_n 2 dX3_relocate_55 rfl rfl ?_
        refine ex_icmp_le (tgt := 81) dX3_relocate_56 (by decide) (fun c_56 => ?_) (fun c_56 => absurd ((nI_leI (by omega) (by omega)).mpr (by omega)) c_56)
        refine ex_aload_n 4 dX3_relocate_81 rfl rfl ?_
        refine ex_get (v := .ref (o + 2)) fl_X3_25 S.ob rfl dX3_relocate_82 ?_
        refine ex_iload_n 2 dX3_relocate_85 rfl rfl ?_
        refine ex_aload_n 1 dX3_relocate_86 rfl rfl ?_
        refine exA_st (i := y) (j := x) S rfl (by omega) (by omega) dX3_relocate_87 (fun h S => ?_)
        have S := S.done n8 hx hy (fun j hj => by
          show (if j = y then _ else r j) = _
          unfold mvI
          by_cases e : j = y
          · rw [if_pos e, if_pos e]
          · rw [if_neg e, if_neg e, hr j hj]
            by_cases e1 : x ≤ j ∧ j < y
            · rw [if_pos e1, if_pos e1]
            · rw [if_neg e1, if_neg e1]
              by_cases e2 : p < j ∧ j ≤ x
              · rw [if_pos e2, if_pos (by omega)]
              · rw [if_neg e2, if_neg (by omega)])
        rcases g with _ | i
        · refine ex_aload_n 4 dX3_relocate_88 rfl rfl ?_
          refine ex_aload_n 4 dX3_relocate_89 rfl rfl ?_
          refine ex_aload_n 4 dX3_relocate_90 rfl rfl ?_
          refine ex_get (v := .int (-6)) fl_X3_36 S.ob rfl dX3_relocate_91 ?_
          refine ex_iload_n 3 dX3_relocate_94 rfl rfl ?_
          refine ex_iload_n 2 dX3_relocate_95 rfl rfl ?_
          refine ex_call0 (As := [.int (-6), .int (nI x), .int (nI y)]) (v := .int (-6)) (ci := 3) vl_X3_93 rfl (c_pamN (by omega) (by omega)) S.ob rfl (by decide) (Nat.le_of_ble_eq_true rfl) (Nat.le_refl _) (Nat.le_refl _) rfl dX3_relocate_96 ?_
          refine exS_putG (g1 := none) S fl_X3_36 rfl dX3_relocate_99 (fun h S => ?_)
          refine ex_aload_n 4 dX3_relocate_102 rfl rfl ?_
          refine ex_aload_n 4 dX3_relocate_103 rfl rfl ?_
          refine ex_aload_n 4 dX3_relocate_104 rfl rfl ?_
          refine ex_get (v := .int (nI t)) fl_X3_39 S.ob rfl dX3_relocate_105 ?_
          refine ex_iload_n 3 dX3_relocate_108 rfl rfl ?_
          refine ex_iload_n 2 dX3_relocate_109 rfl rfl ?_
          refine ex_call0 (As := [.int (nI t), .int (nI x), .int (nI y)]) (v := .int (nI (mvP t x y))) (ci := 3) vl_X3_93 rfl (c_pam (by omega) (by omega) (by omega)) S.ob rfl (by decide) (Nat.le_of_ble_eq_true rfl) (Nat.le_refl _) (Nat.le_refl _) rfl dX3_relocate_110 ?_
          refine exS_putT (t1 := mvP t x y) S fl_X3_39 rfl dX3_relocate_113 (fun h S => ?_)
          exact ex_vret hQ rfl ⟨rfl, rfl, S⟩ dX3_relocate_116
        · have gi := gw i rfl
          refine ex_aload_n 4 dX3_relocate_88 rfl rfl ?_
          refine ex_aload_n 4 dX3_relocate_89 rfl rfl ?_
          refine ex_aload_n 4 dX3_relocate_90 rfl rfl ?_
          refine ex_get (v := .int (nI i)) fl_X3_36 S.ob rfl dX3_relocate_91 ?_
          refine ex_iload_n 3 dX3_relocate_94 rfl rfl ?_
          refine ex_iload_n 2 dX3_relocate_95 rfl rfl ?_
          refine ex_call0 (As := [.int (nI i), .int (nI x), .int (nI y)]) (v := .int (nI (mvP i x y))) (ci := 3) vl_X3_93 rfl (c_pam (by omega) (by omega) (by omega)) S.ob rfl (by decide) (Nat.le_of_ble_eq_true rfl) (Nat.le_refl _) (Nat.le_refl _) rfl dX3_relocate_96 ?_
          refine exS_putG (g1 := (some (mvP i x y))) S fl_X3_36 rfl dX3_relocate_99 (fun h S => ?_)
          refine ex_aload_n 4 dX3_relocate_102 rfl rfl ?_
          refine ex_aload_n 4 dX3_relocate_103 rfl rfl ?_
          refine ex_aload_n 4 dX3_relocate_104 rfl rfl ?_
          refine ex_get (v := .int (nI t)) fl_X3_39 S.ob rfl dX3_relocate_105 ?_
          refine ex_iload_n 3 dX3_relocate_108 rfl rfl ?_
          refine ex_iload_n 2 dX3_relocate_109 rfl rfl ?_
          refine ex_call0 (As := [.int (nI t), .int (nI x), .int (nI y)]) (v := .int (nI (mvP t x y))) (ci := 3) vl_X3_93 rfl (c_pam (by omega) (by omega) (by omega)) S.ob rfl (by decide) (Nat.le_of_ble_eq_true rfl) (Nat.le_refl _) (Nat.le_refl _) rfl dX3_relocate_110 ?_
          refine exS_putT (t1 := mvP t x y) S fl_X3_39 rfl dX3_relocate_113 (fun h S => ?_)
          exact ex_vret hQ rfl ⟨rfl, rfl, S⟩ dX3_relocate_116
  have L1 : ∀ (k p : Nat) (h : HP) (r : Nat → Option Nat), p + k = y ∨ (p = x ∧ y ≤ x) → x ≤ p → SAF G h0 h o π (n, g, t, u, q) r → (∀ j, j < 8 → r j = some (o + 3 + π (if x ≤ j ∧ j < p then j + 1 else j))) → ex G l X Q 1 0 0 0 0 cX3_relocate yX3_relocate.cls 5 none h z 22 [(4, .int (nI p)), (3, .ref (o + 3 + π x)), (2, .int (nI y)), (1, .int (nI x)), (0, .ref o)] [] := by
    intro k
    induction k with
    | zero =>
      intro p h r hk hp S hr
      refine ex_iload 0 dX3_relocate_22 rfl ?_
      refine ex_iload_n 2 dX3_relocate_24 rfl rfl ?_
      refine ex_icmp_ge (tgt := 50) dX3_relocate_25 (by decide) (fun c_25 => ?_) (fun c_25 => absurd ((nI_leI (by omega) (by omega)).mpr (by omega)) c_25)
      refine ex_iload_n 3 dX3_relocate_50 rfl rfl ?_
      refine ex_istore (lv' := [(4, .int (nI x)), (3, .ref (o + 3 + π x)), (2, .int (nI y)), (1, .int (nI x)), (0, .ref o)]) dX3_relocate_51 (by decide) rfl ?_
      have e2 := L2 (x - y) x h r (by omega) (Nat.le_refl _) S (fun j hj => by
        rw [hr j hj]
        by_cases e1 : x ≤ j ∧ j < y
        · rw [if_pos e1, if_pos (by omega)]
        · rw [if_neg e1, if_neg (by omega), if_neg (by omega)])
      refine ex_lv (lv2 := [(4, .int (nI x)), (3, .ref (o + 3 + π x)), (2, .int (nI y)), (1, .int (nI x)), (0, .ref o)]) [0, 1, 2, 3, 4] rfl ?_
      exact e2
    | succ k ih =>
      intro p h r hk hp S hr
      rcases Nat.lt_or_ge p y with hlt | hge
      · refine ex_iload 0 dX3_relocate_22 rfl ?_
        refine ex_iload_n 2 dX3_relocate_24 rfl rfl ?_
        refine ex_icmp_ge (tgt := 50) dX3_relocate_25 (by decide) (fun c_25 => absurd c_25 (fun q9 => absurd ((nI_leI (by omega) (by omega)).mp q9) (by omega))) (fun c_25 => ?_)
        refine ex_aload_n 4 dX3_relocate_28 rfl rfl ?_
        refine ex_get (v := .ref (o + 2)) fl_X3_25 S.ob rfl dX3_relocate_29 ?_
        refine ex_iload 0 dX3_relocate_32 rfl ?_
        refine ex_aload_n 4 dX3_relocate_34 rfl rfl ?_
        refine ex_get (v := .ref (o + 2)) fl_X3_25 S.ob rfl dX3_relocate_35 ?_
        refine ex_iload 0 dX3_relocate_38 rfl ?_
        refine ex_iconst (v := nI 1) dX3_relocate_40 (by decide) ?_
        refine ex_iaddN dX3_relocate_41 ?_
        refine exA_ld (i := p + 1) (j := (p + 1)) S rfl (by omega) (by rw [hr _ (by omega), if_neg (by omega)]) dX3_relocate_42 ?_
        refine exA_st (i := p) (j := (p + 1)) S rfl (by omega) (by omega) dX3_relocate_43 (fun h S => ?_)
        refine ex_iinc (v := nI (p + 1)) (lv' := [(4, .int (nI (p + 1))), (3, .ref (o + 3 + π x)), (2, .int (nI y)), (1, .int (nI x)), (0, .ref o)]) 0 dX3_relocate_44 rfl (nI_1 p) (by decide) rfl ?_
        refine ex_goto (tgt := 22) dX3_relocate_47 (by decide) ?_
        have e2 := ih (p + 1) h _ (by omega) (by omega) S (fun j hj => by
          show (if j = p then _ else r j) = _
          by_cases e : j = p
          · rw [if_pos e, if_pos (by omega), e]
          · rw [if_neg e, hr j hj]
            by_cases e1 : x ≤ j ∧ j < p
            · rw [if_pos e1, if_pos (by omega)]
            · rw [if_neg e1, if_neg (by omega)])
        refine ex_lv (lv2 := [(4, .int (nI (p + 1))), (3, .ref (o + 3 + π x)), (2, .int (nI y)), (1, .int (nI x)), (0, .ref o)]) [0, 1, 2, 3, 4] rfl ?_
        exact e2
      · refine ex_iload 0 dX3_relocate_22 rfl ?_
        refine ex_iload_n 2 dX3_relocate_24 rfl rfl ?_
        refine ex_icmp_ge (tgt := 50) dX3_relocate_25 (by decide) (fun c_25 => ?_) (fun c_25 => absurd ((nI_leI (by omega) (by omega)).mpr (by omega)) c_25)
        refine ex_iload_n 3 dX3_relocate_50 rfl rfl ?_
        refine ex_istore (lv' := [(4, .int (nI x)), (3, .ref (o + 3 + π x)), (2, .int (nI y)), (1, .int (nI x)), (0, .ref o)]) dX3_relocate_51 (by decide) rfl ?_
        have e2 := L2 (x - y) x h r (by omega) (Nat.le_refl _) S (fun j hj => by
          rw [hr j hj]
          by_cases e1 : x ≤ j ∧ j < y
          · rw [if_pos e1, if_pos (by omega)]
          · rw [if_neg e1, if_neg (by omega), if_neg (by omega)])
        refine ex_lv (lv2 := [(4, .int (nI x)), (3, .ref (o + 3 + π x)), (2, .int (nI y)), (1, .int (nI x)), (0, .ref o)]) [0, 1, 2, 3, 4] rfl ?_
        exact e2
  have e2 := L1 (y - x) x h0 r0 (by omega) (Nat.le_refl _) SA0 (fun j hj => by rw [hr0 j hj, if_neg (by omega)])
  refine ex_lv (lv2 := [(4, .int (nI x)), (3, .ref (o + 3 + π x)), (2, .int (nI y)), (1, .int (nI x)), (0, .ref o)]) [0, 1, 4, 3, 2] rfl ?_
  exact e2

set_option maxRecDepth 20000 in
set_option maxHeartbeats 2000000 in
theorem c_pcopy {G : GG} {l : Launch} {h0 : HP} {z o o2 : Nat} {π π2 : Nat → Nat} {n : Nat} {g : Option Nat} {t : Nat} {u : Nat → Int32} {q : Nat → Nat → Int32} {n2 : Nat} {g2 : Option Nat} {t2 : Nat} {u2 : Nat → Int32} {q2 : Nat → Nat → Int32} (S0 : SP G h0 o π (n, g, t, u, q)) (S02 : SP G h0 o2 π2 (n2, g2, t2, u2, q2)) (hap : o + 11 ≤ o2 ∨ o2 + 11 ≤ o) {j j2 : Nat} (h8 : j < 8) (hn : j < n) (h82 : j2 < 8) (hn2 : j2 < n2) : Ct G l 0 0 0 yX2_copyFrom cX2_copyFrom 2 none [.ref (o + 3 + π j), .ref (o2 + 3 + π2 j2)] h0 z (pS G none h0 z o π (n, g, t, u, (uq (uq (uq (uq (uq (uq q j 0 (q2 j2 0)) j 1 (q2 j2 1)) j 2 (q2 j2 2)) j 3 (q2 j2 3)) j 4 (q2 j2 4)) j 5 (q2 j2 5)))) := by
  refine Ct.intro (lv := [(0, .ref (o + 3 + π j)), (1, .ref (o2 + 3 + π2 j2))]) (by decide +kernel) (Nat.le_of_ble_eq_true rfl) rfl (fun X Q hQ hnm => ?_)
  have S := S0.sf
  refine ex_aload_n 0 dX2_copyFrom_0 rfl rfl ?_
  refine ex_aload_n 1 dX2_copyFrom_1 rfl rfl ?_
  refine ex_get (v := .int (q2 j2 0)) fl_X2_7 ((S02.kept (fun a h1 h2 => S.2 a (by omega))).pe h82 hn2) rfl dX2_copyFrom_2 ?_
  refine exP_put S h8 hn fl_X2_7 (by decide) rfl dX2_copyFrom_5 (fun h S => ?_)
  refine ex_aload_n 0 dX2_copyFrom_8 rfl rfl ?_
  refine ex_aload_n 1 dX2_copyFrom_9 rfl rfl ?_
  refine ex_get (v := .int (q2 j2 1)) fl_X2_13 ((S02.kept (fun a h1 h2 => S.2 a (by omega))).pe h82 hn2) rfl dX2_copyFrom_10 ?_
  refine exP_put S h8 hn fl_X2_13 (by decide) rfl dX2_copyFrom_13 (fun h S => ?_)
  refine ex_aload_n 0 dX2_copyFrom_16 rfl rfl ?_
  refine ex_aload_n 1 dX2_copyFrom_17 rfl rfl ?_
  refine ex_get (v := .int (q2 j2 2)) fl_X2_16 ((S02.kept (fun a h1 h2 => S.2 a (by omega))).pe h82 hn2) rfl dX2_copyFrom_18 ?_
  refine exP_put S h8 hn fl_X2_16 (by decide) rfl dX2_copyFrom_21 (fun h S => ?_)
  refine ex_aload_n 0 dX2_copyFrom_24 rfl rfl ?_
  refine ex_aload_n 1 dX2_copyFrom_25 rfl rfl ?_
  refine ex_get (v := .int (q2 j2 3)) fl_X2_19 ((S02.kept (fun a h1 h2 => S.2 a (by omega))).pe h82 hn2) rfl dX2_copyFrom_26 ?_
  refine exP_put S h8 hn fl_X2_19 (by decide) rfl dX2_copyFrom_29 (fun h S => ?_)
  refine ex_aload_n 0 dX2_copyFrom_32 rfl rfl ?_
  refine ex_aload_n 1 dX2_copyFrom_33 rfl rfl ?_
  refine ex_get (v := .int (q2 j2 4)) fl_X2_22 ((S02.kept (fun a h1 h2 => S.2 a (by omega))).pe h82 hn2) rfl dX2_copyFrom_34 ?_
  refine exP_put S h8 hn fl_X2_22 (by decide) rfl dX2_copyFrom_37 (fun h S => ?_)
  refine ex_aload_n 0 dX2_copyFrom_40 rfl rfl ?_
  refine ex_aload_n 1 dX2_copyFrom_41 rfl rfl ?_
  refine ex_get (v := .int (q2 j2 5)) fl_X2_25 ((S02.kept (fun a h1 h2 => S.2 a (by omega))).pe h82 hn2) rfl dX2_copyFrom_42 ?_
  refine exP_put S h8 hn fl_X2_25 (by decide) rfl dX2_copyFrom_45 (fun h S => ?_)
  exact ex_vret hQ rfl ⟨rfl, rfl, S⟩ dX2_copyFrom_48
