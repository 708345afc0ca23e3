set_option maxRecDepth 20000 in
set_option maxHeartbeats 2000000 in
theorem m_init {G : GG} {l : Launch} {h0 : HP} {m : Nat} (H0 : h0 m = some (.inr (5, [.null, .null, .int 0, .null, .null, .null, .int 0]))) : Ct G l 1 5 712 yX5_init cX5_init 1 none [.ref m] h0 (m + 1) (fun r h1 z1 => r = none ∧ z1 = m + 6 ∧ MF G h0 h1 m x0) := by
  refine Ct.intro (lv := [(0, .ref m)]) (by decide +kernel) (Nat.le_of_ble_eq_true rfl) rfl (fun X Q hQ hnm => ?_)
  refine ex_heq (hu_id H0) ?_
  refine ex_aload_n 0 dX5_init_0 rfl rfl ?_
  refine ex_objInit oi_X5_1 oi_2 oi_3 (by decide) (Nat.le_of_ble_eq_true rfl) dX5_init_1 ?_
  refine ex_aload_n 0 dX5_init_4 rfl rfl ?_
  refine ex_sipush (v := nI 130) dX5_init_5 (by decide) ?_
  refine ex_newaI arrI (by decide) (by decide) (by decide) dX5_init_8 ?_
  refine ex_cZ (by omega) ?_
  refine ex_putFR (fs1 := [.ref (m + 1), .null, .int 0, .null, .null, .null, .int 0]) hnm rfl fl_X5_7 rfl rfl (Nat.le_of_ble_eq_true rfl) rfl dX5_init_10 ?_
  refine ex_aload_n 0 dX5_init_13 rfl rfl ?_
  refine ex_sipush (v := nI 390) dX5_init_14 (by decide) ?_
  refine ex_newaI arrI (by decide) (by decide) (by decide) dX5_init_17 ?_
  refine ex_cZ (by omega) ?_
  refine ex_putFR (fs1 := [.ref (m + 1), .ref (m + 2), .int 0, .null, .null, .null, .int 0]) hnm rfl fl_X5_13 rfl rfl (Nat.le_of_ble_eq_true rfl) rfl dX5_init_19 ?_
  refine ex_aload_n 0 dX5_init_22 rfl rfl ?_
  refine ex_sipush (v := nI 130) dX5_init_23 (by decide) ?_
  refine ex_newaI arrI (by decide) (by decide) (by decide) dX5_init_26 ?_
  refine ex_cZ (by omega) ?_
  refine ex_putFR (fs1 := [.ref (m + 1), .ref (m + 2), .int 0, .ref (m + 3), .null, .null, .int 0]) hnm rfl fl_X5_16 rfl rfl (Nat.le_of_ble_eq_true rfl) rfl dX5_init_28 ?_
  refine ex_aload_n 0 dX5_init_31 rfl rfl ?_
  refine ex_iconst (v := nI 2) dX5_init_32 (by decide) ?_
  refine ex_newaZ arrZ (by decide) (by decide) (by decide) dX5_init_33 ?_
  refine ex_cZ (by omega) ?_
  refine ex_putFR (fs1 := [.ref (m + 1), .ref (m + 2), .int 0, .ref (m + 3), .ref (m + 4), .null, .int 0]) hnm rfl fl_X5_19 rfl rfl (Nat.le_of_ble_eq_true rfl) rfl dX5_init_35 ?_
  refine ex_aload_n 0 dX5_init_38 rfl rfl ?_
  refine ex_bipush (v := nI 60) dX5_init_39 (by decide) ?_
  refine ex_newaI arrI (by decide) (by decide) (by decide) dX5_init_41 ?_
  refine ex_cZ (by omega) ?_
  refine ex_putFR (fs1 := [.ref (m + 1), .ref (m + 2), .int 0, .ref (m + 3), .ref (m + 4), .ref (m + 5), .int 0]) hnm rfl fl_X5_23 rfl rfl (Nat.le_of_ble_eq_true rfl) rfl dX5_init_43 ?_
  have S : MA G h0 (hu (hu (hu (hu (hu (hu h0 (m + 1) (aA G 0 130 (fun _ => 0))) (m + 2) (aA G 0 390 (fun _ => 0))) (m + 3) (aA G 0 130 (fun _ => 0))) (m + 4) (aA G 2 2 (fun _ => 0))) (m + 5) (aA G 0 60 (fun _ => 0))) m (.inr (5, mF m 0 0))) m 0 0 (fun _ => 0) (fun _ => 0) (fun _ => 0) (fun _ => 0) (fun _ => 0) := by
    refine ⟨hu_s, ?_, ?_, ?_, ?_, ?_, fun a ha => by rw [hu_n (by omega), hu_n (by omega), hu_n (by omega), hu_n (by omega), hu_n (by omega), hu_n (by omega)]⟩
    · rw [hu_n (by omega), hu_n (by omega), hu_n (by omega), hu_n (by omega), hu_n (by omega)]; exact hu_s
    · rw [hu_n (by omega), hu_n (by omega), hu_n (by omega), hu_n (by omega)]; exact hu_s
    · rw [hu_n (by omega), hu_n (by omega), hu_n (by omega)]; exact hu_s
    · rw [hu_n (by omega), hu_n (by omega)]; exact hu_s
    · rw [hu_n (by omega)]; exact hu_s
  suffices G1 : ∀ h : HP, MA G h0 h m 0 0 (fun _ => 0) (fun _ => 0) (fun _ => 0) (fun _ => 0) (fun _ => 0) → ex G l X Q 1 5 712 5 712 cX5_init yX5_init.cls 1 none h (m + 6) 46 [(0, .ref m)] [] from G1 _ S
  clear S
  intro h S
  refine ex_aload_n 0 dX5_init_46 rfl rfl ?_
  refine ex_get (v := .ref (m + 1)) fl_X5_7 S.1 rfl dX5_init_47 ?_
  refine ex_iconst (v := nI 0) dX5_init_50 (by decide) ?_
  refine ex_bipush (v := nI 70) dX5_init_51 (by decide) ?_
  refine exA_st1 (j := 0) S rfl (by decide) dX5_init_53 (fun h S => ?_)
  refine ex_aload_n 0 dX5_init_54 rfl rfl ?_
  refine ex_get (v := .ref (m + 1)) fl_X5_7 S.1 rfl dX5_init_55 ?_
  refine ex_iconst (v := nI 1) dX5_init_58 (by decide) ?_
  refine ex_bipush (v := nI 30) dX5_init_59 (by decide) ?_
  refine exA_st1 (j := 1) S rfl (by decide) dX5_init_61 (fun h S => ?_)
  refine ex_aload_n 0 dX5_init_62 rfl rfl ?_
  refine ex_get (v := .ref (m + 1)) fl_X5_7 S.1 rfl dX5_init_63 ?_
  refine ex_iconst (v := nI 2) dX5_init_66 (by decide) ?_
  refine ex_bipush (v := nI 10) dX5_init_67 (by decide) ?_
  refine exA_st1 (j := 2) S rfl (by decide) dX5_init_69 (fun h S => ?_)
  refine ex_aload_n 0 dX5_init_70 rfl rfl ?_
  refine ex_get (v := .ref (m + 1)) fl_X5_7 S.1 rfl dX5_init_71 ?_
  refine ex_iconst (v := nI 3) dX5_init_74 (by decide) ?_
  refine ex_bipush (v := nI 28) dX5_init_75 (by decide) ?_
  refine exA_st1 (j := 3) S rfl (by decide) dX5_init_77 (fun h S => ?_)
  refine ex_aload_n 0 dX5_init_78 rfl rfl ?_
  refine ex_get (v := .ref (m + 1)) fl_X5_7 S.1 rfl dX5_init_79 ?_
  refine ex_iconst (v := nI 4) dX5_init_82 (by decide) ?_
  refine ex_iconst (v := nI 3) dX5_init_83 (by decide) ?_
  refine exA_st1 (j := 4) S rfl (by decide) dX5_init_84 (fun h S => ?_)
  refine ex_aload_n 0 dX5_init_85 rfl rfl ?_
  refine ex_get (v := .ref (m + 1)) fl_X5_7 S.1 rfl dX5_init_86 ?_
  refine ex_iconst (v := nI 5) dX5_init_89 (by decide) ?_
  refine ex_bipush (v := nI 20) dX5_init_90 (by decide) ?_
  refine exA_st1 (j := 5) S rfl (by decide) dX5_init_92 (fun h S => ?_)
  refine ex_aload_n 0 dX5_init_93 rfl rfl ?_
  refine ex_get (v := .ref (m + 1)) fl_X5_7 S.1 rfl dX5_init_94 ?_
  refine ex_bipush (v := nI 8) dX5_init_97 (by decide) ?_
  refine ex_bipush (v := nI 50) dX5_init_99 (by decide) ?_
  refine exA_st1 (j := 8) S rfl (by decide) dX5_init_101 (fun h S => ?_)
  refine ex_aload_n 0 dX5_init_102 rfl rfl ?_
  refine ex_get (v := .ref (m + 1)) fl_X5_7 S.1 rfl dX5_init_103 ?_
  refine ex_bipush (v := nI 9) dX5_init_106 (by decide) ?_
  refine ex_iconst (v := (-1)) dX5_init_108 (by decide) ?_
  refine exA_st1 (j := 9) S rfl (by decide) dX5_init_109 (fun h S => ?_)
  refine ex_aload_n 0 dX5_init_110 rfl rfl ?_
  refine ex_get (v := .ref (m + 1)) fl_X5_7 S.1 rfl dX5_init_111 ?_
  refine ex_bipush (v := nI 11) dX5_init_114 (by decide) ?_
  refine ex_sipush (v := nI 1000) dX5_init_116 (by decide) ?_
  refine exA_st1 (j := 11) S rfl (by decide) dX5_init_119 (fun h S => ?_)
  refine ex_vret hQ rfl ⟨rfl, rfl, _, _, _, _, _, S, ⟨fun i hi => ?_, fun j k hj hk => absurd hj (Nat.not_lt_zero _)⟩, fun j hj => absurd hj (Nat.not_lt_zero _), by decide, fun i hi => rfl, fun i hi => absurd hi (Nat.not_lt_zero _), by decide⟩ dX5_init_120
  rcases (show i = 0 ∨ i = 1 ∨ i = 2 ∨ i = 3 ∨ i = 4 ∨ i = 5 ∨ i = 6 ∨ i = 7 ∨ i = 8 ∨ i = 9 ∨ i = 10 ∨ i = 11 ∨ i = 12 ∨ i = 13 ∨ i = 14 ∨ i = 15 ∨ i = 16 by omega) with rfl | rfl | rfl | rfl | rfl | rfl | rfl | rfl | rfl | rfl | rfl | rfl | rfl | rfl | rfl | rfl | rfl <;> rfl

