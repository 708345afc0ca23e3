set_option maxRecDepth 20000 in
set_option maxHeartbeats 2000000 in
theorem e378n0 {G : GG} {l : Launch} {X : CT} {Q : State → Prop} {h : HP} {z b n t : Nat} {g : Option Nat} {u : Nat → Int32} {q : Nat → Nat → Int32} {R R2 : RX} (hQ : RQ G X Q 0 0 (pL G b z (X_pass ((n, g, t, u, q), R) (nI 1)).2)) (S : PP G h z b ((n, g, t, u, q), R)) (wf : wfA (n, g, t, u, q)) (m3 : 0 < u 3) {u2 : Nat → Int32} {q3 : Nat → Nat → Int32} {pv hv tv du ea gg : Int32} {t2 : Nat} (wf2 : wfA (n, none, t2, (upd u2 8 (u2 8 + cpI (nI 50) (u2 8))), q3)) (hX : (X_pass ((n, g, t, u, q), R) (nI 1)) = (pv, ((n, none, t2, (upd u2 8 (u2 8 + cpI (nI 50) (u2 8))), q3), R2))) (h6 : u2 6 = u 6 + nI 1) (h11 : u2 11 = u 11 - du) (h15 : u2 15 = u 15 + ea) (h17 : sumP q3 n = sumP q n + du - ea) (h14 : u2 14 = u 14 + nI 0) (h12a : hv < 0 ∨ ¬ pv = 0 → u2 12 = u 12 + nI 0) (h12b : ¬ hv < 0 → pv = 0 → u2 12 = u 12 + nI 1) (htv : ¬ n = 0 → tv = nI t2) : ex G l X Q 6 0 0 0 0 cL_isDay yL_isDay.cls 18 (some .boolean) h z 378 [(16, .int (nI 0)), (15, .int ea), (14, .int du), (13, .int pv), (12, .int (-6)), (11, .int hv), (10, .int tv), (9, .int (u 12)), (8, .int (u 14)), (7, .int (u 15)), (6, .int (u 11)), (5, .int (sumP q n)), (4, .int (u2 8)), (3, .int gg), (2, .int (u 6 + nI 1)), (1, .int (nI n)), (0, .ref b)] [] := by
  have n8 : n ≤ 8 := wf.1
  have hX2 := hX
  rw [hX2] at hQ
  have K403 : ex G l X Q 6 0 0 0 0 cL_isDay yL_isDay.cls 18 (some .boolean) h z 403 [(16, .int (nI 0)), (15, .int ea), (14, .int du), (13, .int pv), (12, .int (-6)), (11, .int hv), (10, .int tv), (9, .int (u 12)), (8, .int (u 14)), (7, .int (u 15)), (6, .int (u 11)), (5, .int (sumP q n)), (4, .int (u2 8)), (3, .int gg), (2, .int (u 6 + nI 1)), (1, .int (nI n)), (0, .ref b)] [.int (cpI (nI 50) (u2 8)), .int (u2 8)] := by
    refine ex_iadd dL_isDay_403 ?_
    refine ex_istore (lv' := [(4, .int ((u2 8) + (cpI (nI 50) (u2 8)))), (16, .int (nI 0)), (15, .int ea), (14, .int du), (13, .int pv), (12, .int (-6)), (11, .int hv), (10, .int tv), (9, .int (u 12)), (8, .int (u 14)), (7, .int (u 15)), (6, .int (u 11)), (5, .int (sumP q n)), (3, .int gg), (2, .int (u 6 + nI 1)), (1, .int (nI n)), (0, .ref b)]) dL_isDay_404 (by decide) rfl ?_
    refine ex_iload 1 dL_isDay_406 rfl ?_
    refine ex_if_eq (tgt := 416) dL_isDay_408 (by decide) (fun c_408 => ?_) (fun c_408 => absurd (by decide) c_408)
    refine ex_iload 5 dL_isDay_416 rfl ?_
    refine ex_istore (lv' := [(17, .int (-6)), (4, .int ((u2 8) + (cpI (nI 50) (u2 8)))), (16, .int (nI 0)), (15, .int ea), (14, .int du), (13, .int pv), (12, .int (-6)), (11, .int hv), (10, .int tv), (9, .int (u 12)), (8, .int (u 14)), (7, .int (u 15)), (6, .int (u 11)), (5, .int (sumP q n)), (3, .int gg), (2, .int (u 6 + nI 1)), (1, .int (nI n)), (0, .ref b)]) dL_isDay_418 (by decide) rfl ?_
    refine ex_aload_n 17 dL_isDay_420 rfl rfl ?_
    refine ex_iconst (v := nI 1) dL_isDay_421 (by decide) ?_
    refine ex_ch (As := [.int (nI 1)]) (v := pv) (x2 := ((n, none, t2, (upd u2 8 (u2 8 + cpI (nI 50) (u2 8))), q3), R2)) vl_L_18 rfl S (c_pass S wf m3) (hX) rfl (by decide) (Nat.le_of_ble_eq_true rfl) (Nat.le_refl _) (Nat.le_refl _) rfl dL_isDay_422 (fun h S => ?_)
    refine ex_iload 5 dL_isDay_425 rfl ?_
    refine ex_icmp_eq (tgt := 432) dL_isDay_427 (by decide) (fun c_427 => ?_) (fun c_427 => absurd (rfl) c_427)
    refine ex_aload_n 17 dL_isDay_432 rfl rfl ?_
    refine ex_bipush (v := nI 6) dL_isDay_433 (by decide) ?_
    refine ex_cnt (k := 6) (v := u2 6) vl_L_8 S wf2 (by decide) rfl (by decide) (Nat.le_of_ble_eq_true rfl) (Nat.le_refl _) (Nat.le_refl _) dL_isDay_435 (fun h S => ?_)
    refine ex_iload_n 15 dL_isDay_438 rfl rfl ?_
    refine ex_icmp_ne (tgt := 591) dL_isDay_439 (by decide) (fun c_439 => absurd (h6) c_439) (fun c_439 => ?_)
    refine ex_aload_n 17 dL_isDay_442 rfl rfl ?_
    refine ex_bipush (v := nI 8) dL_isDay_443 (by decide) ?_
    refine ex_cnt (k := 8) (v := u2 8 + cpI (nI 50) (u2 8)) vl_L_8 S wf2 (by decide) rfl (by decide) (Nat.le_of_ble_eq_true rfl) (Nat.le_refl _) (Nat.le_refl _) dL_isDay_445 (fun h S => ?_)
    refine ex_iload 1 dL_isDay_448 rfl ?_
    refine ex_icmp_ne (tgt := 591) dL_isDay_450 (by decide) (fun c_450 => absurd (rfl) c_450) (fun c_450 => ?_)
    refine ex_aload_n 17 dL_isDay_453 rfl rfl ?_
    refine ex_bipush (v := nI 9) dL_isDay_454 (by decide) ?_
    refine ex_cnt (k := 9) (v := (-6)) vl_L_8 S wf2 (by decide) rfl (by decide) (Nat.le_of_ble_eq_true rfl) (Nat.le_refl _) (Nat.le_refl _) dL_isDay_456 (fun h S => ?_)
    refine ex_iload 0 dL_isDay_459 rfl ?_
    refine ex_icmp_ne (tgt := 591) dL_isDay_461 (by decide) (fun c_461 => absurd (rfl) c_461) (fun c_461 => ?_)
    refine ex_iload 0 dL_isDay_464 rfl ?_
    refine ex_if_ge (tgt := 493) dL_isDay_466 (by decide) (fun c_466 => ?_) (fun c_466 => ?_)
    · refine ex_aload_n 17 dL_isDay_493 rfl rfl ?_
      refine ex_bipush (v := nI 11) dL_isDay_494 (by decide) ?_
      refine ex_cnt (k := 11) (v := u2 11) vl_L_8 S wf2 (by decide) rfl (by decide) (Nat.le_of_ble_eq_true rfl) (Nat.le_refl _) (Nat.le_refl _) dL_isDay_496 (fun h S => ?_)
      refine ex_iload 12 dL_isDay_499 rfl ?_
      refine ex_iload 4 dL_isDay_501 rfl ?_
      refine ex_isub dL_isDay_503 ?_
      refine ex_icmp_ne (tgt := 591) dL_isDay_504 (by decide) (fun c_504 => absurd (h11) c_504) (fun c_504 => ?_)
      refine ex_aload_n 17 dL_isDay_507 rfl rfl ?_
      refine ex_bipush (v := nI 16) dL_isDay_508 (by decide) ?_
      refine ex_cnt (k := 16) (v := u2 15) vl_L_8 S wf2 (by decide) rfl (by decide) (Nat.le_of_ble_eq_true rfl) (Nat.le_refl _) (Nat.le_refl _) dL_isDay_510 (fun h S => ?_)
      refine ex_iload 11 dL_isDay_513 rfl ?_
      refine ex_iload 3 dL_isDay_515 rfl ?_
      refine ex_iadd dL_isDay_517 ?_
      refine ex_icmp_ne (tgt := 591) dL_isDay_518 (by decide) (fun c_518 => absurd (h15) c_518) (fun c_518 => ?_)
      refine ex_aload_n 17 dL_isDay_521 rfl rfl ?_
      refine ex_bipush (v := nI 17) dL_isDay_522 (by decide) ?_
      refine ex_cnt (k := 17) (v := sumP q3 n) vl_L_8 S wf2 (by decide) rfl (by decide) (Nat.le_of_ble_eq_true rfl) (Nat.le_refl _) (Nat.le_refl _) dL_isDay_524 (fun h S => ?_)
      refine ex_iload 13 dL_isDay_527 rfl ?_
      refine ex_iload 4 dL_isDay_529 rfl ?_
      refine ex_iadd dL_isDay_531 ?_
      refine ex_iload 3 dL_isDay_532 rfl ?_
      refine ex_isub dL_isDay_534 ?_
      refine ex_icmp_ne (tgt := 591) dL_isDay_535 (by decide) (fun c_535 => absurd (h17) c_535) (fun c_535 => ?_)
      refine ex_aload_n 17 dL_isDay_538 rfl rfl ?_
      refine ex_bipush (v := nI 15) dL_isDay_539 (by decide) ?_
      refine ex_cnt (k := 15) (v := u2 14) vl_L_8 S wf2 (by decide) rfl (by decide) (Nat.le_of_ble_eq_true rfl) (Nat.le_refl _) (Nat.le_refl _) dL_isDay_541 (fun h S => ?_)
      refine ex_iload 10 dL_isDay_544 rfl ?_
      refine ex_iload 2 dL_isDay_546 rfl ?_
      refine ex_if_eq (tgt := 555) dL_isDay_548 (by decide) (fun c_548 => ?_) (fun c_548 => absurd (by decide) c_548)
      refine ex_iconst (v := nI 0) dL_isDay_555 (by decide) ?_
      refine ex_iadd dL_isDay_556 ?_
      refine ex_icmp_ne (tgt := 591) dL_isDay_557 (by decide) (fun c_557 => absurd (h14) c_557) (fun c_557 => ?_)
      refine ex_aload_n 17 dL_isDay_560 rfl rfl ?_
      refine ex_bipush (v := nI 13) dL_isDay_561 (by decide) ?_
      refine ex_cnt (k := 13) (v := u2 12) vl_L_8 S wf2 (by decide) rfl (by decide) (Nat.le_of_ble_eq_true rfl) (Nat.le_refl _) (Nat.le_refl _) dL_isDay_563 (fun h S => ?_)
      refine ex_iload 9 dL_isDay_566 rfl ?_
      refine ex_iload 7 dL_isDay_568 rfl ?_
      refine ex_if_lt (tgt := 582) dL_isDay_570 (by decide) (fun c_570 => ?_) (fun c_570 => ?_)
      · refine ex_iconst (v := nI 0) dL_isDay_582 (by decide) ?_
        refine ex_iadd dL_isDay_583 ?_
        refine ex_icmp_ne (tgt := 591) dL_isDay_584 (by decide) (fun c_584 => absurd (h12a (by first | exact Or.inl c_570 | exact Or.inr c_575)) c_584) (fun c_584 => ?_)
        refine ex_iconst (v := nI 1) dL_isDay_587 (by decide) ?_
        refine ex_goto (tgt := 592) dL_isDay_588 (by decide) ?_
        exact ex_zret hQ rfl (by decide) ⟨rfl, rfl, S⟩ dL_isDay_592
      · refine ex_iload 5 dL_isDay_573 rfl ?_
        refine ex_if_ne (tgt := 582) dL_isDay_575 (by decide) (fun c_575 => ?_) (fun c_575 => ?_)
        · refine ex_iconst (v := nI 0) dL_isDay_582 (by decide) ?_
          refine ex_iadd dL_isDay_583 ?_
          refine ex_icmp_ne (tgt := 591) dL_isDay_584 (by decide) (fun c_584 => absurd (h12a (by first | exact Or.inl c_570 | exact Or.inr c_575)) c_584) (fun c_584 => ?_)
          refine ex_iconst (v := nI 1) dL_isDay_587 (by decide) ?_
          refine ex_goto (tgt := 592) dL_isDay_588 (by decide) ?_
          exact ex_zret hQ rfl (by decide) ⟨rfl, rfl, S⟩ dL_isDay_592
        · refine ex_iconst (v := nI 1) dL_isDay_578 (by decide) ?_
          refine ex_goto (tgt := 583) dL_isDay_579 (by decide) ?_
          refine ex_iadd dL_isDay_583 ?_
          refine ex_icmp_ne (tgt := 591) dL_isDay_584 (by decide) (fun c_584 => absurd (h12b c_570 c_575) c_584) (fun c_584 => ?_)
          refine ex_iconst (v := nI 1) dL_isDay_587 (by decide) ?_
          refine ex_goto (tgt := 592) dL_isDay_588 (by decide) ?_
          exact ex_zret hQ rfl (by decide) ⟨rfl, rfl, S⟩ dL_isDay_592
    · refine ex_iload_n 16 dL_isDay_469 rfl rfl ?_
      refine ex_if_eq (tgt := 493) dL_isDay_470 (by decide) (fun c_470 => ?_) (fun c_470 => ?_)
      · have n_470 : n = 0 := (nI_eq (b := 0) (by omega) (by omega)).mp c_470
        refine ex_aload_n 17 dL_isDay_493 rfl rfl ?_
        refine ex_bipush (v := nI 11) dL_isDay_494 (by decide) ?_
        refine ex_cnt (k := 11) (v := u2 11) vl_L_8 S wf2 (by decide) rfl (by decide) (Nat.le_of_ble_eq_true rfl) (Nat.le_refl _) (Nat.le_refl _) dL_isDay_496 (fun h S => ?_)
        refine ex_iload 12 dL_isDay_499 rfl ?_
        refine ex_iload 4 dL_isDay_501 rfl ?_
        refine ex_isub dL_isDay_503 ?_
        refine ex_icmp_ne (tgt := 591) dL_isDay_504 (by decide) (fun c_504 => absurd (h11) c_504) (fun c_504 => ?_)
        refine ex_aload_n 17 dL_isDay_507 rfl rfl ?_
        refine ex_bipush (v := nI 16) dL_isDay_508 (by decide) ?_
        refine ex_cnt (k := 16) (v := u2 15) vl_L_8 S wf2 (by decide) rfl (by decide) (Nat.le_of_ble_eq_true rfl) (Nat.le_refl _) (Nat.le_refl _) dL_isDay_510 (fun h S => ?_)
        refine ex_iload 11 dL_isDay_513 rfl ?_
        refine ex_iload 3 dL_isDay_515 rfl ?_
        refine ex_iadd dL_isDay_517 ?_
        refine ex_icmp_ne (tgt := 591) dL_isDay_518 (by decide) (fun c_518 => absurd (h15) c_518) (fun c_518 => ?_)
        refine ex_aload_n 17 dL_isDay_521 rfl rfl ?_
        refine ex_bipush (v := nI 17) dL_isDay_522 (by decide) ?_
        refine ex_cnt (k := 17) (v := sumP q3 n) vl_L_8 S wf2 (by decide) rfl (by decide) (Nat.le_of_ble_eq_true rfl) (Nat.le_refl _) (Nat.le_refl _) dL_isDay_524 (fun h S => ?_)
        refine ex_iload 13 dL_isDay_527 rfl ?_
        refine ex_iload 4 dL_isDay_529 rfl ?_
        refine ex_iadd dL_isDay_531 ?_
        refine ex_iload 3 dL_isDay_532 rfl ?_
        refine ex_isub dL_isDay_534 ?_
        refine ex_icmp_ne (tgt := 591) dL_isDay_535 (by decide) (fun c_535 => absurd (h17) c_535) (fun c_535 => ?_)
        refine ex_aload_n 17 dL_isDay_538 rfl rfl ?_
        refine ex_bipush (v := nI 15) dL_isDay_539 (by decide) ?_
        refine ex_cnt (k := 15) (v := u2 14) vl_L_8 S wf2 (by decide) rfl (by decide) (Nat.le_of_ble_eq_true rfl) (Nat.le_refl _) (Nat.le_refl _) dL_isDay_541 (fun h S => ?_)
        refine ex_iload 10 dL_isDay_544 rfl ?_
        refine ex_iload 2 dL_isDay_546 rfl ?_
        refine ex_if_eq (tgt := 555) dL_isDay_548 (by decide) (fun c_548 => ?_) (fun c_548 => absurd (by decide) c_548)
        refine ex_iconst (v := nI 0) dL_isDay_555 (by decide) ?_
        refine ex_iadd dL_isDay_556 ?_
        refine ex_icmp_ne (tgt := 591) dL_isDay_557 (by decide) (fun c_557 => absurd (h14) c_557) (fun c_557 => ?_)
        refine ex_aload_n 17 dL_isDay_560 rfl rfl ?_
        refine ex_bipush (v := nI 13) dL_isDay_561 (by decide) ?_
        refine ex_cnt (k := 13) (v := u2 12) vl_L_8 S wf2 (by decide) rfl (by decide) (Nat.le_of_ble_eq_true rfl) (Nat.le_refl _) (Nat.le_refl _) dL_isDay_563 (fun h S => ?_)
        refine ex_iload 9 dL_isDay_566 rfl ?_
        refine ex_iload 7 dL_isDay_568 rfl ?_
        refine ex_if_lt (tgt := 582) dL_isDay_570 (by decide) (fun c_570 => ?_) (fun c_570 => ?_)
        · refine ex_iconst (v := nI 0) dL_isDay_582 (by decide) ?_
          refine ex_iadd dL_isDay_583 ?_
          refine ex_icmp_ne (tgt := 591) dL_isDay_584 (by decide) (fun c_584 => absurd (h12a (by first | exact Or.inl c_570 | exact Or.inr c_575)) c_584) (fun c_584 => ?_)
          refine ex_iconst (v := nI 1) dL_isDay_587 (by decide) ?_
          refine ex_goto (tgt := 592) dL_isDay_588 (by decide) ?_
          exact ex_zret hQ rfl (by decide) ⟨rfl, rfl, S⟩ dL_isDay_592
        · refine ex_iload 5 dL_isDay_573 rfl ?_
          refine ex_if_ne (tgt := 582) dL_isDay_575 (by decide) (fun c_575 => ?_) (fun c_575 => ?_)
          · refine ex_iconst (v := nI 0) dL_isDay_582 (by decide) ?_
            refine ex_iadd dL_isDay_583 ?_
            refine ex_icmp_ne (tgt := 591) dL_isDay_584 (by decide) (fun c_584 => absurd (h12a (by first | exact Or.inl c_570 | exact Or.inr c_575)) c_584) (fun c_584 => ?_)
            refine ex_iconst (v := nI 1) dL_isDay_587 (by decide) ?_
            refine ex_goto (tgt := 592) dL_isDay_588 (by decide) ?_
            exact ex_zret hQ rfl (by decide) ⟨rfl, rfl, S⟩ dL_isDay_592
          · refine ex_iconst (v := nI 1) dL_isDay_578 (by decide) ?_
            refine ex_goto (tgt := 583) dL_isDay_579 (by decide) ?_
            refine ex_iadd dL_isDay_583 ?_
            refine ex_icmp_ne (tgt := 591) dL_isDay_584 (by decide) (fun c_584 => absurd (h12b c_570 c_575) c_584) (fun c_584 => ?_)
            refine ex_iconst (v := nI 1) dL_isDay_587 (by decide) ?_
            refine ex_goto (tgt := 592) dL_isDay_588 (by decide) ?_
            exact ex_zret hQ rfl (by decide) ⟨rfl, rfl, S⟩ dL_isDay_592
      · have n_470 : ¬ (n = 0) := fun q9 => c_470 ((nI_eq (b := 0) (by omega) (by omega)).mpr q9)
        refine ex_aload_n 17 dL_isDay_473 rfl rfl ?_
        refine ex_bipush (v := nI 10) dL_isDay_474 (by decide) ?_
        refine ex_cnt (k := 10) (v := nI t2) vl_L_8 S wf2 (by decide) rfl (by decide) (Nat.le_of_ble_eq_true rfl) (Nat.le_refl _) (Nat.le_refl _) dL_isDay_476 (fun h S => ?_)
        refine ex_iload 2 dL_isDay_479 rfl ?_
        refine ex_if_eq (tgt := 488) dL_isDay_481 (by decide) (fun c_481 => ?_) (fun c_481 => absurd (by decide) c_481)
        refine ex_iload 8 dL_isDay_488 rfl ?_
        refine ex_icmp_ne (tgt := 591) dL_isDay_490 (by decide) (fun c_490 => absurd ((htv n_470).symm) c_490) (fun c_490 => ?_)
        refine ex_aload_n 17 dL_isDay_493 rfl rfl ?_
        refine ex_bipush (v := nI 11) dL_isDay_494 (by decide) ?_
        refine ex_cnt (k := 11) (v := u2 11) vl_L_8 S wf2 (by decide) rfl (by decide) (Nat.le_of_ble_eq_true rfl) (Nat.le_refl _) (Nat.le_refl _) dL_isDay_496 (fun h S => ?_)
        refine ex_iload 12 dL_isDay_499 rfl ?_
        refine ex_iload 4 dL_isDay_501 rfl ?_
        refine ex_isub dL_isDay_503 ?_
        refine ex_icmp_ne (tgt := 591) dL_isDay_504 (by decide) (fun c_504 => absurd (h11) c_504) (fun c_504 => ?_)
        refine ex_aload_n 17 dL_isDay_507 rfl rfl ?_
        refine ex_bipush (v := nI 16) dL_isDay_508 (by decide) ?_
        refine ex_cnt (k := 16) (v := u2 15) vl_L_8 S wf2 (by decide) rfl (by decide) (Nat.le_of_ble_eq_true rfl) (Nat.le_refl _) (Nat.le_refl _) dL_isDay_510 (fun h S => ?_)
        refine ex_iload 11 dL_isDay_513 rfl ?_
        refine ex_iload 3 dL_isDay_515 rfl ?_
        refine ex_iadd dL_isDay_517 ?_
        refine ex_icmp_ne (tgt := 591) dL_isDay_518 (by decide) (fun c_518 => absurd (h15) c_518) (fun c_518 => ?_)
        refine ex_aload_n 17 dL_isDay_521 rfl rfl ?_
        refine ex_bipush (v := nI 17) dL_isDay_522 (by decide) ?_
        refine ex_cnt (k := 17) (v := sumP q3 n) vl_L_8 S wf2 (by decide) rfl (by decide) (Nat.le_of_ble_eq_true rfl) (Nat.le_refl _) (Nat.le_refl _) dL_isDay_524 (fun h S => ?_)
        refine ex_iload 13 dL_isDay_527 rfl ?_
        refine ex_iload 4 dL_isDay_529 rfl ?_
        refine ex_iadd dL_isDay_531 ?_
        refine ex_iload 3 dL_isDay_532 rfl ?_
        refine ex_isub dL_isDay_534 ?_
        refine ex_icmp_ne (tgt := 591) dL_isDay_535 (by decide) (fun c_535 => absurd (h17) c_535) (fun c_535 => ?_)
        refine ex_aload_n 17 dL_isDay_538 rfl rfl ?_
        refine ex_bipush (v := nI 15) dL_isDay_539 (by decide) ?_
        refine ex_cnt (k := 15) (v := u2 14) vl_L_8 S wf2 (by decide) rfl (by decide) (Nat.le_of_ble_eq_true rfl) (Nat.le_refl _) (Nat.le_refl _) dL_isDay_541 (fun h S => ?_)
        refine ex_iload 10 dL_isDay_544 rfl ?_
        refine ex_iload 2 dL_isDay_546 rfl ?_
        refine ex_if_eq (tgt := 555) dL_isDay_548 (by decide) (fun c_548 => ?_) (fun c_548 => absurd (by decide) c_548)
        refine ex_iconst (v := nI 0) dL_isDay_555 (by decide) ?_
        refine ex_iadd dL_isDay_556 ?_
        refine ex_icmp_ne (tgt := 591) dL_isDay_557 (by decide) (fun c_557 => absurd (h14) c_557) (fun c_557 => ?_)
        refine ex_aload_n 17 dL_isDay_560 rfl rfl ?_
        refine ex_bipush (v := nI 13) dL_isDay_561 (by decide) ?_
        refine ex_cnt (k := 13) (v := u2 12) vl_L_8 S wf2 (by decide) rfl (by decide) (Nat.le_of_ble_eq_true rfl) (Nat.le_refl _) (Nat.le_refl _) dL_isDay_563 (fun h S => ?_)
        refine ex_iload 9 dL_isDay_566 rfl ?_
        refine ex_iload 7 dL_isDay_568 rfl ?_
        refine ex_if_lt (tgt := 582) dL_isDay_570 (by decide) (fun c_570 => ?_) (fun c_570 => ?_)
        · refine ex_iconst (v := nI 0) dL_isDay_582 (by decide) ?_
          refine ex_iadd dL_isDay_583 ?_
          refine ex_icmp_ne (tgt := 591) dL_isDay_584 (by decide) (fun c_584 => absurd (h12a (by first | exact Or.inl c_570 | exact Or.inr c_575)) c_584) (fun c_584 => ?_)
          refine ex_iconst (v := nI 1) dL_isDay_587 (by decide) ?_
          refine ex_goto (tgt := 592) dL_isDay_588 (by decide) ?_
          exact ex_zret hQ rfl (by decide) ⟨rfl, rfl, S⟩ dL_isDay_592
        · refine ex_iload 5 dL_isDay_573 rfl ?_
          refine ex_if_ne (tgt := 582) dL_isDay_575 (by decide) (fun c_575 => ?_) (fun c_575 => ?_)
          · refine ex_iconst (v := nI 0) dL_isDay_582 (by decide) ?_
            refine ex_iadd dL_isDay_583 ?_
            refine ex_icmp_ne (tgt := 591) dL_isDay_584 (by decide) (fun c_584 => absurd (h12a (by first | exact Or.inl c_570 | exact Or.inr c_575)) c_584) (fun c_584 => ?_)
            refine ex_iconst (v := nI 1) dL_isDay_587 (by decide) ?_
            refine ex_goto (tgt := 592) dL_isDay_588 (by decide) ?_
            exact ex_zret hQ rfl (by decide) ⟨rfl, rfl, S⟩ dL_isDay_592
          · refine ex_iconst (v := nI 1) dL_isDay_578 (by decide) ?_
            refine ex_goto (tgt := 583) dL_isDay_579 (by decide) ?_
            refine ex_iadd dL_isDay_583 ?_
            refine ex_icmp_ne (tgt := 591) dL_isDay_584 (by decide) (fun c_584 => absurd (h12b c_570 c_575) c_584) (fun c_584 => ?_)
            refine ex_iconst (v := nI 1) dL_isDay_587 (by decide) ?_
            refine ex_goto (tgt := 592) dL_isDay_588 (by decide) ?_
            exact ex_zret hQ rfl (by decide) ⟨rfl, rfl, S⟩ dL_isDay_592
  refine ex_iload 12 dL_isDay_378 rfl ?_
  refine ex_iload 12 dL_isDay_380 rfl ?_
  refine ex_bipush (v := nI 50) dL_isDay_382 (by decide) ?_
  refine ex_icmp_ge (tgt := 391) dL_isDay_384 (by decide) (fun c_384 => ?_) (fun c_384 => ?_)
  · refine ex_iload 12 dL_isDay_391 rfl ?_
    refine ex_bipush (v := nI 50) dL_isDay_393 (by decide) ?_
    refine ex_icmp_le (tgt := 402) dL_isDay_395 (by decide) (fun c_395 => ?_) (fun c_395 => ?_)
    · refine ex_iconst (v := nI 0) dL_isDay_402 (by decide) ?_
      refine ex_topi ((cp50.2.2 (Int32.not_lt.mpr c_384) (Int32.not_lt.mpr c_395)).symm) ?_
      exact K403
    · refine ex_iconst (v := (-1)) dL_isDay_398 (by decide) ?_
      refine ex_goto (tgt := 403) dL_isDay_399 (by decide) ?_
      refine ex_topi ((cp50.2.1 (Int32.not_lt.mpr c_384) (Int32.not_le.mp c_395)).symm) ?_
      exact K403
  · refine ex_iconst (v := nI 1) dL_isDay_387 (by decide) ?_
    refine ex_goto (tgt := 403) dL_isDay_388 (by decide) ?_
    refine ex_topi ((cp50.1 (Int32.not_le.mp c_384)).symm) ?_
    exact K403

set_option maxRecDepth 20000 in
set_option maxHeartbeats 2000000 in
theorem e378s0 {G : GG} {l : Launch} {X : CT} {Q : State → Prop} {h : HP} {z b n t : Nat} {g : Option Nat} {u : Nat → Int32} {q : Nat → Nat → Int32} {R R2 : RX} (hQ : RQ G X Q 0 0 (pL G b z (X_pass ((n, g, t, u, q), R) (nI 1)).2)) (S : PP G h z b ((n, g, t, u, q), R)) (wf : wfA (n, g, t, u, q)) (m3 : 0 < u 3) {j : Nat} {u2 : Nat → Int32} {q3 : Nat → Nat → Int32} {pv hv tv du ea gg : Int32} {t2 : Nat} (wf2 : wfA (n, (some j), t2, (upd u2 8 (u2 8 + cpI (nI 50) (u2 8))), q3)) (hX : (X_pass ((n, g, t, u, q), R) (nI 1)) = (pv, ((n, (some j), t2, (upd u2 8 (u2 8 + cpI (nI 50) (u2 8))), q3), R2))) (h6 : u2 6 = u 6 + nI 1) (h11 : u2 11 = u 11 - du) (h15 : u2 15 = u 15 + ea) (h17 : sumP q3 n = sumP q n + du - ea) (h14 : u2 14 = u 14 + nI 0) (h12a : hv < 0 ∨ ¬ pv = 0 → u2 12 = u 12 + nI 0) (h12b : ¬ hv < 0 → pv = 0 → u2 12 = u 12 + nI 1) (hjn : j < n) : ex G l X Q 6 0 0 0 0 cL_isDay yL_isDay.cls 18 (some .boolean) h z 378 [(16, .int (nI 0)), (15, .int ea), (14, .int du), (13, .int pv), (12, .int (nI j)), (11, .int hv), (10, .int tv), (9, .int (u 12)), (8, .int (u 14)), (7, .int (u 15)), (6, .int (u 11)), (5, .int (sumP q n)), (4, .int (u2 8)), (3, .int gg), (2, .int (u 6 + nI 1)), (1, .int (nI n)), (0, .ref b)] [] := by
  have n8 : n ≤ 8 := wf.1
  have hX2 := hX
  rw [hX2] at hQ
  have K403 : ex G l X Q 6 0 0 0 0 cL_isDay yL_isDay.cls 18 (some .boolean) h z 403 [(16, .int (nI 0)), (15, .int ea), (14, .int du), (13, .int pv), (12, .int (nI j)), (11, .int hv), (10, .int tv), (9, .int (u 12)), (8, .int (u 14)), (7, .int (u 15)), (6, .int (u 11)), (5, .int (sumP q n)), (4, .int (u2 8)), (3, .int gg), (2, .int (u 6 + nI 1)), (1, .int (nI n)), (0, .ref b)] [.int (cpI (nI 50) (u2 8)), .int (u2 8)] := by
    refine ex_iadd dL_isDay_403 ?_
    refine ex_istore (lv' := [(4, .int ((u2 8) + (cpI (nI 50) (u2 8)))), (16, .int (nI 0)), (15, .int ea), (14, .int du), (13, .int pv), (12, .int (nI j)), (11, .int hv), (10, .int tv), (9, .int (u 12)), (8, .int (u 14)), (7, .int (u 15)), (6, .int (u 11)), (5, .int (sumP q n)), (3, .int gg), (2, .int (u 6 + nI 1)), (1, .int (nI n)), (0, .ref b)]) dL_isDay_404 (by decide) rfl ?_
    refine ex_iload 1 dL_isDay_406 rfl ?_
    refine ex_if_eq (tgt := 416) dL_isDay_408 (by decide) (fun c_408 => ?_) (fun c_408 => absurd (by decide) c_408)
    refine ex_iload 5 dL_isDay_416 rfl ?_
    refine ex_istore (lv' := [(17, .int (nI j)), (4, .int ((u2 8) + (cpI (nI 50) (u2 8)))), (16, .int (nI 0)), (15, .int ea), (14, .int du), (13, .int pv), (12, .int (nI j)), (11, .int hv), (10, .int tv), (9, .int (u 12)), (8, .int (u 14)), (7, .int (u 15)), (6, .int (u 11)), (5, .int (sumP q n)), (3, .int gg), (2, .int (u 6 + nI 1)), (1, .int (nI n)), (0, .ref b)]) dL_isDay_418 (by decide) rfl ?_
    refine ex_aload_n 17 dL_isDay_420 rfl rfl ?_
    refine ex_iconst (v := nI 1) dL_isDay_421 (by decide) ?_
    refine ex_ch (As := [.int (nI 1)]) (v := pv) (x2 := ((n, (some j), t2, (upd u2 8 (u2 8 + cpI (nI 50) (u2 8))), q3), R2)) vl_L_18 rfl S (c_pass S wf m3) (hX) rfl (by decide) (Nat.le_of_ble_eq_true rfl) (Nat.le_refl _) (Nat.le_refl _) rfl dL_isDay_422 (fun h S => ?_)
    refine ex_iload 5 dL_isDay_425 rfl ?_
    refine ex_icmp_eq (tgt := 432) dL_isDay_427 (by decide) (fun c_427 => ?_) (fun c_427 => absurd (rfl) c_427)
    refine ex_aload_n 17 dL_isDay_432 rfl rfl ?_
    refine ex_bipush (v := nI 6) dL_isDay_433 (by decide) ?_
    refine ex_cnt (k := 6) (v := u2 6) vl_L_8 S wf2 (by decide) rfl (by decide) (Nat.le_of_ble_eq_true rfl) (Nat.le_refl _) (Nat.le_refl _) dL_isDay_435 (fun h S => ?_)
    refine ex_iload_n 15 dL_isDay_438 rfl rfl ?_
    refine ex_icmp_ne (tgt := 591) dL_isDay_439 (by decide) (fun c_439 => absurd (h6) c_439) (fun c_439 => ?_)
    refine ex_aload_n 17 dL_isDay_442 rfl rfl ?_
    refine ex_bipush (v := nI 8) dL_isDay_443 (by decide) ?_
    refine ex_cnt (k := 8) (v := u2 8 + cpI (nI 50) (u2 8)) vl_L_8 S wf2 (by decide) rfl (by decide) (Nat.le_of_ble_eq_true rfl) (Nat.le_refl _) (Nat.le_refl _) dL_isDay_445 (fun h S => ?_)
    refine ex_iload 1 dL_isDay_448 rfl ?_
    refine ex_icmp_ne (tgt := 591) dL_isDay_450 (by decide) (fun c_450 => absurd (rfl) c_450) (fun c_450 => ?_)
    refine ex_aload_n 17 dL_isDay_453 rfl rfl ?_
    refine ex_bipush (v := nI 9) dL_isDay_454 (by decide) ?_
    refine ex_cnt (k := 9) (v := nI j) vl_L_8 S wf2 (by decide) rfl (by decide) (Nat.le_of_ble_eq_true rfl) (Nat.le_refl _) (Nat.le_refl _) dL_isDay_456 (fun h S => ?_)
    refine ex_iload 0 dL_isDay_459 rfl ?_
    refine ex_icmp_ne (tgt := 591) dL_isDay_461 (by decide) (fun c_461 => absurd (rfl) c_461) (fun c_461 => ?_)
    refine ex_iload 0 dL_isDay_464 rfl ?_
    refine ex_if_ge (tgt := 493) dL_isDay_466 (by decide) (fun c_466 => ?_) (fun c_466 => absurd (nI_pos' (by omega)) c_466)
    refine ex_aload_n 17 dL_isDay_493 rfl rfl ?_
    refine ex_bipush (v := nI 11) dL_isDay_494 (by decide) ?_
    refine ex_cnt (k := 11) (v := u2 11) vl_L_8 S wf2 (by decide) rfl (by decide) (Nat.le_of_ble_eq_true rfl) (Nat.le_refl _) (Nat.le_refl _) dL_isDay_496 (fun h S => ?_)
    refine ex_iload 12 dL_isDay_499 rfl ?_
    refine ex_iload 4 dL_isDay_501 rfl ?_
    refine ex_isub dL_isDay_503 ?_
    refine ex_icmp_ne (tgt := 591) dL_isDay_504 (by decide) (fun c_504 => absurd (h11) c_504) (fun c_504 => ?_)
    refine ex_aload_n 17 dL_isDay_507 rfl rfl ?_
    refine ex_bipush (v := nI 16) dL_isDay_508 (by decide) ?_
    refine ex_cnt (k := 16) (v := u2 15) vl_L_8 S wf2 (by decide) rfl (by decide) (Nat.le_of_ble_eq_true rfl) (Nat.le_refl _) (Nat.le_refl _) dL_isDay_510 (fun h S => ?_)
    refine ex_iload 11 dL_isDay_513 rfl ?_
    refine ex_iload 3 dL_isDay_515 rfl ?_
    refine ex_iadd dL_isDay_517 ?_
    refine ex_icmp_ne (tgt := 591) dL_isDay_518 (by decide) (fun c_518 => absurd (h15) c_518) (fun c_518 => ?_)
    refine ex_aload_n 17 dL_isDay_521 rfl rfl ?_
    refine ex_bipush (v := nI 17) dL_isDay_522 (by decide) ?_
    refine ex_cnt (k := 17) (v := sumP q3 n) vl_L_8 S wf2 (by decide) rfl (by decide) (Nat.le_of_ble_eq_true rfl) (Nat.le_refl _) (Nat.le_refl _) dL_isDay_524 (fun h S => ?_)
    refine ex_iload 13 dL_isDay_527 rfl ?_
    refine ex_iload 4 dL_isDay_529 rfl ?_
    refine ex_iadd dL_isDay_531 ?_
    refine ex_iload 3 dL_isDay_532 rfl ?_
    refine ex_isub dL_isDay_534 ?_
    refine ex_icmp_ne (tgt := 591) dL_isDay_535 (by decide) (fun c_535 => absurd (h17) c_535) (fun c_535 => ?_)
    refine ex_aload_n 17 dL_isDay_538 rfl rfl ?_
    refine ex_bipush (v := nI 15) dL_isDay_539 (by decide) ?_
    refine ex_cnt (k := 15) (v := u2 14) vl_L_8 S wf2 (by decide) rfl (by decide) (Nat.le_of_ble_eq_true rfl) (Nat.le_refl _) (Nat.le_refl _) dL_isDay_541 (fun h S => ?_)
    refine ex_iload 10 dL_isDay_544 rfl ?_
    refine ex_iload 2 dL_isDay_546 rfl ?_
    refine ex_if_eq (tgt := 555) dL_isDay_548 (by decide) (fun c_548 => ?_) (fun c_548 => absurd (by decide) c_548)
    refine ex_iconst (v := nI 0) dL_isDay_555 (by decide) ?_
    refine ex_iadd dL_isDay_556 ?_
    refine ex_icmp_ne (tgt := 591) dL_isDay_557 (by decide) (fun c_557 => absurd (h14) c_557) (fun c_557 => ?_)
    refine ex_aload_n 17 dL_isDay_560 rfl rfl ?_
    refine ex_bipush (v := nI 13) dL_isDay_561 (by decide) ?_
    refine ex_cnt (k := 13) (v := u2 12) vl_L_8 S wf2 (by decide) rfl (by decide) (Nat.le_of_ble_eq_true rfl) (Nat.le_refl _) (Nat.le_refl _) dL_isDay_563 (fun h S => ?_)
    refine ex_iload 9 dL_isDay_566 rfl ?_
    refine ex_iload 7 dL_isDay_568 rfl ?_
    refine ex_if_lt (tgt := 582) dL_isDay_570 (by decide) (fun c_570 => ?_) (fun c_570 => ?_)
    · refine ex_iconst (v := nI 0) dL_isDay_582 (by decide) ?_
      refine ex_iadd dL_isDay_583 ?_
      refine ex_icmp_ne (tgt := 591) dL_isDay_584 (by decide) (fun c_584 => absurd (h12a (by first | exact Or.inl c_570 | exact Or.inr c_575)) c_584) (fun c_584 => ?_)
      refine ex_iconst (v := nI 1) dL_isDay_587 (by decide) ?_
      refine ex_goto (tgt := 592) dL_isDay_588 (by decide) ?_
      exact ex_zret hQ rfl (by decide) ⟨rfl, rfl, S⟩ dL_isDay_592
    · refine ex_iload 5 dL_isDay_573 rfl ?_
      refine ex_if_ne (tgt := 582) dL_isDay_575 (by decide) (fun c_575 => ?_) (fun c_575 => ?_)
      · refine ex_iconst (v := nI 0) dL_isDay_582 (by decide) ?_
        refine ex_iadd dL_isDay_583 ?_
        refine ex_icmp_ne (tgt := 591) dL_isDay_584 (by decide) (fun c_584 => absurd (h12a (by first | exact Or.inl c_570 | exact Or.inr c_575)) c_584) (fun c_584 => ?_)
        refine ex_iconst (v := nI 1) dL_isDay_587 (by decide) ?_
        refine ex_goto (tgt := 592) dL_isDay_588 (by decide) ?_
        exact ex_zret hQ rfl (by decide) ⟨rfl, rfl, S⟩ dL_isDay_592
      · refine ex_iconst (v := nI 1) dL_isDay_578 (by decide) ?_
        refine ex_goto (tgt := 583) dL_isDay_579 (by decide) ?_
        refine ex_iadd dL_isDay_583 ?_
        refine ex_icmp_ne (tgt := 591) dL_isDay_584 (by decide) (fun c_584 => absurd (h12b c_570 c_575) c_584) (fun c_584 => ?_)
        refine ex_iconst (v := nI 1) dL_isDay_587 (by decide) ?_
        refine ex_goto (tgt := 592) dL_isDay_588 (by decide) ?_
        exact ex_zret hQ rfl (by decide) ⟨rfl, rfl, S⟩ dL_isDay_592
  refine ex_iload 12 dL_isDay_378 rfl ?_
  refine ex_iload 12 dL_isDay_380 rfl ?_
  refine ex_bipush (v := nI 50) dL_isDay_382 (by decide) ?_
  refine ex_icmp_ge (tgt := 391) dL_isDay_384 (by decide) (fun c_384 => ?_) (fun c_384 => ?_)
  · refine ex_iload 12 dL_isDay_391 rfl ?_
    refine ex_bipush (v := nI 50) dL_isDay_393 (by decide) ?_
    refine ex_icmp_le (tgt := 402) dL_isDay_395 (by decide) (fun c_395 => ?_) (fun c_395 => ?_)
    · refine ex_iconst (v := nI 0) dL_isDay_402 (by decide) ?_
      refine ex_topi ((cp50.2.2 (Int32.not_lt.mpr c_384) (Int32.not_lt.mpr c_395)).symm) ?_
      exact K403
    · refine ex_iconst (v := (-1)) dL_isDay_398 (by decide) ?_
      refine ex_goto (tgt := 403) dL_isDay_399 (by decide) ?_
      refine ex_topi ((cp50.2.1 (Int32.not_lt.mpr c_384) (Int32.not_le.mp c_395)).symm) ?_
      exact K403
  · refine ex_iconst (v := nI 1) dL_isDay_387 (by decide) ?_
    refine ex_goto (tgt := 403) dL_isDay_388 (by decide) ?_
    refine ex_topi ((cp50.1 (Int32.not_le.mp c_384)).symm) ?_
    exact K403

set_option maxRecDepth 20000 in
set_option maxHeartbeats 2000000 in
theorem e378n1 {G : GG} {l : Launch} {X : CT} {Q : State → Prop} {h : HP} {z b n t : Nat} {g : Option Nat} {u : Nat → Int32} {q : Nat → Nat → Int32} {R R2 : RX} (hQ : RQ G X Q 0 0 (pL G b z (X_pass ((n, g, t, u, q), R) (nI 1)).2)) (S : PP G h z b ((n, g, t, u, q), R)) (wf : wfA (n, g, t, u, q)) (m3 : 0 < u 3) {j : Nat} {u2 : Nat → Int32} {q3 : Nat → Nat → Int32} {pv hv tv du ea gg : Int32} (wf2 : wfA (n, none, 0, (upd u2 8 (u2 8 + cpI (nI 50) (u2 8))), q3)) (hX : (X_pass ((n, g, t, u, q), R) (nI 1)) = (pv, ((n, none, 0, (upd u2 8 (u2 8 + cpI (nI 50) (u2 8))), q3), R2))) (h6 : u2 6 = u 6 + nI 1) (h11 : u2 11 = u 11 - du) (h15 : u2 15 = u 15 + ea) (h17 : sumP q3 n = sumP q n + du - ea) (h14 : u2 14 = u 14 + nI 1) (h12a : hv < 0 ∨ ¬ pv = 0 → u2 12 = u 12 + nI 0) (h12b : ¬ hv < 0 → pv = 0 → u2 12 = u 12 + nI 1) (hjn : j < n) : ex G l X Q 6 0 0 0 0 cL_isDay yL_isDay.cls 18 (some .boolean) h z 378 [(16, .int (nI 1)), (15, .int ea), (14, .int du), (13, .int pv), (12, .int (nI j)), (11, .int hv), (10, .int tv), (9, .int (u 12)), (8, .int (u 14)), (7, .int (u 15)), (6, .int (u 11)), (5, .int (sumP q n)), (4, .int (u2 8)), (3, .int gg), (2, .int (u 6 + nI 1)), (1, .int (nI n)), (0, .ref b)] [] := by
  have n8 : n ≤ 8 := wf.1
  have hX2 := hX
  rw [hX2] at hQ
  have K403 : ex G l X Q 6 0 0 0 0 cL_isDay yL_isDay.cls 18 (some .boolean) h z 403 [(16, .int (nI 1)), (15, .int ea), (14, .int du), (13, .int pv), (12, .int (nI j)), (11, .int hv), (10, .int tv), (9, .int (u 12)), (8, .int (u 14)), (7, .int (u 15)), (6, .int (u 11)), (5, .int (sumP q n)), (4, .int (u2 8)), (3, .int gg), (2, .int (u 6 + nI 1)), (1, .int (nI n)), (0, .ref b)] [.int (cpI (nI 50) (u2 8)), .int (u2 8)] := by
    refine ex_iadd dL_isDay_403 ?_
    refine ex_istore (lv' := [(4, .int ((u2 8) + (cpI (nI 50) (u2 8)))), (16, .int (nI 1)), (15, .int ea), (14, .int du), (13, .int pv), (12, .int (nI j)), (11, .int hv), (10, .int tv), (9, .int (u 12)), (8, .int (u 14)), (7, .int (u 15)), (6, .int (u 11)), (5, .int (sumP q n)), (3, .int gg), (2, .int (u 6 + nI 1)), (1, .int (nI n)), (0, .ref b)]) dL_isDay_404 (by decide) rfl ?_
    refine ex_iload 1 dL_isDay_406 rfl ?_
    refine ex_if_eq (tgt := 416) dL_isDay_408 (by decide) (fun c_408 => absurd c_408 (by decide)) (fun c_408 => ?_)
    refine ex_bipush (v := (-6)) dL_isDay_411 (by decide) ?_
    refine ex_goto (tgt := 418) dL_isDay_413 (by decide) ?_
    refine ex_istore (lv' := [(17, .int (-6)), (4, .int ((u2 8) + (cpI (nI 50) (u2 8)))), (16, .int (nI 1)), (15, .int ea), (14, .int du), (13, .int pv), (12, .int (nI j)), (11, .int hv), (10, .int tv), (9, .int (u 12)), (8, .int (u 14)), (7, .int (u 15)), (6, .int (u 11)), (5, .int (sumP q n)), (3, .int gg), (2, .int (u 6 + nI 1)), (1, .int (nI n)), (0, .ref b)]) dL_isDay_418 (by decide) rfl ?_
    refine ex_aload_n 17 dL_isDay_420 rfl rfl ?_
    refine ex_iconst (v := nI 1) dL_isDay_421 (by decide) ?_
    refine ex_ch (As := [.int (nI 1)]) (v := pv) (x2 := ((n, none, 0, (upd u2 8 (u2 8 + cpI (nI 50) (u2 8))), q3), R2)) vl_L_18 rfl S (c_pass S wf m3) (hX) rfl (by decide) (Nat.le_of_ble_eq_true rfl) (Nat.le_refl _) (Nat.le_refl _) rfl dL_isDay_422 (fun h S => ?_)
    refine ex_iload 5 dL_isDay_425 rfl ?_
    refine ex_icmp_eq (tgt := 432) dL_isDay_427 (by decide) (fun c_427 => ?_) (fun c_427 => absurd (rfl) c_427)
    refine ex_aload_n 17 dL_isDay_432 rfl rfl ?_
    refine ex_bipush (v := nI 6) dL_isDay_433 (by decide) ?_
    refine ex_cnt (k := 6) (v := u2 6) vl_L_8 S wf2 (by decide) rfl (by decide) (Nat.le_of_ble_eq_true rfl) (Nat.le_refl _) (Nat.le_refl _) dL_isDay_435 (fun h S => ?_)
    refine ex_iload_n 15 dL_isDay_438 rfl rfl ?_
    refine ex_icmp_ne (tgt := 591) dL_isDay_439 (by decide) (fun c_439 => absurd (h6) c_439) (fun c_439 => ?_)
    refine ex_aload_n 17 dL_isDay_442 rfl rfl ?_
    refine ex_bipush (v := nI 8) dL_isDay_443 (by decide) ?_
    refine ex_cnt (k := 8) (v := u2 8 + cpI (nI 50) (u2 8)) vl_L_8 S wf2 (by decide) rfl (by decide) (Nat.le_of_ble_eq_true rfl) (Nat.le_refl _) (Nat.le_refl _) dL_isDay_445 (fun h S => ?_)
    refine ex_iload 1 dL_isDay_448 rfl ?_
    refine ex_icmp_ne (tgt := 591) dL_isDay_450 (by decide) (fun c_450 => absurd (rfl) c_450) (fun c_450 => ?_)
    refine ex_aload_n 17 dL_isDay_453 rfl rfl ?_
    refine ex_bipush (v := nI 9) dL_isDay_454 (by decide) ?_
    refine ex_cnt (k := 9) (v := (-6)) vl_L_8 S wf2 (by decide) rfl (by decide) (Nat.le_of_ble_eq_true rfl) (Nat.le_refl _) (Nat.le_refl _) dL_isDay_456 (fun h S => ?_)
    refine ex_iload 0 dL_isDay_459 rfl ?_
    refine ex_icmp_ne (tgt := 591) dL_isDay_461 (by decide) (fun c_461 => absurd (rfl) c_461) (fun c_461 => ?_)
    refine ex_iload 0 dL_isDay_464 rfl ?_
    refine ex_if_ge (tgt := 493) dL_isDay_466 (by decide) (fun c_466 => ?_) (fun c_466 => ?_)
    · refine ex_aload_n 17 dL_isDay_493 rfl rfl ?_
      refine ex_bipush (v := nI 11) dL_isDay_494 (by decide) ?_
      refine ex_cnt (k := 11) (v := u2 11) vl_L_8 S wf2 (by decide) rfl (by decide) (Nat.le_of_ble_eq_true rfl) (Nat.le_refl _) (Nat.le_refl _) dL_isDay_496 (fun h S => ?_)
      refine ex_iload 12 dL_isDay_499 rfl ?_
      refine ex_iload 4 dL_isDay_501 rfl ?_
      refine ex_isub dL_isDay_503 ?_
      refine ex_icmp_ne (tgt := 591) dL_isDay_504 (by decide) (fun c_504 => absurd (h11) c_504) (fun c_504 => ?_)
      refine ex_aload_n 17 dL_isDay_507 rfl rfl ?_
      refine ex_bipush (v := nI 16) dL_isDay_508 (by decide) ?_
      refine ex_cnt (k := 16) (v := u2 15) vl_L_8 S wf2 (by decide) rfl (by decide) (Nat.le_of_ble_eq_true rfl) (Nat.le_refl _) (Nat.le_refl _) dL_isDay_510 (fun h S => ?_)
      refine ex_iload 11 dL_isDay_513 rfl ?_
      refine ex_iload 3 dL_isDay_515 rfl ?_
      refine ex_iadd dL_isDay_517 ?_
      refine ex_icmp_ne (tgt := 591) dL_isDay_518 (by decide) (fun c_518 => absurd (h15) c_518) (fun c_518 => ?_)
      refine ex_aload_n 17 dL_isDay_521 rfl rfl ?_
      refine ex_bipush (v := nI 17) dL_isDay_522 (by decide) ?_
      refine ex_cnt (k := 17) (v := sumP q3 n) vl_L_8 S wf2 (by decide) rfl (by decide) (Nat.le_of_ble_eq_true rfl) (Nat.le_refl _) (Nat.le_refl _) dL_isDay_524 (fun h S => ?_)
      refine ex_iload 13 dL_isDay_527 rfl ?_
      refine ex_iload 4 dL_isDay_529 rfl ?_
      refine ex_iadd dL_isDay_531 ?_
      refine ex_iload 3 dL_isDay_532 rfl ?_
      refine ex_isub dL_isDay_534 ?_
      refine ex_icmp_ne (tgt := 591) dL_isDay_535 (by decide) (fun c_535 => absurd (h17) c_535) (fun c_535 => ?_)
      refine ex_aload_n 17 dL_isDay_538 rfl rfl ?_
      refine ex_bipush (v := nI 15) dL_isDay_539 (by decide) ?_
      refine ex_cnt (k := 15) (v := u2 14) vl_L_8 S wf2 (by decide) rfl (by decide) (Nat.le_of_ble_eq_true rfl) (Nat.le_refl _) (Nat.le_refl _) dL_isDay_541 (fun h S => ?_)
      refine ex_iload 10 dL_isDay_544 rfl ?_
      refine ex_iload 2 dL_isDay_546 rfl ?_
      refine ex_if_eq (tgt := 555) dL_isDay_548 (by decide) (fun c_548 => absurd c_548 (by decide)) (fun c_548 => ?_)
      refine ex_iconst (v := nI 1) dL_isDay_551 (by decide) ?_
      refine ex_goto (tgt := 556) dL_isDay_552 (by decide) ?_
      refine ex_iadd dL_isDay_556 ?_
      refine ex_icmp_ne (tgt := 591) dL_isDay_557 (by decide) (fun c_557 => absurd (h14) c_557) (fun c_557 => ?_)
      refine ex_aload_n 17 dL_isDay_560 rfl rfl ?_
      refine ex_bipush (v := nI 13) dL_isDay_561 (by decide) ?_
      refine ex_cnt (k := 13) (v := u2 12) vl_L_8 S wf2 (by decide) rfl (by decide) (Nat.le_of_ble_eq_true rfl) (Nat.le_refl _) (Nat.le_refl _) dL_isDay_563 (fun h S => ?_)
      refine ex_iload 9 dL_isDay_566 rfl ?_
      refine ex_iload 7 dL_isDay_568 rfl ?_
      refine ex_if_lt (tgt := 582) dL_isDay_570 (by decide) (fun c_570 => ?_) (fun c_570 => ?_)
      · refine ex_iconst (v := nI 0) dL_isDay_582 (by decide) ?_
        refine ex_iadd dL_isDay_583 ?_
        refine ex_icmp_ne (tgt := 591) dL_isDay_584 (by decide) (fun c_584 => absurd (h12a (by first | exact Or.inl c_570 | exact Or.inr c_575)) c_584) (fun c_584 => ?_)
        refine ex_iconst (v := nI 1) dL_isDay_587 (by decide) ?_
        refine ex_goto (tgt := 592) dL_isDay_588 (by decide) ?_
        exact ex_zret hQ rfl (by decide) ⟨rfl, rfl, S⟩ dL_isDay_592
      · refine ex_iload 5 dL_isDay_573 rfl ?_
        refine ex_if_ne (tgt := 582) dL_isDay_575 (by decide) (fun c_575 => ?_) (fun c_575 => ?_)
        · refine ex_iconst (v := nI 0) dL_isDay_582 (by decide) ?_
          refine ex_iadd dL_isDay_583 ?_
          refine ex_icmp_ne (tgt := 591) dL_isDay_584 (by decide) (fun c_584 => absurd (h12a (by first | exact Or.inl c_570 | exact Or.inr c_575)) c_584) (fun c_584 => ?_)
          refine ex_iconst (v := nI 1) dL_isDay_587 (by decide) ?_
          refine ex_goto (tgt := 592) dL_isDay_588 (by decide) ?_
          exact ex_zret hQ rfl (by decide) ⟨rfl, rfl, S⟩ dL_isDay_592
        · refine ex_iconst (v := nI 1) dL_isDay_578 (by decide) ?_
          refine ex_goto (tgt := 583) dL_isDay_579 (by decide) ?_
          refine ex_iadd dL_isDay_583 ?_
          refine ex_icmp_ne (tgt := 591) dL_isDay_584 (by decide) (fun c_584 => absurd (h12b c_570 c_575) c_584) (fun c_584 => ?_)
          refine ex_iconst (v := nI 1) dL_isDay_587 (by decide) ?_
          refine ex_goto (tgt := 592) dL_isDay_588 (by decide) ?_
          exact ex_zret hQ rfl (by decide) ⟨rfl, rfl, S⟩ dL_isDay_592
    · refine ex_iload_n 16 dL_isDay_469 rfl rfl ?_
      refine ex_if_eq (tgt := 493) dL_isDay_470 (by decide) (fun c_470 => ?_) (fun c_470 => ?_)
      · have n_470 : n = 0 := (nI_eq (b := 0) (by omega) (by omega)).mp c_470
        refine ex_aload_n 17 dL_isDay_493 rfl rfl ?_
        refine ex_bipush (v := nI 11) dL_isDay_494 (by decide) ?_
        refine ex_cnt (k := 11) (v := u2 11) vl_L_8 S wf2 (by decide) rfl (by decide) (Nat.le_of_ble_eq_true rfl) (Nat.le_refl _) (Nat.le_refl _) dL_isDay_496 (fun h S => ?_)
        refine ex_iload 12 dL_isDay_499 rfl ?_
        refine ex_iload 4 dL_isDay_501 rfl ?_
        refine ex_isub dL_isDay_503 ?_
        refine ex_icmp_ne (tgt := 591) dL_isDay_504 (by decide) (fun c_504 => absurd (h11) c_504) (fun c_504 => ?_)
        refine ex_aload_n 17 dL_isDay_507 rfl rfl ?_
        refine ex_bipush (v := nI 16) dL_isDay_508 (by decide) ?_
        refine ex_cnt (k := 16) (v := u2 15) vl_L_8 S wf2 (by decide) rfl (by decide) (Nat.le_of_ble_eq_true rfl) (Nat.le_refl _) (Nat.le_refl _) dL_isDay_510 (fun h S => ?_)
        refine ex_iload 11 dL_isDay_513 rfl ?_
        refine ex_iload 3 dL_isDay_515 rfl ?_
        refine ex_iadd dL_isDay_517 ?_
        refine ex_icmp_ne (tgt := 591) dL_isDay_518 (by decide) (fun c_518 => absurd (h15) c_518) (fun c_518 => ?_)
        refine ex_aload_n 17 dL_isDay_521 rfl rfl ?_
        refine ex_bipush (v := nI 17) dL_isDay_522 (by decide) ?_
        refine ex_cnt (k := 17) (v := sumP q3 n) vl_L_8 S wf2 (by decide) rfl (by decide) (Nat.le_of_ble_eq_true rfl) (Nat.le_refl _) (Nat.le_refl _) dL_isDay_524 (fun h S => ?_)
        refine ex_iload 13 dL_isDay_527 rfl ?_
        refine ex_iload 4 dL_isDay_529 rfl ?_
        refine ex_iadd dL_isDay_531 ?_
        refine ex_iload 3 dL_isDay_532 rfl ?_
        refine ex_isub dL_isDay_534 ?_
        refine ex_icmp_ne (tgt := 591) dL_isDay_535 (by decide) (fun c_535 => absurd (h17) c_535) (fun c_535 => ?_)
        refine ex_aload_n 17 dL_isDay_538 rfl rfl ?_
        refine ex_bipush (v := nI 15) dL_isDay_539 (by decide) ?_
        refine ex_cnt (k := 15) (v := u2 14) vl_L_8 S wf2 (by decide) rfl (by decide) (Nat.le_of_ble_eq_true rfl) (Nat.le_refl _) (Nat.le_refl _) dL_isDay_541 (fun h S => ?_)
        refine ex_iload 10 dL_isDay_544 rfl ?_
        refine ex_iload 2 dL_isDay_546 rfl ?_
        refine ex_if_eq (tgt := 555) dL_isDay_548 (by decide) (fun c_548 => absurd c_548 (by decide)) (fun c_548 => ?_)
        refine ex_iconst (v := nI 1) dL_isDay_551 (by decide) ?_
        refine ex_goto (tgt := 556) dL_isDay_552 (by decide) ?_
        refine ex_iadd dL_isDay_556 ?_
        refine ex_icmp_ne (tgt := 591) dL_isDay_557 (by decide) (fun c_557 => absurd (h14) c_557) (fun c_557 => ?_)
        refine ex_aload_n 17 dL_isDay_560 rfl rfl ?_
        refine ex_bipush (v := nI 13) dL_isDay_561 (by decide) ?_
        refine ex_cnt (k := 13) (v := u2 12) vl_L_8 S wf2 (by decide) rfl (by decide) (Nat.le_of_ble_eq_true rfl) (Nat.le_refl _) (Nat.le_refl _) dL_isDay_563 (fun h S => ?_)
        refine ex_iload 9 dL_isDay_566 rfl ?_
        refine ex_iload 7 dL_isDay_568 rfl ?_
        refine ex_if_lt (tgt := 582) dL_isDay_570 (by decide) (fun c_570 => ?_) (fun c_570 => ?_)
        · refine ex_iconst (v := nI 0) dL_isDay_582 (by decide) ?_
          refine ex_iadd dL_isDay_583 ?_
          refine ex_icmp_ne (tgt := 591) dL_isDay_584 (by decide) (fun c_584 => absurd (h12a (by first | exact Or.inl c_570 | exact Or.inr c_575)) c_584) (fun c_584 => ?_)
          refine ex_iconst (v := nI 1) dL_isDay_587 (by decide) ?_
          refine ex_goto (tgt := 592) dL_isDay_588 (by decide) ?_
          exact ex_zret hQ rfl (by decide) ⟨rfl, rfl, S⟩ dL_isDay_592
        · refine ex_iload 5 dL_isDay_573 rfl ?_
          refine ex_if_ne (tgt := 582) dL_isDay_575 (by decide) (fun c_575 => ?_) (fun c_575 => ?_)
          · refine ex_iconst (v := nI 0) dL_isDay_582 (by decide) ?_
            refine ex_iadd dL_isDay_583 ?_
            refine ex_icmp_ne (tgt := 591) dL_isDay_584 (by decide) (fun c_584 => absurd (h12a (by first | exact Or.inl c_570 | exact Or.inr c_575)) c_584) (fun c_584 => ?_)
            refine ex_iconst (v := nI 1) dL_isDay_587 (by decide) ?_
            refine ex_goto (tgt := 592) dL_isDay_588 (by decide) ?_
            exact ex_zret hQ rfl (by decide) ⟨rfl, rfl, S⟩ dL_isDay_592
          · refine ex_iconst (v := nI 1) dL_isDay_578 (by decide) ?_
            refine ex_goto (tgt := 583) dL_isDay_579 (by decide) ?_
            refine ex_iadd dL_isDay_583 ?_
            refine ex_icmp_ne (tgt := 591) dL_isDay_584 (by decide) (fun c_584 => absurd (h12b c_570 c_575) c_584) (fun c_584 => ?_)
            refine ex_iconst (v := nI 1) dL_isDay_587 (by decide) ?_
            refine ex_goto (tgt := 592) dL_isDay_588 (by decide) ?_
            exact ex_zret hQ rfl (by decide) ⟨rfl, rfl, S⟩ dL_isDay_592
      · have n_470 : ¬ (n = 0) := fun q9 => c_470 ((nI_eq (b := 0) (by omega) (by omega)).mpr q9)
        refine ex_aload_n 17 dL_isDay_473 rfl rfl ?_
        refine ex_bipush (v := nI 10) dL_isDay_474 (by decide) ?_
        refine ex_cnt (k := 10) (v := nI 0) vl_L_8 S wf2 (by decide) rfl (by decide) (Nat.le_of_ble_eq_true rfl) (Nat.le_refl _) (Nat.le_refl _) dL_isDay_476 (fun h S => ?_)
        refine ex_iload 2 dL_isDay_479 rfl ?_
        refine ex_if_eq (tgt := 488) dL_isDay_481 (by decide) (fun c_481 => absurd c_481 (by decide)) (fun c_481 => ?_)
        refine ex_iconst (v := nI 0) dL_isDay_484 (by decide) ?_
        refine ex_goto (tgt := 490) dL_isDay_485 (by decide) ?_
        refine ex_icmp_ne (tgt := 591) dL_isDay_490 (by decide) (fun c_490 => absurd (rfl) c_490) (fun c_490 => ?_)
        refine ex_aload_n 17 dL_isDay_493 rfl rfl ?_
        refine ex_bipush (v := nI 11) dL_isDay_494 (by decide) ?_
        refine ex_cnt (k := 11) (v := u2 11) vl_L_8 S wf2 (by decide) rfl (by decide) (Nat.le_of_ble_eq_true rfl) (Nat.le_refl _) (Nat.le_refl _) dL_isDay_496 (fun h S => ?_)
        refine ex_iload 12 dL_isDay_499 rfl ?_
        refine ex_iload 4 dL_isDay_501 rfl ?_
        refine ex_isub dL_isDay_503 ?_
        refine ex_icmp_ne (tgt := 591) dL_isDay_504 (by decide) (fun c_504 => absurd (h11) c_504) (fun c_504 => ?_)
        refine ex_aload_n 17 dL_isDay_507 rfl rfl ?_
        refine ex_bipush (v := nI 16) dL_isDay_508 (by decide) ?_
        refine ex_cnt (k := 16) (v := u2 15) vl_L_8 S wf2 (by decide) rfl (by decide) (Nat.le_of_ble_eq_true rfl) (Nat.le_refl _) (Nat.le_refl _) dL_isDay_510 (fun h S => ?_)
        refine ex_iload 11 dL_isDay_513 rfl ?_
        refine ex_iload 3 dL_isDay_515 rfl ?_
        refine ex_iadd dL_isDay_517 ?_
        refine ex_icmp_ne (tgt := 591) dL_isDay_518 (by decide) (fun c_518 => absurd (h15) c_518) (fun c_518 => ?_)
        refine ex_aload_n 17 dL_isDay_521 rfl rfl ?_
        refine ex_bipush (v := nI 17) dL_isDay_522 (by decide) ?_
        refine ex_cnt (k := 17) (v := sumP q3 n) vl_L_8 S wf2 (by decide) rfl (by decide) (Nat.le_of_ble_eq_true rfl) (Nat.le_refl _) (Nat.le_refl _) dL_isDay_524 (fun h S => ?_)
        refine ex_iload 13 dL_isDay_527 rfl ?_
        refine ex_iload 4 dL_isDay_529 rfl ?_
        refine ex_iadd dL_isDay_531 ?_
        refine ex_iload 3 dL_isDay_532 rfl ?_
        refine ex_isub dL_isDay_534 ?_
        refine ex_icmp_ne (tgt := 591) dL_isDay_535 (by decide) (fun c_535 => absurd (h17) c_535) (fun c_535 => ?_)
        refine ex_aload_n 17 dL_isDay_538 rfl rfl ?_
        refine ex_bipush (v := nI 15) dL_isDay_539 (by decide) ?_
        refine ex_cnt (k := 15) (v := u2 14) vl_L_8 S wf2 (by decide) rfl (by decide) (Nat.le_of_ble_eq_true rfl) (Nat.le_refl _) (Nat.le_refl _) dL_isDay_541 (fun h S => ?_)
        refine ex_iload 10 dL_isDay_544 rfl ?_
        refine ex_iload 2 dL_isDay_546 rfl ?_
        refine ex_if_eq (tgt := 555) dL_isDay_548 (by decide) (fun c_548 => absurd c_548 (by decide)) (fun c_548 => ?_)
        refine ex_iconst (v := nI 1) dL_isDay_551 (by decide) ?_
        refine ex_goto (tgt := 556) dL_isDay_552 (by decide) ?_
        refine ex_iadd dL_isDay_556 ?_
        refine ex_icmp_ne (tgt := 591) dL_isDay_557 (by decide) (fun c_557 => absurd (h14) c_557) (fun c_557 => ?_)
        refine ex_aload_n 17 dL_isDay_560 rfl rfl ?_
        refine ex_bipush (v := nI 13) dL_isDay_561 (by decide) ?_
        refine ex_cnt (k := 13) (v := u2 12) vl_L_8 S wf2 (by decide) rfl (by decide) (Nat.le_of_ble_eq_true rfl) (Nat.le_refl _) (Nat.le_refl _) dL_isDay_563 (fun h S => ?_)
        refine ex_iload 9 dL_isDay_566 rfl ?_
        refine ex_iload 7 dL_isDay_568 rfl ?_
        refine ex_if_lt (tgt := 582) dL_isDay_570 (by decide) (fun c_570 => ?_) (fun c_570 => ?_)
        · refine ex_iconst (v := nI 0) dL_isDay_582 (by decide) ?_
          refine ex_iadd dL_isDay_583 ?_
          refine ex_icmp_ne (tgt := 591) dL_isDay_584 (by decide) (fun c_584 => absurd (h12a (by first | exact Or.inl c_570 | exact Or.inr c_575)) c_584) (fun c_584 => ?_)
          refine ex_iconst (v := nI 1) dL_isDay_587 (by decide) ?_
          refine ex_goto (tgt := 592) dL_isDay_588 (by decide) ?_
          exact ex_zret hQ rfl (by decide) ⟨rfl, rfl, S⟩ dL_isDay_592
        · refine ex_iload 5 dL_isDay_573 rfl ?_
          refine ex_if_ne (tgt := 582) dL_isDay_575 (by decide) (fun c_575 => ?_) (fun c_575 => ?_)
          · refine ex_iconst (v := nI 0) dL_isDay_582 (by decide) ?_
            refine ex_iadd dL_isDay_583 ?_
            refine ex_icmp_ne (tgt := 591) dL_isDay_584 (by decide) (fun c_584 => absurd (h12a (by first | exact Or.inl c_570 | exact Or.inr c_575)) c_584) (fun c_584 => ?_)
            refine ex_iconst (v := nI 1) dL_isDay_587 (by decide) ?_
            refine ex_goto (tgt := 592) dL_isDay_588 (by decide) ?_
            exact ex_zret hQ rfl (by decide) ⟨rfl, rfl, S⟩ dL_isDay_592
          · refine ex_iconst (v := nI 1) dL_isDay_578 (by decide) ?_
            refine ex_goto (tgt := 583) dL_isDay_579 (by decide) ?_
            refine ex_iadd dL_isDay_583 ?_
            refine ex_icmp_ne (tgt := 591) dL_isDay_584 (by decide) (fun c_584 => absurd (h12b c_570 c_575) c_584) (fun c_584 => ?_)
            refine ex_iconst (v := nI 1) dL_isDay_587 (by decide) ?_
            refine ex_goto (tgt := 592) dL_isDay_588 (by decide) ?_
            exact ex_zret hQ rfl (by decide) ⟨rfl, rfl, S⟩ dL_isDay_592
  refine ex_iload 12 dL_isDay_378 rfl ?_
  refine ex_iload 12 dL_isDay_380 rfl ?_
  refine ex_bipush (v := nI 50) dL_isDay_382 (by decide) ?_
  refine ex_icmp_ge (tgt := 391) dL_isDay_384 (by decide) (fun c_384 => ?_) (fun c_384 => ?_)
  · refine ex_iload 12 dL_isDay_391 rfl ?_
    refine ex_bipush (v := nI 50) dL_isDay_393 (by decide) ?_
    refine ex_icmp_le (tgt := 402) dL_isDay_395 (by decide) (fun c_395 => ?_) (fun c_395 => ?_)
    · refine ex_iconst (v := nI 0) dL_isDay_402 (by decide) ?_
      refine ex_topi ((cp50.2.2 (Int32.not_lt.mpr c_384) (Int32.not_lt.mpr c_395)).symm) ?_
      exact K403
    · refine ex_iconst (v := (-1)) dL_isDay_398 (by decide) ?_
      refine ex_goto (tgt := 403) dL_isDay_399 (by decide) ?_
      refine ex_topi ((cp50.2.1 (Int32.not_lt.mpr c_384) (Int32.not_le.mp c_395)).symm) ?_
      exact K403
  · refine ex_iconst (v := nI 1) dL_isDay_387 (by decide) ?_
    refine ex_goto (tgt := 403) dL_isDay_388 (by decide) ?_
    refine ex_topi ((cp50.1 (Int32.not_le.mp c_384)).symm) ?_
    exact K403

set_option maxRecDepth 20000 in
set_option maxHeartbeats 2000000 in
theorem e238n {G : GG} {l : Launch} {X : CT} {Q : State → Prop} {h : HP} {z b n t : Nat} {g : Option Nat} {u : Nat → Int32} {q : Nat → Nat → Int32} {R R2 : RX} (hQ : RQ G X Q 0 0 (pL G b z (X_pass ((n, g, t, u, q), R) (nI 1)).2)) (S : PP G h z b ((n, g, t, u, q), R)) (wf : wfA (n, g, t, u, q)) (m3 : 0 < u 3) {u1 : Nat → Int32} {q1 : Nat → Nat → Int32} {t1 : Nat} {pv hv tv gg : Int32} (wfB : wfA (n, none, t1, u1, q1)) (hX : (X_pass ((n, g, t, u, q), R) (nI 1)) = (pv, (eA (mA (n, none, t1, u1, q1)), R2))) (e1 : u1 1 = u 1) (e3 : u1 3 = u 3) (e5 : u1 5 = u 5) (e6 : u1 6 = u 6 + nI 1) (e11 : u1 11 = u 11) (e14 : u1 14 = u 14) (e15 : u1 15 = u 15) (h12a : hv < 0 ∨ ¬ pv = 0 → u1 12 = u 12 + nI 0) (h12b : ¬ hv < 0 → pv = 0 → u1 12 = u 12 + nI 1) (hq3 : sF q1 3 n = sF q 3 n) (htv : ¬ n = 0 → tv = nI t1) : ex G l X Q 6 0 0 0 0 cL_isDay yL_isDay.cls 18 (some .boolean) h z 238 [(13, .int pv), (12, .int (-6)), (11, .int hv), (10, .int tv), (9, .int (u 12)), (8, .int (u 14)), (7, .int (u 15)), (6, .int (u 11)), (5, .int (sumP q n)), (4, .int (u1 8)), (3, .int gg), (2, .int (u 6 + nI 1)), (1, .int (nI n)), (0, .ref b)] [] := by
  have n8 : n ≤ 8 := wf.1
  have u3n : ¬ u 3 = 0 := fun q9 => Int32.lt_irrefl (q9 ▸ m3 : (0 : Int32) < 0)
  by_cases hm : u 6 + nI 1 - (u 6 + nI 1) / u 3 * u 3 = 0
  · rw [mth e3 e6 hm] at hX
    refine ex_iconst (v := nI 0) dL_isDay_238 (by decide) ?_
    refine ex_istore (lv' := [(14, .int (nI 0)), (13, .int pv), (12, .int (-6)), (11, .int hv), (10, .int tv), (9, .int (u 12)), (8, .int (u 14)), (7, .int (u 15)), (6, .int (u 11)), (5, .int (sumP q n)), (4, .int (u1 8)), (3, .int gg), (2, .int (u 6 + nI 1)), (1, .int (nI n)), (0, .ref b)]) dL_isDay_239 (by decide) rfl ?_
    refine ex_iconst (v := nI 0) dL_isDay_241 (by decide) ?_
    refine ex_istore (lv' := [(15, .int (nI 0)), (14, .int (nI 0)), (13, .int pv), (12, .int (-6)), (11, .int hv), (10, .int tv), (9, .int (u 12)), (8, .int (u 14)), (7, .int (u 15)), (6, .int (u 11)), (5, .int (sumP q n)), (4, .int (u1 8)), (3, .int gg), (2, .int (u 6 + nI 1)), (1, .int (nI n)), (0, .ref b)]) dL_isDay_242 (by decide) rfl ?_
    refine ex_iconst (v := nI 0) dL_isDay_244 (by decide) ?_
    refine ex_istore (lv' := [(16, .int (nI 0)), (15, .int (nI 0)), (14, .int (nI 0)), (13, .int pv), (12, .int (-6)), (11, .int hv), (10, .int tv), (9, .int (u 12)), (8, .int (u 14)), (7, .int (u 15)), (6, .int (u 11)), (5, .int (sumP q n)), (4, .int (u1 8)), (3, .int gg), (2, .int (u 6 + nI 1)), (1, .int (nI n)), (0, .ref b)]) dL_isDay_245 (by decide) rfl ?_
    refine ex_iload_n 14 dL_isDay_247 rfl rfl ?_
    refine ex_aload_n 16 dL_isDay_248 rfl rfl ?_
    refine ex_iconst (v := nI 3) dL_isDay_249 (by decide) ?_
    refine ex_cnt (k := 3) (v := u 3) vl_L_8 S wf (by decide) rfl (by decide) (Nat.le_of_ble_eq_true rfl) (Nat.le_refl _) (Nat.le_refl _) dL_isDay_250 (fun h S => ?_)
    refine ex_irem dL_isDay_253 (u3n) ?_
    refine ex_if_ne (tgt := 378) dL_isDay_254 (by decide) (fun c_254 => absurd (hm) c_254) (fun c_254 => ?_)
    refine ex_iload 4 dL_isDay_257 rfl ?_
    refine ex_if_ge (tgt := 272) dL_isDay_259 (by decide) (fun c_259 => absurd c_259 (by decide)) (fun c_259 => ?_)
    refine ex_aload_n 16 dL_isDay_262 rfl rfl ?_
    refine ex_iconst (v := nI 1) dL_isDay_263 (by decide) ?_
    refine ex_cnt (k := 1) (v := u 1) vl_L_8 S wf (by decide) rfl (by decide) (Nat.le_of_ble_eq_true rfl) (Nat.le_refl _) (Nat.le_refl _) dL_isDay_264 (fun h S => ?_)
    refine ex_iconst (v := nI 2) dL_isDay_267 (by decide) ?_
    refine ex_idiv dL_isDay_268 (by decide) ?_
    refine ex_goto (tgt := 277) dL_isDay_269 (by decide) ?_
    refine ex_istore (lv' := [(14, .int ((u 1) / (nI 2))), (16, .int (nI 0)), (15, .int (nI 0)), (13, .int pv), (12, .int (-6)), (11, .int hv), (10, .int tv), (9, .int (u 12)), (8, .int (u 14)), (7, .int (u 15)), (6, .int (u 11)), (5, .int (sumP q n)), (4, .int (u1 8)), (3, .int gg), (2, .int (u 6 + nI 1)), (1, .int (nI n)), (0, .ref b)]) dL_isDay_277 (by decide) rfl ?_
    have K293 : ex G l X Q 6 0 0 0 0 cL_isDay yL_isDay.cls 18 (some .boolean) h z 293 [(14, .int ((u 1) / (nI 2))), (16, .int (nI 0)), (15, .int (nI 0)), (13, .int pv), (12, .int (-6)), (11, .int hv), (10, .int tv), (9, .int (u 12)), (8, .int (u 14)), (7, .int (u 15)), (6, .int (u 11)), (5, .int (sumP q n)), (4, .int (u1 8)), (3, .int gg), (2, .int (u 6 + nI 1)), (1, .int (nI n)), (0, .ref b)] [.int (mnI (u 1 / nI 2) (u 11))] := by
      refine ex_istore (lv' := [(14, .int (mnI (u 1 / nI 2) (u 11))), (16, .int (nI 0)), (15, .int (nI 0)), (13, .int pv), (12, .int (-6)), (11, .int hv), (10, .int tv), (9, .int (u 12)), (8, .int (u 14)), (7, .int (u 15)), (6, .int (u 11)), (5, .int (sumP q n)), (4, .int (u1 8)), (3, .int gg), (2, .int (u 6 + nI 1)), (1, .int (nI n)), (0, .ref b)]) dL_isDay_293 (by decide) rfl ?_
      refine ex_iload 4 dL_isDay_295 rfl ?_
      refine ex_if_ge (tgt := 305) dL_isDay_297 (by decide) (fun c_297 => absurd c_297 (by decide)) (fun c_297 => ?_)
      refine ex_iload 0 dL_isDay_300 rfl ?_
      refine ex_goto (tgt := 318) dL_isDay_302 (by decide) ?_
      refine ex_istore (lv' := [(15, .int (mnI (u 1 / nI 2) (u 11))), (14, .int (mnI (u 1 / nI 2) (u 11))), (16, .int (nI 0)), (13, .int pv), (12, .int (-6)), (11, .int hv), (10, .int tv), (9, .int (u 12)), (8, .int (u 14)), (7, .int (u 15)), (6, .int (u 11)), (5, .int (sumP q n)), (4, .int (u1 8)), (3, .int gg), (2, .int (u 6 + nI 1)), (1, .int (nI n)), (0, .ref b)]) dL_isDay_318 (by decide) rfl ?_
      refine ex_iload 4 dL_isDay_320 rfl ?_
      refine ex_if_ge (tgt := 330) dL_isDay_322 (by decide) (fun c_322 => absurd c_322 (by decide)) (fun c_322 => ?_)
      refine ex_iload 12 dL_isDay_325 rfl ?_
      refine ex_goto (tgt := 354) dL_isDay_327 (by decide) ?_
      refine ex_istore (lv' := [(4, .int (u1 8)), (15, .int (mnI (u 1 / nI 2) (u 11))), (14, .int (mnI (u 1 / nI 2) (u 11))), (16, .int (nI 0)), (13, .int pv), (12, .int (-6)), (11, .int hv), (10, .int tv), (9, .int (u 12)), (8, .int (u 14)), (7, .int (u 15)), (6, .int (u 11)), (5, .int (sumP q n)), (3, .int gg), (2, .int (u 6 + nI 1)), (1, .int (nI n)), (0, .ref b)]) dL_isDay_354 (by decide) rfl ?_
      refine ex_iload 5 dL_isDay_356 rfl ?_
      refine ex_if_lt (tgt := 375) dL_isDay_358 (by decide) (fun c_358 => ?_) (fun c_358 => absurd (by decide) c_358)
      refine ex_iconst (v := nI 0) dL_isDay_375 (by decide) ?_
      refine ex_istore (lv' := [(16, .int (nI 0)), (4, .int (u1 8)), (15, .int (mnI (u 1 / nI 2) (u 11))), (14, .int (mnI (u 1 / nI 2) (u 11))), (13, .int pv), (12, .int (-6)), (11, .int hv), (10, .int tv), (9, .int (u 12)), (8, .int (u 14)), (7, .int (u 15)), (6, .int (u 11)), (5, .int (sumP q n)), (3, .int gg), (2, .int (u 6 + nI 1)), (1, .int (nI n)), (0, .ref b)]) dL_isDay_376 (by decide) rfl ?_
      refine ex_lv (lv2 := [(16, .int (nI 0)), (15, .int (mnI (u 1 / nI 2) (u 11))), (14, .int (mnI (u 1 / nI 2) (u 11))), (13, .int pv), (12, .int (-6)), (11, .int hv), (10, .int tv), (9, .int (u 12)), (8, .int (u 14)), (7, .int (u 15)), (6, .int (u 11)), (5, .int (sumP q n)), (4, .int (u1 8)), (3, .int gg), (2, .int (u 6 + nI 1)), (1, .int (nI n)), (0, .ref b)]) [0, 2, 3, 4, 5, 6, 7, 8, 9, 10, 11, 12, 1, 13, 14, 15, 16] rfl ?_
      exact e378n0 (u2 := upd (upd u1 11 (u1 11 - mnI (u1 1 / nI 2) (u1 11))) 15 (u1 15 + mnI (u1 1 / nI 2) (u1 11))) (q3 := q1) hQ S wf m3 wfB hX e6 (by show u1 11 - mnI (u1 1 / nI 2) (u1 11) = _; rw [e11, e1]) (by show u1 15 + mnI (u1 1 / nI 2) (u1 11) = _; rw [e15, e11, e1]) (by rw [sumP_sF, sumP_sF, hq3]; exact rg6) (by show u1 14 = _; rw [e14]; exact (Int32.add_zero _).symm) h12a h12b htv
    refine ex_iload 0 dL_isDay_279 rfl ?_
    refine ex_iload 10 dL_isDay_281 rfl ?_
    refine ex_icmp_ge (tgt := 291) dL_isDay_283 (by decide) (fun c_283 => ?_) (fun c_283 => ?_)
    · refine ex_iload 10 dL_isDay_291 rfl ?_
      refine ex_topi (mn_ge c_283) ?_
      exact K293
    · refine ex_iload 0 dL_isDay_286 rfl ?_
      refine ex_goto (tgt := 293) dL_isDay_288 (by decide) ?_
      refine ex_topi (mn_lt c_283) ?_
      exact K293
  · rw [mth0 e3 e6 hm] at hX
    refine ex_iconst (v := nI 0) dL_isDay_238 (by decide) ?_
    refine ex_istore (lv' := [(14, .int (nI 0)), (13, .int pv), (12, .int (-6)), (11, .int hv), (10, .int tv), (9, .int (u 12)), (8, .int (u 14)), (7, .int (u 15)), (6, .int (u 11)), (5, .int (sumP q n)), (4, .int (u1 8)), (3, .int gg), (2, .int (u 6 + nI 1)), (1, .int (nI n)), (0, .ref b)]) dL_isDay_239 (by decide) rfl ?_
    refine ex_iconst (v := nI 0) dL_isDay_241 (by decide) ?_
    refine ex_istore (lv' := [(15, .int (nI 0)), (14, .int (nI 0)), (13, .int pv), (12, .int (-6)), (11, .int hv), (10, .int tv), (9, .int (u 12)), (8, .int (u 14)), (7, .int (u 15)), (6, .int (u 11)), (5, .int (sumP q n)), (4, .int (u1 8)), (3, .int gg), (2, .int (u 6 + nI 1)), (1, .int (nI n)), (0, .ref b)]) dL_isDay_242 (by decide) rfl ?_
    refine ex_iconst (v := nI 0) dL_isDay_244 (by decide) ?_
    refine ex_istore (lv' := [(16, .int (nI 0)), (15, .int (nI 0)), (14, .int (nI 0)), (13, .int pv), (12, .int (-6)), (11, .int hv), (10, .int tv), (9, .int (u 12)), (8, .int (u 14)), (7, .int (u 15)), (6, .int (u 11)), (5, .int (sumP q n)), (4, .int (u1 8)), (3, .int gg), (2, .int (u 6 + nI 1)), (1, .int (nI n)), (0, .ref b)]) dL_isDay_245 (by decide) rfl ?_
    refine ex_iload_n 14 dL_isDay_247 rfl rfl ?_
    refine ex_aload_n 16 dL_isDay_248 rfl rfl ?_
    refine ex_iconst (v := nI 3) dL_isDay_249 (by decide) ?_
    refine ex_cnt (k := 3) (v := u 3) vl_L_8 S wf (by decide) rfl (by decide) (Nat.le_of_ble_eq_true rfl) (Nat.le_refl _) (Nat.le_refl _) dL_isDay_250 (fun h S => ?_)
    refine ex_irem dL_isDay_253 (u3n) ?_
    refine ex_if_ne (tgt := 378) dL_isDay_254 (by decide) (fun c_254 => ?_) (fun c_254 => absurd c_254 (hm))
    refine ex_lv (lv2 := [(16, .int (nI 0)), (15, .int (nI 0)), (14, .int (nI 0)), (13, .int pv), (12, .int (-6)), (11, .int hv), (10, .int tv), (9, .int (u 12)), (8, .int (u 14)), (7, .int (u 15)), (6, .int (u 11)), (5, .int (sumP q n)), (4, .int (u1 8)), (3, .int gg), (2, .int (u 6 + nI 1)), (1, .int (nI n)), (0, .ref b)]) [0, 1, 2, 3, 4, 5, 6, 7, 8, 9, 10, 11, 12, 13, 14, 15, 16] rfl ?_
    exact e378n0 (u2 := u1) (q3 := q1) hQ S wf m3 wfB hX e6 (by rw [e11]; exact (Int32.sub_zero _).symm) (by rw [e15]; exact (Int32.add_zero _).symm) (by rw [sumP_sF, sumP_sF, hq3]; exact rg6) (by rw [e14]; exact (Int32.add_zero _).symm) h12a h12b htv

set_option maxRecDepth 20000 in
set_option maxHeartbeats 2000000 in
theorem e238s {G : GG} {l : Launch} {X : CT} {Q : State → Prop} {h : HP} {z b n t : Nat} {g : Option Nat} {u : Nat → Int32} {q : Nat → Nat → Int32} {R R2 : RX} (hQ : RQ G X Q 0 0 (pL G b z (X_pass ((n, g, t, u, q), R) (nI 1)).2)) (S : PP G h z b ((n, g, t, u, q), R)) (wf : wfA (n, g, t, u, q)) (m3 : 0 < u 3) {j : Nat} {u1 : Nat → Int32} {q1 : Nat → Nat → Int32} {t1 : Nat} {pv hv tv gg : Int32} (wfB : wfA (n, (some j), t1, u1, q1)) (hX : (X_pass ((n, g, t, u, q), R) (nI 1)) = (pv, (eA (mA (n, (some j), t1, u1, q1)), R2))) (e1 : u1 1 = u 1) (e3 : u1 3 = u 3) (e5 : u1 5 = u 5) (e6 : u1 6 = u 6 + nI 1) (e11 : u1 11 = u 11) (e14 : u1 14 = u 14) (e15 : u1 15 = u 15) (h12a : hv < 0 ∨ ¬ pv = 0 → u1 12 = u 12 + nI 0) (h12b : ¬ hv < 0 → pv = 0 → u1 12 = u 12 + nI 1) (hq3 : sF q1 3 n = sF q 3 n) (hq1 : q1 j 1 = q j 1) : ex G l X Q 6 0 0 0 0 cL_isDay yL_isDay.cls 18 (some .boolean) h z 238 [(13, .int pv), (12, .int (nI j)), (11, .int hv), (10, .int tv), (9, .int (u 12)), (8, .int (u 14)), (7, .int (u 15)), (6, .int (u 11)), (5, .int (sumP q n)), (4, .int (u1 8)), (3, .int gg), (2, .int (u 6 + nI 1)), (1, .int (nI n)), (0, .ref b)] [] := by
  have n8 : n ≤ 8 := wf.1
  have hjn : j < n := wfB.2.1 j rfl
  have u3n : ¬ u 3 = 0 := fun q9 => Int32.lt_irrefl (q9 ▸ m3 : (0 : Int32) < 0)
  by_cases hm : u 6 + nI 1 - (u 6 + nI 1) / u 3 * u 3 = 0
  · rw [mth e3 e6 hm] at hX
    have hDA : mnI (u1 1) (u1 11) = mnI (u 1) (u 11) := by rw [e1, e11]
    by_cases hs : mnI (nI 99) ((u1 8) + ((((mnI (u 1) (u 11)) * (q j 1)) / (nI 100)) / (nI 2))) < u 5
    · have hX3 : (X_pass ((n, g, t, u, q), R) (nI 1)) = (pv, ((n, none, 0, upd (upd (upd (upd (upd u1 11 (u 11 - mnI (u 1) (u 11))) 15 (u 15 + ((mnI (u 1) (u 11)) * (q j 1)) / (nI 100))) 8 (mnI (nI 99) ((u1 8) + ((((mnI (u 1) (u 11)) * (q j 1)) / (nI 100)) / (nI 2))))) 14 (u 14 + nI 1)) 8 (mnI (nI 99) ((u1 8) + ((((mnI (u 1) (u 11)) * (q j 1)) / (nI 100)) / (nI 2))) + cpI (nI 50) (mnI (nI 99) ((u1 8) + ((((mnI (u 1) (u 11)) * (q j 1)) / (nI 100)) / (nI 2))))), (uq q1 j 3 (q1 j 3 + (mnI (u 1) (u 11) - ((mnI (u 1) (u 11)) * (q j 1)) / (nI 100))))), R2)) := by
        rw [hX]
        unfold monthA
        dsimp only
        rw [hDA, hq1, e5, e11, e15, e14, if_pos hs]
        rfl
      refine ex_iconst (v := nI 0) dL_isDay_238 (by decide) ?_
      refine ex_istore (lv' := [(14, .int (nI 0)), (13, .int pv), (12, .int (nI j)), (11, .int hv), (10, .int tv), (9, .int (u 12)), (8, .int (u 14)), (7, .int (u 15)), (6, .int (u 11)), (5, .int (sumP q n)), (4, .int (u1 8)), (3, .int gg), (2, .int (u 6 + nI 1)), (1, .int (nI n)), (0, .ref b)]) dL_isDay_239 (by decide) rfl ?_
      refine ex_iconst (v := nI 0) dL_isDay_241 (by decide) ?_
      refine ex_istore (lv' := [(15, .int (nI 0)), (14, .int (nI 0)), (13, .int pv), (12, .int (nI j)), (11, .int hv), (10, .int tv), (9, .int (u 12)), (8, .int (u 14)), (7, .int (u 15)), (6, .int (u 11)), (5, .int (sumP q n)), (4, .int (u1 8)), (3, .int gg), (2, .int (u 6 + nI 1)), (1, .int (nI n)), (0, .ref b)]) dL_isDay_242 (by decide) rfl ?_
      refine ex_iconst (v := nI 0) dL_isDay_244 (by decide) ?_
      refine ex_istore (lv' := [(16, .int (nI 0)), (15, .int (nI 0)), (14, .int (nI 0)), (13, .int pv), (12, .int (nI j)), (11, .int hv), (10, .int tv), (9, .int (u 12)), (8, .int (u 14)), (7, .int (u 15)), (6, .int (u 11)), (5, .int (sumP q n)), (4, .int (u1 8)), (3, .int gg), (2, .int (u 6 + nI 1)), (1, .int (nI n)), (0, .ref b)]) dL_isDay_245 (by decide) rfl ?_
      refine ex_iload_n 14 dL_isDay_247 rfl rfl ?_
      refine ex_aload_n 16 dL_isDay_248 rfl rfl ?_
      refine ex_iconst (v := nI 3) dL_isDay_249 (by decide) ?_
      refine ex_cnt (k := 3) (v := u 3) vl_L_8 S wf (by decide) rfl (by decide) (Nat.le_of_ble_eq_true rfl) (Nat.le_refl _) (Nat.le_refl _) dL_isDay_250 (fun h S => ?_)
      refine ex_irem dL_isDay_253 (u3n) ?_
      refine ex_if_ne (tgt := 378) dL_isDay_254 (by decide) (fun c_254 => absurd (hm) c_254) (fun c_254 => ?_)
      refine ex_iload 4 dL_isDay_257 rfl ?_
      refine ex_if_ge (tgt := 272) dL_isDay_259 (by decide) (fun c_259 => ?_) (fun c_259 => absurd (nI_pos' (by omega)) c_259)
      refine ex_aload_n 16 dL_isDay_272 rfl rfl ?_
      refine ex_iconst (v := nI 1) dL_isDay_273 (by decide) ?_
      refine ex_cnt (k := 1) (v := u 1) vl_L_8 S wf (by decide) rfl (by decide) (Nat.le_of_ble_eq_true rfl) (Nat.le_refl _) (Nat.le_refl _) dL_isDay_274 (fun h S => ?_)
      refine ex_istore (lv' := [(14, .int (u 1)), (16, .int (nI 0)), (15, .int (nI 0)), (13, .int pv), (12, .int (nI j)), (11, .int hv), (10, .int tv), (9, .int (u 12)), (8, .int (u 14)), (7, .int (u 15)), (6, .int (u 11)), (5, .int (sumP q n)), (4, .int (u1 8)), (3, .int gg), (2, .int (u 6 + nI 1)), (1, .int (nI n)), (0, .ref b)]) dL_isDay_277 (by decide) rfl ?_
      have K293 : ex G l X Q 6 0 0 0 0 cL_isDay yL_isDay.cls 18 (some .boolean) h z 293 [(14, .int (u 1)), (16, .int (nI 0)), (15, .int (nI 0)), (13, .int pv), (12, .int (nI j)), (11, .int hv), (10, .int tv), (9, .int (u 12)), (8, .int (u 14)), (7, .int (u 15)), (6, .int (u 11)), (5, .int (sumP q n)), (4, .int (u1 8)), (3, .int gg), (2, .int (u 6 + nI 1)), (1, .int (nI n)), (0, .ref b)] [.int (mnI (u 1) (u 11))] := by
        refine ex_istore (lv' := [(14, .int (mnI (u 1) (u 11))), (16, .int (nI 0)), (15, .int (nI 0)), (13, .int pv), (12, .int (nI j)), (11, .int hv), (10, .int tv), (9, .int (u 12)), (8, .int (u 14)), (7, .int (u 15)), (6, .int (u 11)), (5, .int (sumP q n)), (4, .int (u1 8)), (3, .int gg), (2, .int (u 6 + nI 1)), (1, .int (nI n)), (0, .ref b)]) dL_isDay_293 (by decide) rfl ?_
        refine ex_iload 4 dL_isDay_295 rfl ?_
        refine ex_if_ge (tgt := 305) dL_isDay_297 (by decide) (fun c_297 => ?_) (fun c_297 => absurd (nI_pos' (by omega)) c_297)
        refine ex_iload 0 dL_isDay_305 rfl ?_
        refine ex_aload_n 16 dL_isDay_307 rfl rfl ?_
        refine ex_iload 4 dL_isDay_308 rfl ?_
        refine ex_iconst (v := nI 1) dL_isDay_310 (by decide) ?_
        refine ex_per (j := j) (k := 1) (v := q j 1) vl_L_14 S wf (by omega) (by decide) rfl (by decide) (Nat.le_of_ble_eq_true rfl) (Nat.le_refl _) (Nat.le_refl _) dL_isDay_311 (fun h S => ?_)
        refine ex_imul dL_isDay_314 ?_
        refine ex_bipush (v := nI 100) dL_isDay_315 (by decide) ?_
        refine ex_idiv dL_isDay_317 (by decide) ?_
        refine ex_istore (lv' := [(15, .int (((mnI (u 1) (u 11)) * (q j 1)) / (nI 100))), (14, .int (mnI (u 1) (u 11))), (16, .int (nI 0)), (13, .int pv), (12, .int (nI j)), (11, .int hv), (10, .int tv), (9, .int (u 12)), (8, .int (u 14)), (7, .int (u 15)), (6, .int (u 11)), (5, .int (sumP q n)), (4, .int (u1 8)), (3, .int gg), (2, .int (u 6 + nI 1)), (1, .int (nI n)), (0, .ref b)]) dL_isDay_318 (by decide) rfl ?_
        have K354 : ex G l X Q 6 0 0 0 0 cL_isDay yL_isDay.cls 18 (some .boolean) h z 354 [(15, .int (((mnI (u 1) (u 11)) * (q j 1)) / (nI 100))), (14, .int (mnI (u 1) (u 11))), (16, .int (nI 0)), (13, .int pv), (12, .int (nI j)), (11, .int hv), (10, .int tv), (9, .int (u 12)), (8, .int (u 14)), (7, .int (u 15)), (6, .int (u 11)), (5, .int (sumP q n)), (4, .int (u1 8)), (3, .int gg), (2, .int (u 6 + nI 1)), (1, .int (nI n)), (0, .ref b)] [.int (mnI (nI 99) ((u1 8) + ((((mnI (u 1) (u 11)) * (q j 1)) / (nI 100)) / (nI 2))))] := by
          refine ex_istore (lv' := [(4, .int (mnI (nI 99) ((u1 8) + ((((mnI (u 1) (u 11)) * (q j 1)) / (nI 100)) / (nI 2))))), (15, .int (((mnI (u 1) (u 11)) * (q j 1)) / (nI 100))), (14, .int (mnI (u 1) (u 11))), (16, .int (nI 0)), (13, .int pv), (12, .int (nI j)), (11, .int hv), (10, .int tv), (9, .int (u 12)), (8, .int (u 14)), (7, .int (u 15)), (6, .int (u 11)), (5, .int (sumP q n)), (3, .int gg), (2, .int (u 6 + nI 1)), (1, .int (nI n)), (0, .ref b)]) dL_isDay_354 (by decide) rfl ?_
          refine ex_iload 5 dL_isDay_356 rfl ?_
          refine ex_if_lt (tgt := 375) dL_isDay_358 (by decide) (fun c_358 => absurd c_358 (nI_pos (by omega))) (fun c_358 => ?_)
          refine ex_iload 0 dL_isDay_361 rfl ?_
          refine ex_aload_n 16 dL_isDay_363 rfl rfl ?_
          refine ex_iconst (v := nI 5) dL_isDay_364 (by decide) ?_
          refine ex_cnt (k := 5) (v := u 5) vl_L_8 S wf (by decide) rfl (by decide) (Nat.le_of_ble_eq_true rfl) (Nat.le_refl _) (Nat.le_refl _) dL_isDay_365 (fun h S => ?_)
          refine ex_icmp_ge (tgt := 375) dL_isDay_368 (by decide) (fun c_368 => absurd c_368 (Int32.not_le.mpr hs)) (fun c_368 => ?_)
          refine ex_iconst (v := nI 1) dL_isDay_371 (by decide) ?_
          refine ex_goto (tgt := 376) dL_isDay_372 (by decide) ?_
          refine ex_istore (lv' := [(16, .int (nI 1)), (4, .int (mnI (nI 99) ((u1 8) + ((((mnI (u 1) (u 11)) * (q j 1)) / (nI 100)) / (nI 2))))), (15, .int (((mnI (u 1) (u 11)) * (q j 1)) / (nI 100))), (14, .int (mnI (u 1) (u 11))), (13, .int pv), (12, .int (nI j)), (11, .int hv), (10, .int tv), (9, .int (u 12)), (8, .int (u 14)), (7, .int (u 15)), (6, .int (u 11)), (5, .int (sumP q n)), (3, .int gg), (2, .int (u 6 + nI 1)), (1, .int (nI n)), (0, .ref b)]) dL_isDay_376 (by decide) rfl ?_
          refine ex_lv (lv2 := [(16, .int (nI 1)), (15, .int (((mnI (u 1) (u 11)) * (q j 1)) / (nI 100))), (14, .int (mnI (u 1) (u 11))), (13, .int pv), (12, .int (nI j)), (11, .int hv), (10, .int tv), (9, .int (u 12)), (8, .int (u 14)), (7, .int (u 15)), (6, .int (u 11)), (5, .int (sumP q n)), (4, .int (mnI (nI 99) ((u1 8) + ((((mnI (u 1) (u 11)) * (q j 1)) / (nI 100)) / (nI 2))))), (3, .int gg), (2, .int (u 6 + nI 1)), (1, .int (nI n)), (0, .ref b)]) [0, 2, 3, 4, 5, 6, 7, 8, 9, 10, 11, 12, 1, 13, 14, 15, 16] rfl ?_
          exact e378n1 (u2 := upd (upd (upd (upd u1 11 (u 11 - mnI (u 1) (u 11))) 15 (u 15 + ((mnI (u 1) (u 11)) * (q j 1)) / (nI 100))) 8 (mnI (nI 99) ((u1 8) + ((((mnI (u 1) (u 11)) * (q j 1)) / (nI 100)) / (nI 2))))) 14 (u 14 + nI 1)) (q3 := (uq q1 j 3 (q1 j 3 + (mnI (u 1) (u 11) - ((mnI (u 1) (u 11)) * (q j 1)) / (nI 100))))) hQ S wf m3 ⟨n8, fun i h => (by cases h), Or.inr rfl⟩ hX3 e6 rfl rfl (by rw [sumP_sF, sumP_sF, sF_uqs n hjn, hq3]; exact rg5) rfl h12a h12b hjn
        refine ex_iload 4 dL_isDay_320 rfl ?_
        refine ex_if_ge (tgt := 330) dL_isDay_322 (by decide) (fun c_322 => ?_) (fun c_322 => absurd (nI_pos' (by omega)) c_322)
        refine ex_iload 12 dL_isDay_330 rfl ?_
        refine ex_iload 0 dL_isDay_332 rfl ?_
        refine ex_iconst (v := nI 2) dL_isDay_334 (by decide) ?_
        refine ex_idiv dL_isDay_335 (by decide) ?_
        refine ex_iadd dL_isDay_336 ?_
        refine ex_bipush (v := nI 99) dL_isDay_337 (by decide) ?_
        refine ex_icmp_le (tgt := 347) dL_isDay_339 (by decide) (fun c_339 => ?_) (fun c_339 => ?_)
        · refine ex_iload 12 dL_isDay_347 rfl ?_
          refine ex_iload 0 dL_isDay_349 rfl ?_
          refine ex_iconst (v := nI 2) dL_isDay_351 (by decide) ?_
          refine ex_idiv dL_isDay_352 (by decide) ?_
          refine ex_iadd dL_isDay_353 ?_
          refine ex_topi (mn99_le c_339) ?_
          exact K354
        · refine ex_bipush (v := nI 99) dL_isDay_342 (by decide) ?_
          refine ex_goto (tgt := 354) dL_isDay_344 (by decide) ?_
          refine ex_topi (mn99_gt c_339) ?_
          exact K354
      refine ex_iload 0 dL_isDay_279 rfl ?_
      refine ex_iload 10 dL_isDay_281 rfl ?_
      refine ex_icmp_ge (tgt := 291) dL_isDay_283 (by decide) (fun c_283 => ?_) (fun c_283 => ?_)
      · refine ex_iload 10 dL_isDay_291 rfl ?_
        refine ex_topi (mn_ge c_283) ?_
        exact K293
      · refine ex_iload 0 dL_isDay_286 rfl ?_
        refine ex_goto (tgt := 293) dL_isDay_288 (by decide) ?_
        refine ex_topi (mn_lt c_283) ?_
        exact K293
    · have hX3 : (X_pass ((n, g, t, u, q), R) (nI 1)) = (pv, ((n, (some j), t1, upd (upd (upd (upd u1 11 (u 11 - mnI (u 1) (u 11))) 15 (u 15 + ((mnI (u 1) (u 11)) * (q j 1)) / (nI 100))) 8 (mnI (nI 99) ((u1 8) + ((((mnI (u 1) (u 11)) * (q j 1)) / (nI 100)) / (nI 2))))) 8 (mnI (nI 99) ((u1 8) + ((((mnI (u 1) (u 11)) * (q j 1)) / (nI 100)) / (nI 2))) + cpI (nI 50) (mnI (nI 99) ((u1 8) + ((((mnI (u 1) (u 11)) * (q j 1)) / (nI 100)) / (nI 2))))), (uq (uq q1 j 3 (q1 j 3 + (mnI (u 1) (u 11) - ((mnI (u 1) (u 11)) * (q j 1)) / (nI 100)))) j 5 ((uq q1 j 3 (q1 j 3 + (mnI (u 1) (u 11) - ((mnI (u 1) (u 11)) * (q j 1)) / (nI 100)))) j 5 + nI 1))), R2)) := by
        rw [hX]
        unfold monthA
        dsimp only
        rw [hDA, hq1, e5, e11, e15, if_neg hs]
        rfl
      refine ex_iconst (v := nI 0) dL_isDay_238 (by decide) ?_
      refine ex_istore (lv' := [(14, .int (nI 0)), (13, .int pv), (12, .int (nI j)), (11, .int hv), (10, .int tv), (9, .int (u 12)), (8, .int (u 14)), (7, .int (u 15)), (6, .int (u 11)), (5, .int (sumP q n)), (4, .int (u1 8)), (3, .int gg), (2, .int (u 6 + nI 1)), (1, .int (nI n)), (0, .ref b)]) dL_isDay_239 (by decide) rfl ?_
      refine ex_iconst (v := nI 0) dL_isDay_241 (by decide) ?_
      refine ex_istore (lv' := [(15, .int (nI 0)), (14, .int (nI 0)), (13, .int pv), (12, .int (nI j)), (11, .int hv), (10, .int tv), (9, .int (u 12)), (8, .int (u 14)), (7, .int (u 15)), (6, .int (u 11)), (5, .int (sumP q n)), (4, .int (u1 8)), (3, .int gg), (2, .int (u 6 + nI 1)), (1, .int (nI n)), (0, .ref b)]) dL_isDay_242 (by decide) rfl ?_
      refine ex_iconst (v := nI 0) dL_isDay_244 (by decide) ?_
      refine ex_istore (lv' := [(16, .int (nI 0)), (15, .int (nI 0)), (14, .int (nI 0)), (13, .int pv), (12, .int (nI j)), (11, .int hv), (10, .int tv), (9, .int (u 12)), (8, .int (u 14)), (7, .int (u 15)), (6, .int (u 11)), (5, .int (sumP q n)), (4, .int (u1 8)), (3, .int gg), (2, .int (u 6 + nI 1)), (1, .int (nI n)), (0, .ref b)]) dL_isDay_245 (by decide) rfl ?_
      refine ex_iload_n 14 dL_isDay_247 rfl rfl ?_
      refine ex_aload_n 16 dL_isDay_248 rfl rfl ?_
      refine ex_iconst (v := nI 3) dL_isDay_249 (by decide) ?_
      refine ex_cnt (k := 3) (v := u 3) vl_L_8 S wf (by decide) rfl (by decide) (Nat.le_of_ble_eq_true rfl) (Nat.le_refl _) (Nat.le_refl _) dL_isDay_250 (fun h S => ?_)
      refine ex_irem dL_isDay_253 (u3n) ?_
      refine ex_if_ne (tgt := 378) dL_isDay_254 (by decide) (fun c_254 => absurd (hm) c_254) (fun c_254 => ?_)
      refine ex_iload 4 dL_isDay_257 rfl ?_
      refine ex_if_ge (tgt := 272) dL_isDay_259 (by decide) (fun c_259 => ?_) (fun c_259 => absurd (nI_pos' (by omega)) c_259)
      refine ex_aload_n 16 dL_isDay_272 rfl rfl ?_
      refine ex_iconst (v := nI 1) dL_isDay_273 (by decide) ?_
      refine ex_cnt (k := 1) (v := u 1) vl_L_8 S wf (by decide) rfl (by decide) (Nat.le_of_ble_eq_true rfl) (Nat.le_refl _) (Nat.le_refl _) dL_isDay_274 (fun h S => ?_)
      refine ex_istore (lv' := [(14, .int (u 1)), (16, .int (nI 0)), (15, .int (nI 0)), (13, .int pv), (12, .int (nI j)), (11, .int hv), (10, .int tv), (9, .int (u 12)), (8, .int (u 14)), (7, .int (u 15)), (6, .int (u 11)), (5, .int (sumP q n)), (4, .int (u1 8)), (3, .int gg), (2, .int (u 6 + nI 1)), (1, .int (nI n)), (0, .ref b)]) dL_isDay_277 (by decide) rfl ?_
      have K293 : ex G l X Q 6 0 0 0 0 cL_isDay yL_isDay.cls 18 (some .boolean) h z 293 [(14, .int (u 1)), (16, .int (nI 0)), (15, .int (nI 0)), (13, .int pv), (12, .int (nI j)), (11, .int hv), (10, .int tv), (9, .int (u 12)), (8, .int (u 14)), (7, .int (u 15)), (6, .int (u 11)), (5, .int (sumP q n)), (4, .int (u1 8)), (3, .int gg), (2, .int (u 6 + nI 1)), (1, .int (nI n)), (0, .ref b)] [.int (mnI (u 1) (u 11))] := by
        refine ex_istore (lv' := [(14, .int (mnI (u 1) (u 11))), (16, .int (nI 0)), (15, .int (nI 0)), (13, .int pv), (12, .int (nI j)), (11, .int hv), (10, .int tv), (9, .int (u 12)), (8, .int (u 14)), (7, .int (u 15)), (6, .int (u 11)), (5, .int (sumP q n)), (4, .int (u1 8)), (3, .int gg), (2, .int (u 6 + nI 1)), (1, .int (nI n)), (0, .ref b)]) dL_isDay_293 (by decide) rfl ?_
        refine ex_iload 4 dL_isDay_295 rfl ?_
        refine ex_if_ge (tgt := 305) dL_isDay_297 (by decide) (fun c_297 => ?_) (fun c_297 => absurd (nI_pos' (by omega)) c_297)
        refine ex_iload 0 dL_isDay_305 rfl ?_
        refine ex_aload_n 16 dL_isDay_307 rfl rfl ?_
        refine ex_iload 4 dL_isDay_308 rfl ?_
        refine ex_iconst (v := nI 1) dL_isDay_310 (by decide) ?_
        refine ex_per (j := j) (k := 1) (v := q j 1) vl_L_14 S wf (by omega) (by decide) rfl (by decide) (Nat.le_of_ble_eq_true rfl) (Nat.le_refl _) (Nat.le_refl _) dL_isDay_311 (fun h S => ?_)
        refine ex_imul dL_isDay_314 ?_
        refine ex_bipush (v := nI 100) dL_isDay_315 (by decide) ?_
        refine ex_idiv dL_isDay_317 (by decide) ?_
        refine ex_istore (lv' := [(15, .int (((mnI (u 1) (u 11)) * (q j 1)) / (nI 100))), (14, .int (mnI (u 1) (u 11))), (16, .int (nI 0)), (13, .int pv), (12, .int (nI j)), (11, .int hv), (10, .int tv), (9, .int (u 12)), (8, .int (u 14)), (7, .int (u 15)), (6, .int (u 11)), (5, .int (sumP q n)), (4, .int (u1 8)), (3, .int gg), (2, .int (u 6 + nI 1)), (1, .int (nI n)), (0, .ref b)]) dL_isDay_318 (by decide) rfl ?_
        have K354 : ex G l X Q 6 0 0 0 0 cL_isDay yL_isDay.cls 18 (some .boolean) h z 354 [(15, .int (((mnI (u 1) (u 11)) * (q j 1)) / (nI 100))), (14, .int (mnI (u 1) (u 11))), (16, .int (nI 0)), (13, .int pv), (12, .int (nI j)), (11, .int hv), (10, .int tv), (9, .int (u 12)), (8, .int (u 14)), (7, .int (u 15)), (6, .int (u 11)), (5, .int (sumP q n)), (4, .int (u1 8)), (3, .int gg), (2, .int (u 6 + nI 1)), (1, .int (nI n)), (0, .ref b)] [.int (mnI (nI 99) ((u1 8) + ((((mnI (u 1) (u 11)) * (q j 1)) / (nI 100)) / (nI 2))))] := by
          refine ex_istore (lv' := [(4, .int (mnI (nI 99) ((u1 8) + ((((mnI (u 1) (u 11)) * (q j 1)) / (nI 100)) / (nI 2))))), (15, .int (((mnI (u 1) (u 11)) * (q j 1)) / (nI 100))), (14, .int (mnI (u 1) (u 11))), (16, .int (nI 0)), (13, .int pv), (12, .int (nI j)), (11, .int hv), (10, .int tv), (9, .int (u 12)), (8, .int (u 14)), (7, .int (u 15)), (6, .int (u 11)), (5, .int (sumP q n)), (3, .int gg), (2, .int (u 6 + nI 1)), (1, .int (nI n)), (0, .ref b)]) dL_isDay_354 (by decide) rfl ?_
          refine ex_iload 5 dL_isDay_356 rfl ?_
          refine ex_if_lt (tgt := 375) dL_isDay_358 (by decide) (fun c_358 => absurd c_358 (nI_pos (by omega))) (fun c_358 => ?_)
          refine ex_iload 0 dL_isDay_361 rfl ?_
          refine ex_aload_n 16 dL_isDay_363 rfl rfl ?_
          refine ex_iconst (v := nI 5) dL_isDay_364 (by decide) ?_
          refine ex_cnt (k := 5) (v := u 5) vl_L_8 S wf (by decide) rfl (by decide) (Nat.le_of_ble_eq_true rfl) (Nat.le_refl _) (Nat.le_refl _) dL_isDay_365 (fun h S => ?_)
          refine ex_icmp_ge (tgt := 375) dL_isDay_368 (by decide) (fun c_368 => ?_) (fun c_368 => absurd (Int32.not_lt.mp hs) c_368)
          refine ex_iconst (v := nI 0) dL_isDay_375 (by decide) ?_
          refine ex_istore (lv' := [(16, .int (nI 0)), (4, .int (mnI (nI 99) ((u1 8) + ((((mnI (u 1) (u 11)) * (q j 1)) / (nI 100)) / (nI 2))))), (15, .int (((mnI (u 1) (u 11)) * (q j 1)) / (nI 100))), (14, .int (mnI (u 1) (u 11))), (13, .int pv), (12, .int (nI j)), (11, .int hv), (10, .int tv), (9, .int (u 12)), (8, .int (u 14)), (7, .int (u 15)), (6, .int (u 11)), (5, .int (sumP q n)), (3, .int gg), (2, .int (u 6 + nI 1)), (1, .int (nI n)), (0, .ref b)]) dL_isDay_376 (by decide) rfl ?_
          refine ex_lv (lv2 := [(16, .int (nI 0)), (15, .int (((mnI (u 1) (u 11)) * (q j 1)) / (nI 100))), (14, .int (mnI (u 1) (u 11))), (13, .int pv), (12, .int (nI j)), (11, .int hv), (10, .int tv), (9, .int (u 12)), (8, .int (u 14)), (7, .int (u 15)), (6, .int (u 11)), (5, .int (sumP q n)), (4, .int (mnI (nI 99) ((u1 8) + ((((mnI (u 1) (u 11)) * (q j 1)) / (nI 100)) / (nI 2))))), (3, .int gg), (2, .int (u 6 + nI 1)), (1, .int (nI n)), (0, .ref b)]) [0, 2, 3, 4, 5, 6, 7, 8, 9, 10, 11, 12, 1, 13, 14, 15, 16] rfl ?_
          exact e378s0 (u2 := upd (upd (upd u1 11 (u 11 - mnI (u 1) (u 11))) 15 (u 15 + ((mnI (u 1) (u 11)) * (q j 1)) / (nI 100))) 8 (mnI (nI 99) ((u1 8) + ((((mnI (u 1) (u 11)) * (q j 1)) / (nI 100)) / (nI 2))))) (q3 := (uq (uq q1 j 3 (q1 j 3 + (mnI (u 1) (u 11) - ((mnI (u 1) (u 11)) * (q j 1)) / (nI 100)))) j 5 ((uq q1 j 3 (q1 j 3 + (mnI (u 1) (u 11) - ((mnI (u 1) (u 11)) * (q j 1)) / (nI 100)))) j 5 + nI 1))) hQ S wf m3 wfB hX3 e6 rfl rfl (by rw [sumP_sF, sumP_sF, sF_uqk (by decide), sF_uqs n hjn, hq3]; exact rg5) (by show u1 14 = _; rw [e14]; exact (Int32.add_zero _).symm) h12a h12b hjn
        refine ex_iload 4 dL_isDay_320 rfl ?_
        refine ex_if_ge (tgt := 330) dL_isDay_322 (by decide) (fun c_322 => ?_) (fun c_322 => absurd (nI_pos' (by omega)) c_322)
        refine ex_iload 12 dL_isDay_330 rfl ?_
        refine ex_iload 0 dL_isDay_332 rfl ?_
        refine ex_iconst (v := nI 2) dL_isDay_334 (by decide) ?_
        refine ex_idiv dL_isDay_335 (by decide) ?_
        refine ex_iadd dL_isDay_336 ?_
        refine ex_bipush (v := nI 99) dL_isDay_337 (by decide) ?_
        refine ex_icmp_le (tgt := 347) dL_isDay_339 (by decide) (fun c_339 => ?_) (fun c_339 => ?_)
        · refine ex_iload 12 dL_isDay_347 rfl ?_
          refine ex_iload 0 dL_isDay_349 rfl ?_
          refine ex_iconst (v := nI 2) dL_isDay_351 (by decide) ?_
          refine ex_idiv dL_isDay_352 (by decide) ?_
          refine ex_iadd dL_isDay_353 ?_
          refine ex_topi (mn99_le c_339) ?_
          exact K354
        · refine ex_bipush (v := nI 99) dL_isDay_342 (by decide) ?_
          refine ex_goto (tgt := 354) dL_isDay_344 (by decide) ?_
          refine ex_topi (mn99_gt c_339) ?_
          exact K354
      refine ex_iload 0 dL_isDay_279 rfl ?_
      refine ex_iload 10 dL_isDay_281 rfl ?_
      refine ex_icmp_ge (tgt := 291) dL_isDay_283 (by decide) (fun c_283 => ?_) (fun c_283 => ?_)
      · refine ex_iload 10 dL_isDay_291 rfl ?_
        refine ex_topi (mn_ge c_283) ?_
        exact K293
      · refine ex_iload 0 dL_isDay_286 rfl ?_
        refine ex_goto (tgt := 293) dL_isDay_288 (by decide) ?_
        refine ex_topi (mn_lt c_283) ?_
        exact K293
  · rw [mth0 e3 e6 hm] at hX
    refine ex_iconst (v := nI 0) dL_isDay_238 (by decide) ?_
    refine ex_istore (lv' := [(14, .int (nI 0)), (13, .int pv), (12, .int (nI j)), (11, .int hv), (10, .int tv), (9, .int (u 12)), (8, .int (u 14)), (7, .int (u 15)), (6, .int (u 11)), (5, .int (sumP q n)), (4, .int (u1 8)), (3, .int gg), (2, .int (u 6 + nI 1)), (1, .int (nI n)), (0, .ref b)]) dL_isDay_239 (by decide) rfl ?_
    refine ex_iconst (v := nI 0) dL_isDay_241 (by decide) ?_
    refine ex_istore (lv' := [(15, .int (nI 0)), (14, .int (nI 0)), (13, .int pv), (12, .int (nI j)), (11, .int hv), (10, .int tv), (9, .int (u 12)), (8, .int (u 14)), (7, .int (u 15)), (6, .int (u 11)), (5, .int (sumP q n)), (4, .int (u1 8)), (3, .int gg), (2, .int (u 6 + nI 1)), (1, .int (nI n)), (0, .ref b)]) dL_isDay_242 (by decide) rfl ?_
    refine ex_iconst (v := nI 0) dL_isDay_244 (by decide) ?_
    refine ex_istore (lv' := [(16, .int (nI 0)), (15, .int (nI 0)), (14, .int (nI 0)), (13, .int pv), (12, .int (nI j)), (11, .int hv), (10, .int tv), (9, .int (u 12)), (8, .int (u 14)), (7, .int (u 15)), (6, .int (u 11)), (5, .int (sumP q n)), (4, .int (u1 8)), (3, .int gg), (2, .int (u 6 + nI 1)), (1, .int (nI n)), (0, .ref b)]) dL_isDay_245 (by decide) rfl ?_
    refine ex_iload_n 14 dL_isDay_247 rfl rfl ?_
    refine ex_aload_n 16 dL_isDay_248 rfl rfl ?_
    refine ex_iconst (v := nI 3) dL_isDay_249 (by decide) ?_
    refine ex_cnt (k := 3) (v := u 3) vl_L_8 S wf (by decide) rfl (by decide) (Nat.le_of_ble_eq_true rfl) (Nat.le_refl _) (Nat.le_refl _) dL_isDay_250 (fun h S => ?_)
    refine ex_irem dL_isDay_253 (u3n) ?_
    refine ex_if_ne (tgt := 378) dL_isDay_254 (by decide) (fun c_254 => ?_) (fun c_254 => absurd c_254 (hm))
    refine ex_lv (lv2 := [(16, .int (nI 0)), (15, .int (nI 0)), (14, .int (nI 0)), (13, .int pv), (12, .int (nI j)), (11, .int hv), (10, .int tv), (9, .int (u 12)), (8, .int (u 14)), (7, .int (u 15)), (6, .int (u 11)), (5, .int (sumP q n)), (4, .int (u1 8)), (3, .int gg), (2, .int (u 6 + nI 1)), (1, .int (nI n)), (0, .ref b)]) [0, 1, 2, 3, 4, 5, 6, 7, 8, 9, 10, 11, 12, 13, 14, 15, 16] rfl ?_
    exact e378s0 (u2 := u1) (q3 := (uq q1 j 5 (q1 j 5 + nI 1))) hQ S wf m3 wfB hX e6 (by rw [e11]; exact (Int32.sub_zero _).symm) (by rw [e15]; exact (Int32.add_zero _).symm) (by rw [sumP_sF, sumP_sF, sF_uqk (by decide), hq3]; exact rg6) (by rw [e14]; exact (Int32.add_zero _).symm) h12a h12b hjn

