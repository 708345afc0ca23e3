set_option maxRecDepth 20000 in
set_option maxHeartbeats 2000000 in
theorem c_low {G : GG} {l : Launch} {h0 : HP} {z : Nat} {v : Int32} {n : Nat} (hn : 0 < n) (hn2 : n < 2 ^ 31) : Ct G l 0 0 0 yL_low cL_low 2 (some .int) [.int v, .int (nI n)] h0 z (p0 (.int (nI (loN v n))) h0 z) := by
  refine Ct.intro (lv := [(0, .int v), (1, .int (nI n))]) (by decide +kernel) (Nat.le_of_ble_eq_true rfl) rfl (fun X Q hQ hnm => ?_)
  refine ex_iload_n 0 dL_low_0 rfl rfl ?_
  refine ex_ldc (v := nI 2147483647) dL_low_1 kc_L_7 ?_
  refine ex_iand dL_low_3 ?_
  refine ex_iload_n 1 dL_low_4 rfl rfl ?_
  refine ex_irem dL_low_5 (fun q9 => absurd ((nI_eq hn2 (by omega)).mp (show nI n = nI 0 from q9)) (by omega)) ?_
  rw [loN_c hn hn2]
  exact ex_iret hQ rfl ⟨rfl, rfl, rfl⟩ dL_low_6

set_option maxRecDepth 20000 in
set_option maxHeartbeats 2000000 in
theorem c_areAllN {G : GG} {l : Launch} {h0 : HP} {z b : Nat} {n : Nat} {t : Nat} {u : Nat → Int32} {q : Nat → Nat → Int32} {R : RX} {K : Nat} (S0 : PP G h0 z b ((n, none, t, u, q), R)) (ok : iv K (n, none, t, u, q)) (hK : K < 2 ^ 23) : Ct G l 3 0 0 yL_areAll cL_areAll 14 (some .boolean) [.ref b] h0 z (pL G b z ((n, none, t, u, q), R)) := by
  refine Ct.intro (lv := [(0, .ref b)]) (by decide +kernel) (Nat.le_of_ble_eq_true rfl) rfl (fun X Q hQ hnm => ?_)
  have S := S0
  have wf : wfA (n, none, t, u, q) := ok.1.1
  have n8 : n ≤ 8 := wf.1
  have tw : t < n ∨ t = 0 := wf.2.2
  have ok1 := ok.1
  have ow := ok.2
  refine ex_aload_n 0 dL_areAll_0 rfl rfl ?_
  refine ex_bipush (v := nI 7) dL_areAll_1 (by decide) ?_
  refine ex_cnt (k := 7) (v := nI n) vl_L_8 S wf (by decide) rfl (by decide) (Nat.le_of_ble_eq_true rfl) (Nat.le_refl _) (Nat.le_refl _) dL_areAll_3 (fun h S => ?_)
  refine ex_istore_n (lv' := [(1, .int (nI n)), (0, .ref b)]) dL_areAll_6 rfl (by decide) rfl ?_
  refine ex_aload_n 1 dL_areAll_7 rfl rfl ?_
  refine ex_bipush (v := nI 9) dL_areAll_8 (by decide) ?_
  refine ex_cnt (k := 9) (v := (-6)) vl_L_8 S wf (by decide) rfl (by decide) (Nat.le_of_ble_eq_true rfl) (Nat.le_refl _) (Nat.le_refl _) dL_areAll_10 (fun h S => ?_)
  refine ex_istore_n (lv' := [(2, .int (-6)), (1, .int (nI n)), (0, .ref b)]) dL_areAll_13 rfl (by decide) rfl ?_
  refine ex_aload_n 2 dL_areAll_14 rfl rfl ?_
  refine ex_bipush (v := nI 8) dL_areAll_15 (by decide) ?_
  refine ex_cnt (k := 8) (v := u 8) vl_L_8 S wf (by decide) rfl (by decide) (Nat.le_of_ble_eq_true rfl) (Nat.le_refl _) (Nat.le_refl _) dL_areAll_17 (fun h S => ?_)
  refine ex_istore_n (lv' := [(3, .int (u 8)), (2, .int (-6)), (1, .int (nI n)), (0, .ref b)]) dL_areAll_20 rfl (by decide) rfl ?_
  refine ex_iconst (v := nI 0) dL_areAll_21 (by decide) ?_
  refine ex_istore (lv' := [(4, .int (nI 0)), (3, .int (u 8)), (2, .int (-6)), (1, .int (nI n)), (0, .ref b)]) dL_areAll_22 (by decide) rfl ?_
  refine ex_iconst (v := nI 0) dL_areAll_24 (by decide) ?_
  refine ex_istore (lv' := [(5, .int (nI 0)), (4, .int (nI 0)), (3, .int (u 8)), (2, .int (-6)), (1, .int (nI n)), (0, .ref b)]) dL_areAll_25 (by decide) rfl ?_
  refine ex_iconst (v := nI 0) dL_areAll_27 (by decide) ?_
  refine ex_istore (lv' := [(6, .int (nI 0)), (5, .int (nI 0)), (4, .int (nI 0)), (3, .int (u 8)), (2, .int (-6)), (1, .int (nI n)), (0, .ref b)]) dL_areAll_28 (by decide) rfl ?_
  refine ex_iconst (v := nI 0) dL_areAll_30 (by decide) ?_
  refine ex_istore (lv' := [(7, .int (nI 0)), (6, .int (nI 0)), (5, .int (nI 0)), (4, .int (nI 0)), (3, .int (u 8)), (2, .int (-6)), (1, .int (nI n)), (0, .ref b)]) dL_areAll_31 (by decide) rfl ?_
  refine ex_iconst (v := nI 0) dL_areAll_33 (by decide) ?_
  refine ex_istore (lv' := [(8, .int (nI 0)), (7, .int (nI 0)), (6, .int (nI 0)), (5, .int (nI 0)), (4, .int (nI 0)), (3, .int (u 8)), (2, .int (-6)), (1, .int (nI n)), (0, .ref b)]) dL_areAll_34 (by decide) rfl ?_
  refine ex_iconst (v := nI 0) dL_areAll_36 (by decide) ?_
  refine ex_istore (lv' := [(9, .int (nI 0)), (8, .int (nI 0)), (7, .int (nI 0)), (6, .int (nI 0)), (5, .int (nI 0)), (4, .int (nI 0)), (3, .int (u 8)), (2, .int (-6)), (1, .int (nI n)), (0, .ref b)]) dL_areAll_37 (by decide) rfl ?_
  suffices H : ∀ (k m : Nat) (h : HP), m + k = n → PP G h z b ((n, none, t, u, q), R) → ex G l X Q 3 0 0 0 0 cL_areAll yL_areAll.cls 14 (some .boolean) h z 39 [(9, .int (nI m)), (8, .int (sF q 5 m)), (7, .int (sF q 2 m)), (6, .int (sF q 4 m)), (5, .int (sF q 3 m)), (4, .int (sumB u q m)), (3, .int (u 8)), (2, .int (-6)), (1, .int (nI n)), (0, .ref b)] [] from by
    have e2 := H n 0 h (by omega) S
    refine ex_lv (lv2 := [(9, .int (nI 0)), (8, .int (nI 0)), (7, .int (nI 0)), (6, .int (nI 0)), (5, .int (nI 0)), (4, .int (nI 0)), (3, .int (u 8)), (2, .int (-6)), (1, .int (nI n)), (0, .ref b)]) [0, 1, 2, 3, 4, 5, 6, 7, 8, 9] rfl ?_
    exact e2
  intro k
  induction k with
  | zero =>
    intro m h hm S
    rw [show m = n by omega]
    refine ex_iload 0 dL_areAll_39 rfl ?_
    refine ex_iload_n 8 dL_areAll_41 rfl rfl ?_
    refine ex_icmp_ge (tgt := 274) dL_areAll_42 (by decide) (fun c_42 => ?_) (fun c_42 => absurd ((nI_leI (by omega) (by omega)).mpr (by omega)) c_42)
    refine ex_iload_n 7 dL_areAll_274 rfl rfl ?_
    refine ex_bipush (v := (-6)) dL_areAll_275 (by decide) ?_
    refine ex_icmp_ne (tgt := 315) dL_areAll_277 (by decide) (fun c_277 => absurd (rfl) c_277) (fun c_277 => ?_)
    refine ex_aload_n 9 dL_areAll_280 rfl rfl ?_
    refine ex_bipush (v := nI 10) dL_areAll_281 (by decide) ?_
    refine ex_cnt (k := 10) (v := nI t) vl_L_8 S wf (by decide) rfl (by decide) (Nat.le_of_ble_eq_true rfl) (Nat.le_refl _) (Nat.le_refl _) dL_areAll_283 (fun h S => ?_)
    refine ex_if_lt (tgt := 311) dL_areAll_286 (by decide) (fun c_286 => absurd c_286 (nI_pos (by omega))) (fun c_286 => ?_)
    refine ex_aload_n 9 dL_areAll_289 rfl rfl ?_
    refine ex_bipush (v := nI 10) dL_areAll_290 (by decide) ?_
    refine ex_cnt (k := 10) (v := nI t) vl_L_8 S wf (by decide) rfl (by decide) (Nat.le_of_ble_eq_true rfl) (Nat.le_refl _) (Nat.le_refl _) dL_areAll_292 (fun h S => ?_)
    refine ex_iload_n 8 dL_areAll_295 rfl rfl ?_
    refine ex_if_ne (tgt := 303) dL_areAll_296 (by decide) (fun c_296 => ?_) (fun c_296 => ?_)
    · have n_296 : ¬ (n = 0) := fun q9 => c_296 ((nI_eq (b := 0) (by omega) (by omega)).mpr q9)
      refine ex_iload_n 8 dL_areAll_303 rfl rfl ?_
      refine ex_icmp_ge (tgt := 311) dL_areAll_304 (by decide) (fun c_304 => absurd c_304 (fun q9 => absurd ((nI_leI (by omega) (by omega)).mp q9) (by omega))) (fun c_304 => ?_)
      refine ex_iconst (v := nI 1) dL_areAll_307 (by decide) ?_
      refine ex_goto (tgt := 340) dL_areAll_308 (by decide) ?_
      refine ex_istore (lv' := [(9, .int (nI 1)), (8, .int (sF q 5 n)), (7, .int (sF q 2 n)), (6, .int (sF q 4 n)), (5, .int (sF q 3 n)), (4, .int (sumB u q n)), (3, .int (u 8)), (2, .int (-6)), (1, .int (nI n)), (0, .ref b)]) dL_areAll_340 (by decide) rfl ?_
      refine ex_iload 0 dL_areAll_342 rfl ?_
      refine ex_if_eq (tgt := 464) dL_areAll_344 (by decide) (fun c_344 => absurd c_344 (by decide)) (fun c_344 => ?_)
      refine ex_iload_n 6 dL_areAll_347 rfl rfl ?_
      refine ex_if_lt (tgt := 464) dL_areAll_348 (by decide) (fun c_348 => absurd c_348 (Int32.not_lt.mpr ok1.m8)) (fun c_348 => ?_)
      refine ex_iload_n 6 dL_areAll_351 rfl rfl ?_
      refine ex_bipush (v := nI 100) dL_areAll_352 (by decide) ?_
      refine ex_icmp_ge (tgt := 464) dL_areAll_354 (by decide) (fun c_354 => absurd c_354 (bd_lt ok1.2.2.1 (by decide) (by decide))) (fun c_354 => ?_)
      refine ex_aload_n 9 dL_areAll_357 rfl rfl ?_
      refine ex_bipush (v := nI 11) dL_areAll_358 (by decide) ?_
      refine ex_cnt (k := 11) (v := u 11) vl_L_8 S wf (by decide) rfl (by decide) (Nat.le_of_ble_eq_true rfl) (Nat.le_refl _) (Nat.le_refl _) dL_areAll_360 (fun h S => ?_)
      refine ex_if_lt (tgt := 464) dL_areAll_363 (by decide) (fun c_363 => absurd c_363 (Int32.not_lt.mpr (ok1.2.2.2.1.pos (by omega)))) (fun c_363 => ?_)
      refine ex_aload_n 9 dL_areAll_366 rfl rfl ?_
      refine ex_bipush (v := nI 12) dL_areAll_367 (by decide) ?_
      refine ex_cnt (k := 12) (v := sumB u q n) vl_L_8 S wf (by decide) rfl (by decide) (Nat.le_of_ble_eq_true rfl) (Nat.le_refl _) (Nat.le_refl _) dL_areAll_369 (fun h S => ?_)
      refine ex_iload 5 dL_areAll_372 rfl ?_
      refine ex_icmp_ne (tgt := 464) dL_areAll_374 (by decide) (fun c_374 => absurd (rfl) c_374) (fun c_374 => ?_)
      refine ex_aload_n 9 dL_areAll_377 rfl rfl ?_
      refine ex_bipush (v := nI 17) dL_areAll_378 (by decide) ?_
      refine ex_cnt (k := 17) (v := sumP q n) vl_L_8 S wf (by decide) rfl (by decide) (Nat.le_of_ble_eq_true rfl) (Nat.le_refl _) (Nat.le_refl _) dL_areAll_380 (fun h S => ?_)
      refine ex_iload 4 dL_areAll_383 rfl ?_
      refine ex_icmp_ne (tgt := 464) dL_areAll_385 (by decide) (fun c_385 => absurd (sumP_sF n) c_385) (fun c_385 => ?_)
      refine ex_aload_n 9 dL_areAll_388 rfl rfl ?_
      refine ex_bipush (v := nI 13) dL_areAll_389 (by decide) ?_
      refine ex_cnt (k := 13) (v := u 12) vl_L_8 S wf (by decide) rfl (by decide) (Nat.le_of_ble_eq_true rfl) (Nat.le_refl _) (Nat.le_refl _) dL_areAll_391 (fun h S => ?_)
      refine ex_iload 2 dL_areAll_394 rfl ?_
      refine ex_icmp_ne (tgt := 464) dL_areAll_396 (by decide) (fun c_396 => absurd (ow.1) c_396) (fun c_396 => ?_)
      refine ex_aload_n 9 dL_areAll_399 rfl rfl ?_
      refine ex_bipush (v := nI 14) dL_areAll_400 (by decide) ?_
      refine ex_cnt (k := 14) (v := u 13) vl_L_8 S wf (by decide) rfl (by decide) (Nat.le_of_ble_eq_true rfl) (Nat.le_refl _) (Nat.le_refl _) dL_areAll_402 (fun h S => ?_)
      refine ex_iload 3 dL_areAll_405 rfl ?_
      refine ex_icmp_ne (tgt := 464) dL_areAll_407 (by decide) (fun c_407 => absurd (ow.2.1) c_407) (fun c_407 => ?_)
      refine ex_iload 1 dL_areAll_410 rfl ?_
      refine ex_aload_n 9 dL_areAll_412 rfl rfl ?_
      refine ex_bipush (v := nI 6) dL_areAll_413 (by decide) ?_
      refine ex_cnt (k := 6) (v := u 6) vl_L_8 S wf (by decide) rfl (by decide) (Nat.le_of_ble_eq_true rfl) (Nat.le_refl _) (Nat.le_refl _) dL_areAll_415 (fun h S => ?_)
      refine ex_icmp_gt (tgt := 464) dL_areAll_418 (by decide) (fun c_418 => absurd c_418 (sum_le ow (by omega))) (fun c_418 => ?_)
      refine ex_aload_n 9 dL_areAll_421 rfl rfl ?_
      refine ex_bipush (v := nI 11) dL_areAll_422 (by decide) ?_
      refine ex_cnt (k := 11) (v := u 11) vl_L_8 S wf (by decide) rfl (by decide) (Nat.le_of_ble_eq_true rfl) (Nat.le_refl _) (Nat.le_refl _) dL_areAll_424 (fun h S => ?_)
      refine ex_iload 4 dL_areAll_427 rfl ?_
      refine ex_iadd dL_areAll_429 ?_
      refine ex_aload_n 9 dL_areAll_430 rfl rfl ?_
      refine ex_bipush (v := nI 16) dL_areAll_431 (by decide) ?_
      refine ex_cnt (k := 16) (v := u 15) vl_L_8 S wf (by decide) rfl (by decide) (Nat.le_of_ble_eq_true rfl) (Nat.le_refl _) (Nat.le_refl _) dL_areAll_433 (fun h S => ?_)
      refine ex_iadd dL_areAll_436 ?_
      refine ex_sipush (v := nI 1000) dL_areAll_437 (by decide) ?_
      refine ex_aload_n 9 dL_areAll_440 rfl rfl ?_
      refine ex_bipush (v := nI 18) dL_areAll_441 (by decide) ?_
      refine ex_cnt (k := 18) (v := u 16) vl_L_8 S wf (by decide) rfl (by decide) (Nat.le_of_ble_eq_true rfl) (Nat.le_refl _) (Nat.le_refl _) dL_areAll_443 (fun h S => ?_)
      refine ex_iadd dL_areAll_446 ?_
      refine ex_icmp_ne (tgt := 464) dL_areAll_447 (by decide) (fun c_447 => absurd (ow.2.2.1) c_447) (fun c_447 => ?_)
      refine ex_aload_n 9 dL_areAll_450 rfl rfl ?_
      refine ex_iload_n 8 dL_areAll_451 rfl rfl ?_
      refine ex_iconst (v := nI 0) dL_areAll_452 (by decide) ?_
      refine ex_perN vl_L_14 S wf (by show n ≤ n; omega) (by omega) (by decide) (Nat.le_of_ble_eq_true rfl) (Nat.le_refl _) (Nat.le_refl _) dL_areAll_453 (fun h S => ?_)
      refine ex_iconst (v := (-1)) dL_areAll_456 (by decide) ?_
      refine ex_icmp_ne (tgt := 464) dL_areAll_457 (by decide) (fun c_457 => absurd (rfl) c_457) (fun c_457 => ?_)
      refine ex_iconst (v := nI 1) dL_areAll_460 (by decide) ?_
      refine ex_goto (tgt := 465) dL_areAll_461 (by decide) ?_
      exact ex_zret hQ rfl (by decide) ⟨rfl, rfl, S⟩ dL_areAll_465
    · have n_296 : n = 0 := (nI_eq (b := 0) (by omega) (by omega)).mp c_296
      refine ex_iconst (v := nI 1) dL_areAll_299 (by decide) ?_
      refine ex_goto (tgt := 304) dL_areAll_300 (by decide) ?_
      refine ex_icmp_ge (tgt := 311) dL_areAll_304 (by decide) (fun c_304 => absurd c_304 (fun q9 => absurd ((nI_leI (by omega) (by omega)).mp q9) (by omega))) (fun c_304 => ?_)
      refine ex_iconst (v := nI 1) dL_areAll_307 (by decide) ?_
      refine ex_goto (tgt := 340) dL_areAll_308 (by decide) ?_
      refine ex_istore (lv' := [(9, .int (nI 1)), (8, .int (sF q 5 n)), (7, .int (sF q 2 n)), (6, .int (sF q 4 n)), (5, .int (sF q 3 n)), (4, .int (sumB u q n)), (3, .int (u 8)), (2, .int (-6)), (1, .int (nI n)), (0, .ref b)]) dL_areAll_340 (by decide) rfl ?_
      refine ex_iload 0 dL_areAll_342 rfl ?_
      refine ex_if_eq (tgt := 464) dL_areAll_344 (by decide) (fun c_344 => absurd c_344 (by decide)) (fun c_344 => ?_)
      refine ex_iload_n 6 dL_areAll_347 rfl rfl ?_
      refine ex_if_lt (tgt := 464) dL_areAll_348 (by decide) (fun c_348 => absurd c_348 (Int32.not_lt.mpr ok1.m8)) (fun c_348 => ?_)
      refine ex_iload_n 6 dL_areAll_351 rfl rfl ?_
      refine ex_bipush (v := nI 100) dL_areAll_352 (by decide) ?_
      refine ex_icmp_ge (tgt := 464) dL_areAll_354 (by decide) (fun c_354 => absurd c_354 (bd_lt ok1.2.2.1 (by decide) (by decide))) (fun c_354 => ?_)
      refine ex_aload_n 9 dL_areAll_357 rfl rfl ?_
      refine ex_bipush (v := nI 11) dL_areAll_358 (by decide) ?_
      refine ex_cnt (k := 11) (v := u 11) vl_L_8 S wf (by decide) rfl (by decide) (Nat.le_of_ble_eq_true rfl) (Nat.le_refl _) (Nat.le_refl _) dL_areAll_360 (fun h S => ?_)
      refine ex_if_lt (tgt := 464) dL_areAll_363 (by decide) (fun c_363 => absurd c_363 (Int32.not_lt.mpr (ok1.2.2.2.1.pos (by omega)))) (fun c_363 => ?_)
      refine ex_aload_n 9 dL_areAll_366 rfl rfl ?_
      refine ex_bipush (v := nI 12) dL_areAll_367 (by decide) ?_
      refine ex_cnt (k := 12) (v := sumB u q n) vl_L_8 S wf (by decide) rfl (by decide) (Nat.le_of_ble_eq_true rfl) (Nat.le_refl _) (Nat.le_refl _) dL_areAll_369 (fun h S => ?_)
      refine ex_iload 5 dL_areAll_372 rfl ?_
      refine ex_icmp_ne (tgt := 464) dL_areAll_374 (by decide) (fun c_374 => absurd (rfl) c_374) (fun c_374 => ?_)
      refine ex_aload_n 9 dL_areAll_377 rfl rfl ?_
      refine ex_bipush (v := nI 17) dL_areAll_378 (by decide) ?_
      refine ex_cnt (k := 17) (v := sumP q n) vl_L_8 S wf (by decide) rfl (by decide) (Nat.le_of_ble_eq_true rfl) (Nat.le_refl _) (Nat.le_refl _) dL_areAll_380 (fun h S => ?_)
      refine ex_iload 4 dL_areAll_383 rfl ?_
      refine ex_icmp_ne (tgt := 464) dL_areAll_385 (by decide) (fun c_385 => absurd (sumP_sF n) c_385) (fun c_385 => ?_)
      refine ex_aload_n 9 dL_areAll_388 rfl rfl ?_
      refine ex_bipush (v := nI 13) dL_areAll_389 (by decide) ?_
      refine ex_cnt (k := 13) (v := u 12) vl_L_8 S wf (by decide) rfl (by decide) (Nat.le_of_ble_eq_true rfl) (Nat.le_refl _) (Nat.le_refl _) dL_areAll_391 (fun h S => ?_)
      refine ex_iload 2 dL_areAll_394 rfl ?_
      refine ex_icmp_ne (tgt := 464) dL_areAll_396 (by decide) (fun c_396 => absurd (ow.1) c_396) (fun c_396 => ?_)
      refine ex_aload_n 9 dL_areAll_399 rfl rfl ?_
      refine ex_bipush (v := nI 14) dL_areAll_400 (by decide) ?_
      refine ex_cnt (k := 14) (v := u 13) vl_L_8 S wf (by decide) rfl (by decide) (Nat.le_of_ble_eq_true rfl) (Nat.le_refl _) (Nat.le_refl _) dL_areAll_402 (fun h S => ?_)
      refine ex_iload 3 dL_areAll_405 rfl ?_
      refine ex_icmp_ne (tgt := 464) dL_areAll_407 (by decide) (fun c_407 => absurd (ow.2.1) c_407) (fun c_407 => ?_)
      refine ex_iload 1 dL_areAll_410 rfl ?_
      refine ex_aload_n 9 dL_areAll_412 rfl rfl ?_
      refine ex_bipush (v := nI 6) dL_areAll_413 (by decide) ?_
      refine ex_cnt (k := 6) (v := u 6) vl_L_8 S wf (by decide) rfl (by decide) (Nat.le_of_ble_eq_true rfl) (Nat.le_refl _) (Nat.le_refl _) dL_areAll_415 (fun h S => ?_)
      refine ex_icmp_gt (tgt := 464) dL_areAll_418 (by decide) (fun c_418 => absurd c_418 (sum_le ow (by omega))) (fun c_418 => ?_)
      refine ex_aload_n 9 dL_areAll_421 rfl rfl ?_
      refine ex_bipush (v := nI 11) dL_areAll_422 (by decide) ?_
      refine ex_cnt (k := 11) (v := u 11) vl_L_8 S wf (by decide) rfl (by decide) (Nat.le_of_ble_eq_true rfl) (Nat.le_refl _) (Nat.le_refl _) dL_areAll_424 (fun h S => ?_)
      refine ex_iload 4 dL_areAll_427 rfl ?_
      refine ex_iadd dL_areAll_429 ?_
      refine ex_aload_n 9 dL_areAll_430 rfl rfl ?_
      refine ex_bipush (v := nI 16) dL_areAll_431 (by decide) ?_
      refine ex_cnt (k := 16) (v := u 15) vl_L_8 S wf (by decide) rfl (by decide) (Nat.le_of_ble_eq_true rfl) (Nat.le_refl _) (Nat.le_refl _) dL_areAll_433 (fun h S => ?_)
      refine ex_iadd dL_areAll_436 ?_
      refine ex_sipush (v := nI 1000) dL_areAll_437 (by decide) ?_
      refine ex_aload_n 9 dL_areAll_440 rfl rfl ?_
      refine ex_bipush (v := nI 18) dL_areAll_441 (by decide) ?_
      refine ex_cnt (k := 18) (v := u 16) vl_L_8 S wf (by decide) rfl (by decide) (Nat.le_of_ble_eq_true rfl) (Nat.le_refl _) (Nat.le_refl _) dL_areAll_443 (fun h S => ?_)
      refine ex_iadd dL_areAll_446 ?_
      refine ex_icmp_ne (tgt := 464) dL_areAll_447 (by decide) (fun c_447 => absurd (ow.2.2.1) c_447) (fun c_447 => ?_)
      refine ex_aload_n 9 dL_areAll_450 rfl rfl ?_
      refine ex_iload_n 8 dL_areAll_451 rfl rfl ?_
      refine ex_iconst (v := nI 0) dL_areAll_452 (by decide) ?_
      refine ex_perN vl_L_14 S wf (by show n ≤ n; omega) (by omega) (by decide) (Nat.le_of_ble_eq_true rfl) (Nat.le_refl _) (Nat.le_refl _) dL_areAll_453 (fun h S => ?_)
      refine ex_iconst (v := (-1)) dL_areAll_456 (by decide) ?_
      refine ex_icmp_ne (tgt := 464) dL_areAll_457 (by decide) (fun c_457 => absurd (rfl) c_457) (fun c_457 => ?_)
      refine ex_iconst (v := nI 1) dL_areAll_460 (by decide) ?_
      refine ex_goto (tgt := 465) dL_areAll_461 (by decide) ?_
      exact ex_zret hQ rfl (by decide) ⟨rfl, rfl, S⟩ dL_areAll_465
  | succ k ih =>
    intro m h hm S
    have hmn : m < n := by omega
    have pp := ow.2.2.2.2.1 m hmn
    have b3 : ¬ q m 3 < 0 := Int32.not_lt.mpr (pp.1.pos (by omega))
    have b2 : 0 ≤ q m 2 := pp.2.2.1.pos (by decide)
    by_cases hb : q m 2 < u 4
    · refine ex_iload 0 dL_areAll_39 rfl ?_
      refine ex_iload_n 8 dL_areAll_41 rfl rfl ?_
      refine ex_icmp_ge (tgt := 274) dL_areAll_42 (by decide) (fun c_42 => absurd c_42 (fun q9 => absurd ((nI_leI (by omega) (by omega)).mp q9) (by omega))) (fun c_42 => ?_)
      refine ex_iload 0 dL_areAll_45 rfl ?_
      refine ex_bipush (v := nI 8) dL_areAll_47 (by decide) ?_
      refine ex_icmp_ge (tgt := 274) dL_areAll_49 (by decide) (fun c_49 => absurd c_49 (fun q9 => absurd ((nI_leI (by omega) (by omega)).mp q9) (by omega))) (fun c_49 => ?_)
      refine ex_aload_n 9 dL_areAll_52 rfl rfl ?_
      refine ex_iload 0 dL_areAll_53 rfl ?_
      refine ex_iconst (v := nI 2) dL_areAll_55 (by decide) ?_
      refine ex_per (j := m) (k := 2) (v := q m 2) vl_L_14 S wf hmn (by decide) rfl (by decide) (Nat.le_of_ble_eq_true rfl) (Nat.le_refl _) (Nat.le_refl _) dL_areAll_56 (fun h S => ?_)
      refine ex_istore (lv' := [(10, .int (q m 2)), (9, .int (nI m)), (8, .int (sF q 5 m)), (7, .int (sF q 2 m)), (6, .int (sF q 4 m)), (5, .int (sF q 3 m)), (4, .int (sumB u q m)), (3, .int (u 8)), (2, .int (-6)), (1, .int (nI n)), (0, .ref b)]) dL_areAll_59 (by decide) rfl ?_
      refine ex_iload 0 dL_areAll_61 rfl ?_
      refine ex_aload_n 10 dL_areAll_63 rfl rfl ?_
      refine ex_iconst (v := nI 4) dL_areAll_64 (by decide) ?_
      refine ex_cnt (k := 4) (v := u 4) vl_L_8 S wf (by decide) rfl (by decide) (Nat.le_of_ble_eq_true rfl) (Nat.le_refl _) (Nat.le_refl _) dL_areAll_65 (fun h S => ?_)
      refine ex_icmp_lt (tgt := 75) dL_areAll_68 (by decide) (fun c_68 => ?_) (fun c_68 => absurd (hb) c_68)
      refine ex_iconst (v := nI 0) dL_areAll_75 (by decide) ?_
      refine ex_istore (lv' := [(11, .int (nI 0)), (10, .int (q m 2)), (9, .int (nI m)), (8, .int (sF q 5 m)), (7, .int (sF q 2 m)), (6, .int (sF q 4 m)), (5, .int (sF q 3 m)), (4, .int (sumB u q m)), (3, .int (u 8)), (2, .int (-6)), (1, .int (nI n)), (0, .ref b)]) dL_areAll_76 (by decide) rfl ?_
      refine ex_iload_n 8 dL_areAll_78 rfl rfl ?_
      refine ex_iconst (v := nI 5) dL_areAll_79 (by decide) ?_
      refine ex_aload_n 11 dL_areAll_80 rfl rfl ?_
      refine ex_iload 2 dL_areAll_81 rfl ?_
      refine ex_iconst (v := nI 0) dL_areAll_83 (by decide) ?_
      refine ex_per (j := m) (k := 0) (v := q m 0) vl_L_14 S wf hmn (by decide) rfl (by decide) (Nat.le_of_ble_eq_true rfl) (Nat.le_refl _) (Nat.le_refl _) dL_areAll_84 (fun h S => ?_)
      refine ex_imul dL_areAll_87 ?_
      refine ex_iadd dL_areAll_88 ?_
      refine ex_bipush (v := nI 10) dL_areAll_89 (by decide) ?_
      refine ex_iload 1 dL_areAll_91 rfl ?_
      refine ex_imul dL_areAll_93 ?_
      refine ex_isub dL_areAll_94 ?_
      refine ex_istore (lv' := [(12, .int (((u 8) + ((nI 5) * (q m 0))) - ((nI 10) * (q m 2)))), (11, .int (nI 0)), (10, .int (q m 2)), (9, .int (nI m)), (8, .int (sF q 5 m)), (7, .int (sF q 2 m)), (6, .int (sF q 4 m)), (5, .int (sF q 3 m)), (4, .int (sumB u q m)), (3, .int (u 8)), (2, .int (-6)), (1, .int (nI n)), (0, .ref b)]) dL_areAll_95 (by decide) rfl ?_
      refine ex_iload_n 10 dL_areAll_97 rfl rfl ?_
      refine ex_if_lt (tgt := 131) dL_areAll_98 (by decide) (fun c_98 => ?_) (fun c_98 => absurd (by decide) c_98)
      refine ex_iconst (v := nI 0) dL_areAll_131 (by decide) ?_
      refine ex_istore (lv' := [(13, .int (nI 0)), (12, .int (((u 8) + ((nI 5) * (q m 0))) - ((nI 10) * (q m 2)))), (11, .int (nI 0)), (10, .int (q m 2)), (9, .int (nI m)), (8, .int (sF q 5 m)), (7, .int (sF q 2 m)), (6, .int (sF q 4 m)), (5, .int (sF q 3 m)), (4, .int (sumB u q m)), (3, .int (u 8)), (2, .int (-6)), (1, .int (nI n)), (0, .ref b)]) dL_areAll_132 (by decide) rfl ?_
      refine ex_aload_n 13 dL_areAll_134 rfl rfl ?_
      refine ex_iload 4 dL_areAll_135 rfl ?_
      refine ex_iconst (v := nI 4) dL_areAll_137 (by decide) ?_
      refine ex_per (j := m) (k := 4) (v := bB u q m) vl_L_14 S wf hmn (by decide) rfl (by decide) (Nat.le_of_ble_eq_true rfl) (Nat.le_refl _) (Nat.le_refl _) dL_areAll_138 (fun h S => ?_)
      refine ex_iload 2 dL_areAll_141 rfl ?_
      refine ex_if_eq (tgt := 150) dL_areAll_143 (by decide) (fun c_143 => ?_) (fun c_143 => absurd (by decide) c_143)
      refine ex_iconst (v := nI 0) dL_areAll_150 (by decide) ?_
      refine ex_icmp_ne (tgt := 206) dL_areAll_151 (by decide) (fun c_151 => absurd (by unfold bB; rw [if_pos hb]) c_151) (fun c_151 => ?_)
      refine ex_aload_n 13 dL_areAll_154 rfl rfl ?_
      refine ex_iload 4 dL_areAll_155 rfl ?_
      refine ex_iconst (v := nI 5) dL_areAll_157 (by decide) ?_
      refine ex_per (j := m) (k := 5) (v := scI u q m + nI 1000) vl_L_14 S wf hmn (by decide) rfl (by decide) (Nat.le_of_ble_eq_true rfl) (Nat.le_refl _) (Nat.le_refl _) dL_areAll_158 (fun h S => ?_)
      refine ex_iload 1 dL_areAll_161 rfl ?_
      refine ex_sipush (v := nI 1000) dL_areAll_163 (by decide) ?_
      refine ex_iadd dL_areAll_166 ?_
      refine ex_icmp_ne (tgt := 206) dL_areAll_167 (by decide) (fun c_167 => absurd (rfl) c_167) (fun c_167 => ?_)
      refine ex_aload_n 13 dL_areAll_170 rfl rfl ?_
      refine ex_iload 4 dL_areAll_171 rfl ?_
      refine ex_bipush (v := nI 8) dL_areAll_173 (by decide) ?_
      refine ex_per (j := m) (k := 8) (v := mayI n none u q m) vl_L_14 S wf hmn (by decide) rfl (by decide) (Nat.le_of_ble_eq_true rfl) (Nat.le_refl _) (Nat.le_refl _) dL_areAll_175 (fun h S => ?_)
      refine ex_iload 0 dL_areAll_178 rfl ?_
      refine ex_if_eq (tgt := 187) dL_areAll_180 (by decide) (fun c_180 => ?_) (fun c_180 => absurd (by decide) c_180)
      refine ex_iconst (v := nI 0) dL_areAll_187 (by decide) ?_
      refine ex_icmp_ne (tgt := 206) dL_areAll_188 (by decide) (fun c_188 => absurd (by unfold mayI; rw [if_neg (fun q9 => q9.1 rfl)]) c_188) (fun c_188 => ?_)
      refine ex_aload_n 13 dL_areAll_191 rfl rfl ?_
      refine ex_iload 4 dL_areAll_192 rfl ?_
      refine ex_iconst (v := nI 3) dL_areAll_194 (by decide) ?_
      refine ex_per (j := m) (k := 3) (v := q m 3) vl_L_14 S wf hmn (by decide) rfl (by decide) (Nat.le_of_ble_eq_true rfl) (Nat.le_refl _) (Nat.le_refl _) dL_areAll_195 (fun h S => ?_)
      refine ex_if_lt (tgt := 206) dL_areAll_198 (by decide) (fun c_198 => absurd c_198 (b3)) (fun c_198 => ?_)
      refine ex_iload 3 dL_areAll_201 rfl ?_
      refine ex_if_ge (tgt := 208) dL_areAll_203 (by decide) (fun c_203 => ?_) (fun c_203 => absurd (b2) c_203)
      refine ex_iload 9 dL_areAll_208 rfl ?_
      refine ex_iload 2 dL_areAll_210 rfl ?_
      refine ex_if_eq (tgt := 219) dL_areAll_212 (by decide) (fun c_212 => ?_) (fun c_212 => absurd (by decide) c_212)
      refine ex_iconst (v := nI 0) dL_areAll_219 (by decide) ?_
      refine ex_iadd dL_areAll_220 ?_
      refine ex_istore (lv' := [(4, .int ((sumB u q m) + (nI 0))), (13, .int (nI 0)), (12, .int (((u 8) + ((nI 5) * (q m 0))) - ((nI 10) * (q m 2)))), (11, .int (nI 0)), (10, .int (q m 2)), (9, .int (nI m)), (8, .int (sF q 5 m)), (7, .int (sF q 2 m)), (6, .int (sF q 4 m)), (5, .int (sF q 3 m)), (3, .int (u 8)), (2, .int (-6)), (1, .int (nI n)), (0, .ref b)]) dL_areAll_221 (by decide) rfl ?_
      refine ex_iload 9 dL_areAll_223 rfl ?_
      refine ex_aload_n 13 dL_areAll_225 rfl rfl ?_
      refine ex_iload 5 dL_areAll_226 rfl ?_
      refine ex_iconst (v := nI 3) dL_areAll_228 (by decide) ?_
      refine ex_per (j := m) (k := 3) (v := q m 3) vl_L_14 S wf hmn (by decide) rfl (by decide) (Nat.le_of_ble_eq_true rfl) (Nat.le_refl _) (Nat.le_refl _) dL_areAll_229 (fun h S => ?_)
      refine ex_iadd dL_areAll_232 ?_
      refine ex_istore (lv' := [(5, .int ((sF q 3 m) + (q m 3))), (4, .int ((sumB u q m) + (nI 0))), (13, .int (nI 0)), (12, .int (((u 8) + ((nI 5) * (q m 0))) - ((nI 10) * (q m 2)))), (11, .int (nI 0)), (10, .int (q m 2)), (9, .int (nI m)), (8, .int (sF q 5 m)), (7, .int (sF q 2 m)), (6, .int (sF q 4 m)), (3, .int (u 8)), (2, .int (-6)), (1, .int (nI n)), (0, .ref b)]) dL_areAll_233 (by decide) rfl ?_
      refine ex_iload 8 dL_areAll_235 rfl ?_
      refine ex_iload 5 dL_areAll_237 rfl ?_
      refine ex_iadd dL_areAll_239 ?_
      refine ex_istore (lv' := [(7, .int ((sF q 2 m) + (q m 2))), (5, .int ((sF q 3 m) + (q m 3))), (4, .int ((sumB u q m) + (nI 0))), (13, .int (nI 0)), (12, .int (((u 8) + ((nI 5) * (q m 0))) - ((nI 10) * (q m 2)))), (11, .int (nI 0)), (10, .int (q m 2)), (9, .int (nI m)), (8, .int (sF q 5 m)), (6, .int (sF q 4 m)), (3, .int (u 8)), (2, .int (-6)), (1, .int (nI n)), (0, .ref b)]) dL_areAll_240 (by decide) rfl ?_
      refine ex_iload 9 dL_areAll_242 rfl ?_
      refine ex_aload_n 13 dL_areAll_244 rfl rfl ?_
      refine ex_iload 7 dL_areAll_245 rfl ?_
      refine ex_bipush (v := nI 6) dL_areAll_247 (by decide) ?_
      refine ex_per (j := m) (k := 6) (v := q m 4) vl_L_14 S wf hmn (by decide) rfl (by decide) (Nat.le_of_ble_eq_true rfl) (Nat.le_refl _) (Nat.le_refl _) dL_areAll_249 (fun h S => ?_)
      refine ex_iadd dL_areAll_252 ?_
      refine ex_istore (lv' := [(6, .int ((sF q 4 m) + (q m 4))), (7, .int ((sF q 2 m) + (q m 2))), (5, .int ((sF q 3 m) + (q m 3))), (4, .int ((sumB u q m) + (nI 0))), (13, .int (nI 0)), (12, .int (((u 8) + ((nI 5) * (q m 0))) - ((nI 10) * (q m 2)))), (11, .int (nI 0)), (10, .int (q m 2)), (9, .int (nI m)), (8, .int (sF q 5 m)), (3, .int (u 8)), (2, .int (-6)), (1, .int (nI n)), (0, .ref b)]) dL_areAll_253 (by decide) rfl ?_
      refine ex_iload 9 dL_areAll_255 rfl ?_
      refine ex_aload_n 13 dL_areAll_257 rfl rfl ?_
      refine ex_iload 8 dL_areAll_258 rfl ?_
      refine ex_bipush (v := nI 7) dL_areAll_260 (by decide) ?_
      refine ex_per (j := m) (k := 7) (v := q m 5) vl_L_14 S wf hmn (by decide) rfl (by decide) (Nat.le_of_ble_eq_true rfl) (Nat.le_refl _) (Nat.le_refl _) dL_areAll_262 (fun h S => ?_)
      refine ex_iadd dL_areAll_265 ?_
      refine ex_istore (lv' := [(8, .int ((sF q 5 m) + (q m 5))), (6, .int ((sF q 4 m) + (q m 4))), (7, .int ((sF q 2 m) + (q m 2))), (5, .int ((sF q 3 m) + (q m 3))), (4, .int ((sumB u q m) + (nI 0))), (13, .int (nI 0)), (12, .int (((u 8) + ((nI 5) * (q m 0))) - ((nI 10) * (q m 2)))), (11, .int (nI 0)), (10, .int (q m 2)), (9, .int (nI m)), (3, .int (u 8)), (2, .int (-6)), (1, .int (nI n)), (0, .ref b)]) dL_areAll_266 (by decide) rfl ?_
      refine ex_iinc (v := nI (m + 1)) (lv' := [(9, .int (nI (m + 1))), (8, .int ((sF q 5 m) + (q m 5))), (6, .int ((sF q 4 m) + (q m 4))), (7, .int ((sF q 2 m) + (q m 2))), (5, .int ((sF q 3 m) + (q m 3))), (4, .int ((sumB u q m) + (nI 0))), (13, .int (nI 0)), (12, .int (((u 8) + ((nI 5) * (q m 0))) - ((nI 10) * (q m 2)))), (11, .int (nI 0)), (10, .int (q m 2)), (3, .int (u 8)), (2, .int (-6)), (1, .int (nI n)), (0, .ref b)]) 9 dL_areAll_268 rfl (nI_1 m) (by decide) rfl ?_
      refine ex_goto (tgt := 39) dL_areAll_271 (by decide) ?_
      have e2 := ih (m + 1) h (by omega) S
      have e3 : sumB u q (m + 1) = (sumB u q m) + (nI 0) := by rw [sumB, if_pos hb, show nI 0 = 0 from rfl, Int32.add_zero]
      rw [e3] at e2
      refine ex_lv (lv2 := [(9, .int (nI (m + 1))), (8, .int ((sF q 5 m) + (q m 5))), (7, .int ((sF q 2 m) + (q m 2))), (6, .int ((sF q 4 m) + (q m 4))), (5, .int ((sF q 3 m) + (q m 3))), (4, .int ((sumB u q m) + (nI 0))), (3, .int (u 8)), (2, .int (-6)), (1, .int (nI n)), (0, .ref b)]) [0, 1, 3, 2, 4, 5, 10, 11, 12, 13] rfl ?_
      exact e2
    · refine ex_iload 0 dL_areAll_39 rfl ?_
      refine ex_iload_n 8 dL_areAll_41 rfl rfl ?_
      refine ex_icmp_ge (tgt := 274) dL_areAll_42 (by decide) (fun c_42 => absurd c_42 (fun q9 => absurd ((nI_leI (by omega) (by omega)).mp q9) (by omega))) (fun c_42 => ?_)
      refine ex_iload 0 dL_areAll_45 rfl ?_
      refine ex_bipush (v := nI 8) dL_areAll_47 (by decide) ?_
      refine ex_icmp_ge (tgt := 274) dL_areAll_49 (by decide) (fun c_49 => absurd c_49 (fun q9 => absurd ((nI_leI (by omega) (by omega)).mp q9) (by omega))) (fun c_49 => ?_)
      refine ex_aload_n 9 dL_areAll_52 rfl rfl ?_
      refine ex_iload 0 dL_areAll_53 rfl ?_
      refine ex_iconst (v := nI 2) dL_areAll_55 (by decide) ?_
      refine ex_per (j := m) (k := 2) (v := q m 2) vl_L_14 S wf hmn (by decide) rfl (by decide) (Nat.le_of_ble_eq_true rfl) (Nat.le_refl _) (Nat.le_refl _) dL_areAll_56 (fun h S => ?_)
      refine ex_istore (lv' := [(10, .int (q m 2)), (9, .int (nI m)), (8, .int (sF q 5 m)), (7, .int (sF q 2 m)), (6, .int (sF q 4 m)), (5, .int (sF q 3 m)), (4, .int (sumB u q m)), (3, .int (u 8)), (2, .int (-6)), (1, .int (nI n)), (0, .ref b)]) dL_areAll_59 (by decide) rfl ?_
      refine ex_iload 0 dL_areAll_61 rfl ?_
      refine ex_aload_n 10 dL_areAll_63 rfl rfl ?_
      refine ex_iconst (v := nI 4) dL_areAll_64 (by decide) ?_
      refine ex_cnt (k := 4) (v := u 4) vl_L_8 S wf (by decide) rfl (by decide) (Nat.le_of_ble_eq_true rfl) (Nat.le_refl _) (Nat.le_refl _) dL_areAll_65 (fun h S => ?_)
      refine ex_icmp_lt (tgt := 75) dL_areAll_68 (by decide) (fun c_68 => absurd c_68 (hb)) (fun c_68 => ?_)
      refine ex_iconst (v := nI 1) dL_areAll_71 (by decide) ?_
      refine ex_goto (tgt := 76) dL_areAll_72 (by decide) ?_
      refine ex_istore (lv' := [(11, .int (nI 1)), (10, .int (q m 2)), (9, .int (nI m)), (8, .int (sF q 5 m)), (7, .int (sF q 2 m)), (6, .int (sF q 4 m)), (5, .int (sF q 3 m)), (4, .int (sumB u q m)), (3, .int (u 8)), (2, .int (-6)), (1, .int (nI n)), (0, .ref b)]) dL_areAll_76 (by decide) rfl ?_
      refine ex_iload_n 8 dL_areAll_78 rfl rfl ?_
      refine ex_iconst (v := nI 5) dL_areAll_79 (by decide) ?_
      refine ex_aload_n 11 dL_areAll_80 rfl rfl ?_
      refine ex_iload 2 dL_areAll_81 rfl ?_
      refine ex_iconst (v := nI 0) dL_areAll_83 (by decide) ?_
      refine ex_per (j := m) (k := 0) (v := q m 0) vl_L_14 S wf hmn (by decide) rfl (by decide) (Nat.le_of_ble_eq_true rfl) (Nat.le_refl _) (Nat.le_refl _) dL_areAll_84 (fun h S => ?_)
      refine ex_imul dL_areAll_87 ?_
      refine ex_iadd dL_areAll_88 ?_
      refine ex_bipush (v := nI 10) dL_areAll_89 (by decide) ?_
      refine ex_iload 1 dL_areAll_91 rfl ?_
      refine ex_imul dL_areAll_93 ?_
      refine ex_isub dL_areAll_94 ?_
      refine ex_istore (lv' := [(12, .int (((u 8) + ((nI 5) * (q m 0))) - ((nI 10) * (q m 2)))), (11, .int (nI 1)), (10, .int (q m 2)), (9, .int (nI m)), (8, .int (sF q 5 m)), (7, .int (sF q 2 m)), (6, .int (sF q 4 m)), (5, .int (sF q 3 m)), (4, .int (sumB u q m)), (3, .int (u 8)), (2, .int (-6)), (1, .int (nI n)), (0, .ref b)]) dL_areAll_95 (by decide) rfl ?_
      refine ex_iload_n 10 dL_areAll_97 rfl rfl ?_
      refine ex_if_lt (tgt := 131) dL_areAll_98 (by decide) (fun c_98 => ?_) (fun c_98 => absurd (by decide) c_98)
      refine ex_iconst (v := nI 0) dL_areAll_131 (by decide) ?_
      refine ex_istore (lv' := [(13, .int (nI 0)), (12, .int (((u 8) + ((nI 5) * (q m 0))) - ((nI 10) * (q m 2)))), (11, .int (nI 1)), (10, .int (q m 2)), (9, .int (nI m)), (8, .int (sF q 5 m)), (7, .int (sF q 2 m)), (6, .int (sF q 4 m)), (5, .int (sF q 3 m)), (4, .int (sumB u q m)), (3, .int (u 8)), (2, .int (-6)), (1, .int (nI n)), (0, .ref b)]) dL_areAll_132 (by decide) rfl ?_
      refine ex_aload_n 13 dL_areAll_134 rfl rfl ?_
      refine ex_iload 4 dL_areAll_135 rfl ?_
      refine ex_iconst (v := nI 4) dL_areAll_137 (by decide) ?_
      refine ex_per (j := m) (k := 4) (v := bB u q m) vl_L_14 S wf hmn (by decide) rfl (by decide) (Nat.le_of_ble_eq_true rfl) (Nat.le_refl _) (Nat.le_refl _) dL_areAll_138 (fun h S => ?_)
      refine ex_iload 2 dL_areAll_141 rfl ?_
      refine ex_if_eq (tgt := 150) dL_areAll_143 (by decide) (fun c_143 => absurd c_143 (by decide)) (fun c_143 => ?_)
      refine ex_iconst (v := nI 1) dL_areAll_146 (by decide) ?_
      refine ex_goto (tgt := 151) dL_areAll_147 (by decide) ?_
      refine ex_icmp_ne (tgt := 206) dL_areAll_151 (by decide) (fun c_151 => absurd (by unfold bB; rw [if_neg hb]) c_151) (fun c_151 => ?_)
      refine ex_aload_n 13 dL_areAll_154 rfl rfl ?_
      refine ex_iload 4 dL_areAll_155 rfl ?_
      refine ex_iconst (v := nI 5) dL_areAll_157 (by decide) ?_
      refine ex_per (j := m) (k := 5) (v := scI u q m + nI 1000) vl_L_14 S wf hmn (by decide) rfl (by decide) (Nat.le_of_ble_eq_true rfl) (Nat.le_refl _) (Nat.le_refl _) dL_areAll_158 (fun h S => ?_)
      refine ex_iload 1 dL_areAll_161 rfl ?_
      refine ex_sipush (v := nI 1000) dL_areAll_163 (by decide) ?_
      refine ex_iadd dL_areAll_166 ?_
      refine ex_icmp_ne (tgt := 206) dL_areAll_167 (by decide) (fun c_167 => absurd (rfl) c_167) (fun c_167 => ?_)
      refine ex_aload_n 13 dL_areAll_170 rfl rfl ?_
      refine ex_iload 4 dL_areAll_171 rfl ?_
      refine ex_bipush (v := nI 8) dL_areAll_173 (by decide) ?_
      refine ex_per (j := m) (k := 8) (v := mayI n none u q m) vl_L_14 S wf hmn (by decide) rfl (by decide) (Nat.le_of_ble_eq_true rfl) (Nat.le_refl _) (Nat.le_refl _) dL_areAll_175 (fun h S => ?_)
      refine ex_iload 0 dL_areAll_178 rfl ?_
      refine ex_if_eq (tgt := 187) dL_areAll_180 (by decide) (fun c_180 => ?_) (fun c_180 => absurd (by decide) c_180)
      refine ex_iconst (v := nI 0) dL_areAll_187 (by decide) ?_
      refine ex_icmp_ne (tgt := 206) dL_areAll_188 (by decide) (fun c_188 => absurd (by unfold mayI; rw [if_neg (fun q9 => q9.1 rfl)]) c_188) (fun c_188 => ?_)
      refine ex_aload_n 13 dL_areAll_191 rfl rfl ?_
      refine ex_iload 4 dL_areAll_192 rfl ?_
      refine ex_iconst (v := nI 3) dL_areAll_194 (by decide) ?_
      refine ex_per (j := m) (k := 3) (v := q m 3) vl_L_14 S wf hmn (by decide) rfl (by decide) (Nat.le_of_ble_eq_true rfl) (Nat.le_refl _) (Nat.le_refl _) dL_areAll_195 (fun h S => ?_)
      refine ex_if_lt (tgt := 206) dL_areAll_198 (by decide) (fun c_198 => absurd c_198 (b3)) (fun c_198 => ?_)
      refine ex_iload 3 dL_areAll_201 rfl ?_
      refine ex_if_ge (tgt := 208) dL_areAll_203 (by decide) (fun c_203 => ?_) (fun c_203 => absurd (b2) c_203)
      refine ex_iload 9 dL_areAll_208 rfl ?_
      refine ex_iload 2 dL_areAll_210 rfl ?_
      refine ex_if_eq (tgt := 219) dL_areAll_212 (by decide) (fun c_212 => absurd c_212 (by decide)) (fun c_212 => ?_)
      refine ex_iconst (v := nI 1) dL_areAll_215 (by decide) ?_
      refine ex_goto (tgt := 220) dL_areAll_216 (by decide) ?_
      refine ex_iadd dL_areAll_220 ?_
      refine ex_istore (lv' := [(4, .int ((sumB u q m) + (nI 1))), (13, .int (nI 0)), (12, .int (((u 8) + ((nI 5) * (q m 0))) - ((nI 10) * (q m 2)))), (11, .int (nI 1)), (10, .int (q m 2)), (9, .int (nI m)), (8, .int (sF q 5 m)), (7, .int (sF q 2 m)), (6, .int (sF q 4 m)), (5, .int (sF q 3 m)), (3, .int (u 8)), (2, .int (-6)), (1, .int (nI n)), (0, .ref b)]) dL_areAll_221 (by decide) rfl ?_
      refine ex_iload 9 dL_areAll_223 rfl ?_
      refine ex_aload_n 13 dL_areAll_225 rfl rfl ?_
      refine ex_iload 5 dL_areAll_226 rfl ?_
      refine ex_iconst (v := nI 3) dL_areAll_228 (by decide) ?_
      refine ex_per (j := m) (k := 3) (v := q m 3) vl_L_14 S wf hmn (by decide) rfl (by decide) (Nat.le_of_ble_eq_true rfl) (Nat.le_refl _) (Nat.le_refl _) dL_areAll_229 (fun h S => ?_)
      refine ex_iadd dL_areAll_232 ?_
      refine ex_istore (lv' := [(5, .int ((sF q 3 m) + (q m 3))), (4, .int ((sumB u q m) + (nI 1))), (13, .int (nI 0)), (12, .int (((u 8) + ((nI 5) * (q m 0))) - ((nI 10) * (q m 2)))), (11, .int (nI 1)), (10, .int (q m 2)), (9, .int (nI m)), (8, .int (sF q 5 m)), (7, .int (sF q 2 m)), (6, .int (sF q 4 m)), (3, .int (u 8)), (2, .int (-6)), (1, .int (nI n)), (0, .ref b)]) dL_areAll_233 (by decide) rfl ?_
      refine ex_iload 8 dL_areAll_235 rfl ?_
      refine ex_iload 5 dL_areAll_237 rfl ?_
      refine ex_iadd dL_areAll_239 ?_
      refine ex_istore (lv' := [(7, .int ((sF q 2 m) + (q m 2))), (5, .int ((sF q 3 m) + (q m 3))), (4, .int ((sumB u q m) + (nI 1))), (13, .int (nI 0)), (12, .int (((u 8) + ((nI 5) * (q m 0))) - ((nI 10) * (q m 2)))), (11, .int (nI 1)), (10, .int (q m 2)), (9, .int (nI m)), (8, .int (sF q 5 m)), (6, .int (sF q 4 m)), (3, .int (u 8)), (2, .int (-6)), (1, .int (nI n)), (0, .ref b)]) dL_areAll_240 (by decide) rfl ?_
      refine ex_iload 9 dL_areAll_242 rfl ?_
      refine ex_aload_n 13 dL_areAll_244 rfl rfl ?_
      refine ex_iload 7 dL_areAll_245 rfl ?_
      refine ex_bipush (v := nI 6) dL_areAll_247 (by decide) ?_
      refine ex_per (j := m) (k := 6) (v := q m 4) vl_L_14 S wf hmn (by decide) rfl (by decide) (Nat.le_of_ble_eq_true rfl) (Nat.le_refl _) (Nat.le_refl _) dL_areAll_249 (fun h S => ?_)
      refine ex_iadd dL_areAll_252 ?_
      refine ex_istore (lv' := [(6, .int ((sF q 4 m) + (q m 4))), (7, .int ((sF q 2 m) + (q m 2))), (5, .int ((sF q 3 m) + (q m 3))), (4, .int ((sumB u q m) + (nI 1))), (13, .int (nI 0)), (12, .int (((u 8) + ((nI 5) * (q m 0))) - ((nI 10) * (q m 2)))), (11, .int (nI 1)), (10, .int (q m 2)), (9, .int (nI m)), (8, .int (sF q 5 m)), (3, .int (u 8)), (2, .int (-6)), (1, .int (nI n)), (0, .ref b)]) dL_areAll_253 (by decide) rfl ?_
      refine ex_iload 9 dL_areAll_255 rfl ?_
      refine ex_aload_n 13 dL_areAll_257 rfl rfl ?_
      refine ex_iload 8 dL_areAll_258 rfl ?_
      refine ex_bipush (v := nI 7) dL_areAll_260 (by decide) ?_
      refine ex_per (j := m) (k := 7) (v := q m 5) vl_L_14 S wf hmn (by decide) rfl (by decide) (Nat.le_of_ble_eq_true rfl) (Nat.le_refl _) (Nat.le_refl _) dL_areAll_262 (fun h S => ?_)
      refine ex_iadd dL_areAll_265 ?_
      refine ex_istore (lv' := [(8, .int ((sF q 5 m) + (q m 5))), (6, .int ((sF q 4 m) + (q m 4))), (7, .int ((sF q 2 m) + (q m 2))), (5, .int ((sF q 3 m) + (q m 3))), (4, .int ((sumB u q m) + (nI 1))), (13, .int (nI 0)), (12, .int (((u 8) + ((nI 5) * (q m 0))) - ((nI 10) * (q m 2)))), (11, .int (nI 1)), (10, .int (q m 2)), (9, .int (nI m)), (3, .int (u 8)), (2, .int (-6)), (1, .int (nI n)), (0, .ref b)]) dL_areAll_266 (by decide) rfl ?_
      refine ex_iinc (v := nI (m + 1)) (lv' := [(9, .int (nI (m + 1))), (8, .int ((sF q 5 m) + (q m 5))), (6, .int ((sF q 4 m) + (q m 4))), (7, .int ((sF q 2 m) + (q m 2))), (5, .int ((sF q 3 m) + (q m 3))), (4, .int ((sumB u q m) + (nI 1))), (13, .int (nI 0)), (12, .int (((u 8) + ((nI 5) * (q m 0))) - ((nI 10) * (q m 2)))), (11, .int (nI 1)), (10, .int (q m 2)), (3, .int (u 8)), (2, .int (-6)), (1, .int (nI n)), (0, .ref b)]) 9 dL_areAll_268 rfl (nI_1 m) (by decide) rfl ?_
      refine ex_goto (tgt := 39) dL_areAll_271 (by decide) ?_
      have e2 := ih (m + 1) h (by omega) S
      have e3 : sumB u q (m + 1) = (sumB u q m) + (nI 1) := by rw [sumB, if_neg hb]; rfl
      rw [e3] at e2
      refine ex_lv (lv2 := [(9, .int (nI (m + 1))), (8, .int ((sF q 5 m) + (q m 5))), (7, .int ((sF q 2 m) + (q m 2))), (6, .int ((sF q 4 m) + (q m 4))), (5, .int ((sF q 3 m) + (q m 3))), (4, .int ((sumB u q m) + (nI 1))), (3, .int (u 8)), (2, .int (-6)), (1, .int (nI n)), (0, .ref b)]) [0, 1, 3, 2, 4, 5, 10, 11, 12, 13] rfl ?_
      exact e2

set_option maxRecDepth 20000 in
set_option maxHeartbeats 2000000 in
theorem c_areAllS {G : GG} {l : Launch} {h0 : HP} {z b : Nat} {n : Nat} {t : Nat} {u : Nat → Int32} {q : Nat → Nat → Int32} {R : RX} {K : Nat} {i : Nat} (S0 : PP G h0 z b ((n, (some i), t, u, q), R)) (ok : iv K (n, (some i), t, u, q)) (hK : K < 2 ^ 23) : Ct G l 3 0 0 yL_areAll cL_areAll 14 (some .boolean) [.ref b] h0 z (pL G b z ((n, (some i), t, u, q), R)) := by
  refine Ct.intro (lv := [(0, .ref b)]) (by decide +kernel) (Nat.le_of_ble_eq_true rfl) rfl (fun X Q hQ hnm => ?_)
  have S := S0
  have wf : wfA (n, (some i), t, u, q) := ok.1.1
  have n8 : n ≤ 8 := wf.1
  have tw : t < n ∨ t = 0 := wf.2.2
  have ok1 := ok.1
  have ow := ok.2
  have hi : i < n := wf.2.1 i rfl
  refine ex_aload_n 0 dL_areAll_0 rfl rfl ?_
  refine ex_bipush (v := nI 7) dL_areAll_1 (by decide) ?_
  refine ex_cnt (k := 7) (v := nI n) vl_L_8 S wf (by decide) rfl (by decide) (Nat.le_of_ble_eq_true rfl) (Nat.le_refl _) (Nat.le_refl _) dL_areAll_3 (fun h S => ?_)
  refine ex_istore_n (lv' := [(1, .int (nI n)), (0, .ref b)]) dL_areAll_6 rfl (by decide) rfl ?_
  refine ex_aload_n 1 dL_areAll_7 rfl rfl ?_
  refine ex_bipush (v := nI 9) dL_areAll_8 (by decide) ?_
  refine ex_cnt (k := 9) (v := nI i) vl_L_8 S wf (by decide) rfl (by decide) (Nat.le_of_ble_eq_true rfl) (Nat.le_refl _) (Nat.le_refl _) dL_areAll_10 (fun h S => ?_)
  refine ex_istore_n (lv' := [(2, .int (nI i)), (1, .int (nI n)), (0, .ref b)]) dL_areAll_13 rfl (by decide) rfl ?_
  refine ex_aload_n 2 dL_areAll_14 rfl rfl ?_
  refine ex_bipush (v := nI 8) dL_areAll_15 (by decide) ?_
  refine ex_cnt (k := 8) (v := u 8) vl_L_8 S wf (by decide) rfl (by decide) (Nat.le_of_ble_eq_true rfl) (Nat.le_refl _) (Nat.le_refl _) dL_areAll_17 (fun h S => ?_)
  refine ex_istore_n (lv' := [(3, .int (u 8)), (2, .int (nI i)), (1, .int (nI n)), (0, .ref b)]) dL_areAll_20 rfl (by decide) rfl ?_
  refine ex_iconst (v := nI 0) dL_areAll_21 (by decide) ?_
  refine ex_istore (lv' := [(4, .int (nI 0)), (3, .int (u 8)), (2, .int (nI i)), (1, .int (nI n)), (0, .ref b)]) dL_areAll_22 (by decide) rfl ?_
  refine ex_iconst (v := nI 0) dL_areAll_24 (by decide) ?_
  refine ex_istore (lv' := [(5, .int (nI 0)), (4, .int (nI 0)), (3, .int (u 8)), (2, .int (nI i)), (1, .int (nI n)), (0, .ref b)]) dL_areAll_25 (by decide) rfl ?_
  refine ex_iconst (v := nI 0) dL_areAll_27 (by decide) ?_
  refine ex_istore (lv' := [(6, .int (nI 0)), (5, .int (nI 0)), (4, .int (nI 0)), (3, .int (u 8)), (2, .int (nI i)), (1, .int (nI n)), (0, .ref b)]) dL_areAll_28 (by decide) rfl ?_
  refine ex_iconst (v := nI 0) dL_areAll_30 (by decide) ?_
  refine ex_istore (lv' := [(7, .int (nI 0)), (6, .int (nI 0)), (5, .int (nI 0)), (4, .int (nI 0)), (3, .int (u 8)), (2, .int (nI i)), (1, .int (nI n)), (0, .ref b)]) dL_areAll_31 (by decide) rfl ?_
  refine ex_iconst (v := nI 0) dL_areAll_33 (by decide) ?_
  refine ex_istore (lv' := [(8, .int (nI 0)), (7, .int (nI 0)), (6, .int (nI 0)), (5, .int (nI 0)), (4, .int (nI 0)), (3, .int (u 8)), (2, .int (nI i)), (1, .int (nI n)), (0, .ref b)]) dL_areAll_34 (by decide) rfl ?_
  refine ex_iconst (v := nI 0) dL_areAll_36 (by decide) ?_
  refine ex_istore (lv' := [(9, .int (nI 0)), (8, .int (nI 0)), (7, .int (nI 0)), (6, .int (nI 0)), (5, .int (nI 0)), (4, .int (nI 0)), (3, .int (u 8)), (2, .int (nI i)), (1, .int (nI n)), (0, .ref b)]) dL_areAll_37 (by decide) rfl ?_
  suffices H : ∀ (k m : Nat) (h : HP), m + k = n → PP G h z b ((n, (some i), t, u, q), R) → ex G l X Q 3 0 0 0 0 cL_areAll yL_areAll.cls 14 (some .boolean) h z 39 [(9, .int (nI m)), (8, .int (sF q 5 m)), (7, .int (sF q 2 m)), (6, .int (sF q 4 m)), (5, .int (sF q 3 m)), (4, .int (sumB u q m)), (3, .int (u 8)), (2, .int (nI i)), (1, .int (nI n)), (0, .ref b)] [] from by
    have e2 := H n 0 h (by omega) S
    refine ex_lv (lv2 := [(9, .int (nI 0)), (8, .int (nI 0)), (7, .int (nI 0)), (6, .int (nI 0)), (5, .int (nI 0)), (4, .int (nI 0)), (3, .int (u 8)), (2, .int (nI i)), (1, .int (nI n)), (0, .ref b)]) [0, 1, 2, 3, 4, 5, 6, 7, 8, 9] rfl ?_
    exact e2
  intro k
  induction k with
  | zero =>
    intro m h hm S
    rw [show m = n by omega]
    refine ex_iload 0 dL_areAll_39 rfl ?_
    refine ex_iload_n 8 dL_areAll_41 rfl rfl ?_
    refine ex_icmp_ge (tgt := 274) dL_areAll_42 (by decide) (fun c_42 => ?_) (fun c_42 => absurd ((nI_leI (by omega) (by omega)).mpr (by omega)) c_42)
    refine ex_iload_n 7 dL_areAll_274 rfl rfl ?_
    refine ex_bipush (v := (-6)) dL_areAll_275 (by decide) ?_
    refine ex_icmp_ne (tgt := 315) dL_areAll_277 (by decide) (fun c_277 => ?_) (fun c_277 => absurd c_277 (nI_n6 (by omega)))
    refine ex_iload_n 7 dL_areAll_315 rfl rfl ?_
    refine ex_if_lt (tgt := 339) dL_areAll_316 (by decide) (fun c_316 => absurd c_316 (nI_pos (by omega))) (fun c_316 => ?_)
    refine ex_iload_n 7 dL_areAll_319 rfl rfl ?_
    refine ex_iload_n 8 dL_areAll_320 rfl rfl ?_
    refine ex_icmp_ge (tgt := 339) dL_areAll_321 (by decide) (fun c_321 => absurd c_321 (fun q9 => absurd ((nI_leI (by omega) (by omega)).mp q9) (by omega))) (fun c_321 => ?_)
    refine ex_aload_n 9 dL_areAll_324 rfl rfl ?_
    refine ex_bipush (v := nI 10) dL_areAll_325 (by decide) ?_
    refine ex_cnt (k := 10) (v := (-6)) vl_L_8 S wf (by decide) rfl (by decide) (Nat.le_of_ble_eq_true rfl) (Nat.le_refl _) (Nat.le_refl _) dL_areAll_327 (fun h S => ?_)
    refine ex_bipush (v := (-6)) dL_areAll_330 (by decide) ?_
    refine ex_icmp_ne (tgt := 339) dL_areAll_332 (by decide) (fun c_332 => absurd (rfl) c_332) (fun c_332 => ?_)
    refine ex_iconst (v := nI 1) dL_areAll_335 (by decide) ?_
    refine ex_goto (tgt := 340) dL_areAll_336 (by decide) ?_
    refine ex_istore (lv' := [(9, .int (nI 1)), (8, .int (sF q 5 n)), (7, .int (sF q 2 n)), (6, .int (sF q 4 n)), (5, .int (sF q 3 n)), (4, .int (sumB u q n)), (3, .int (u 8)), (2, .int (nI i)), (1, .int (nI n)), (0, .ref b)]) dL_areAll_340 (by decide) rfl ?_
    refine ex_iload 0 dL_areAll_342 rfl ?_
    refine ex_if_eq (tgt := 464) dL_areAll_344 (by decide) (fun c_344 => absurd c_344 (by decide)) (fun c_344 => ?_)
    refine ex_iload_n 6 dL_areAll_347 rfl rfl ?_
    refine ex_if_lt (tgt := 464) dL_areAll_348 (by decide) (fun c_348 => absurd c_348 (Int32.not_lt.mpr ok1.m8)) (fun c_348 => ?_)
    refine ex_iload_n 6 dL_areAll_351 rfl rfl ?_
    refine ex_bipush (v := nI 100) dL_areAll_352 (by decide) ?_
    refine ex_icmp_ge (tgt := 464) dL_areAll_354 (by decide) (fun c_354 => absurd c_354 (bd_lt ok1.2.2.1 (by decide) (by decide))) (fun c_354 => ?_)
    refine ex_aload_n 9 dL_areAll_357 rfl rfl ?_
    refine ex_bipush (v := nI 11) dL_areAll_358 (by decide) ?_
    refine ex_cnt (k := 11) (v := u 11) vl_L_8 S wf (by decide) rfl (by decide) (Nat.le_of_ble_eq_true rfl) (Nat.le_refl _) (Nat.le_refl _) dL_areAll_360 (fun h S => ?_)
    refine ex_if_lt (tgt := 464) dL_areAll_363 (by decide) (fun c_363 => absurd c_363 (Int32.not_lt.mpr (ok1.2.2.2.1.pos (by omega)))) (fun c_363 => ?_)
    refine ex_aload_n 9 dL_areAll_366 rfl rfl ?_
    refine ex_bipush (v := nI 12) dL_areAll_367 (by decide) ?_
    refine ex_cnt (k := 12) (v := sumB u q n) vl_L_8 S wf (by decide) rfl (by decide) (Nat.le_of_ble_eq_true rfl) (Nat.le_refl _) (Nat.le_refl _) dL_areAll_369 (fun h S => ?_)
    refine ex_iload 5 dL_areAll_372 rfl ?_
    refine ex_icmp_ne (tgt := 464) dL_areAll_374 (by decide) (fun c_374 => absurd (rfl) c_374) (fun c_374 => ?_)
    refine ex_aload_n 9 dL_areAll_377 rfl rfl ?_
    refine ex_bipush (v := nI 17) dL_areAll_378 (by decide) ?_
    refine ex_cnt (k := 17) (v := sumP q n) vl_L_8 S wf (by decide) rfl (by decide) (Nat.le_of_ble_eq_true rfl) (Nat.le_refl _) (Nat.le_refl _) dL_areAll_380 (fun h S => ?_)
    refine ex_iload 4 dL_areAll_383 rfl ?_
    refine ex_icmp_ne (tgt := 464) dL_areAll_385 (by decide) (fun c_385 => absurd (sumP_sF n) c_385) (fun c_385 => ?_)
    refine ex_aload_n 9 dL_areAll_388 rfl rfl ?_
    refine ex_bipush (v := nI 13) dL_areAll_389 (by decide) ?_
    refine ex_cnt (k := 13) (v := u 12) vl_L_8 S wf (by decide) rfl (by decide) (Nat.le_of_ble_eq_true rfl) (Nat.le_refl _) (Nat.le_refl _) dL_areAll_391 (fun h S => ?_)
    refine ex_iload 2 dL_areAll_394 rfl ?_
    refine ex_icmp_ne (tgt := 464) dL_areAll_396 (by decide) (fun c_396 => absurd (ow.1) c_396) (fun c_396 => ?_)
    refine ex_aload_n 9 dL_areAll_399 rfl rfl ?_
    refine ex_bipush (v := nI 14) dL_areAll_400 (by decide) ?_
    refine ex_cnt (k := 14) (v := u 13) vl_L_8 S wf (by decide) rfl (by decide) (Nat.le_of_ble_eq_true rfl) (Nat.le_refl _) (Nat.le_refl _) dL_areAll_402 (fun h S => ?_)
    refine ex_iload 3 dL_areAll_405 rfl ?_
    refine ex_icmp_ne (tgt := 464) dL_areAll_407 (by decide) (fun c_407 => absurd (ow.2.1) c_407) (fun c_407 => ?_)
    refine ex_iload 1 dL_areAll_410 rfl ?_
    refine ex_aload_n 9 dL_areAll_412 rfl rfl ?_
    refine ex_bipush (v := nI 6) dL_areAll_413 (by decide) ?_
    refine ex_cnt (k := 6) (v := u 6) vl_L_8 S wf (by decide) rfl (by decide) (Nat.le_of_ble_eq_true rfl) (Nat.le_refl _) (Nat.le_refl _) dL_areAll_415 (fun h S => ?_)
    refine ex_icmp_gt (tgt := 464) dL_areAll_418 (by decide) (fun c_418 => absurd c_418 (sum_le ow (by omega))) (fun c_418 => ?_)
    refine ex_aload_n 9 dL_areAll_421 rfl rfl ?_
    refine ex_bipush (v := nI 11) dL_areAll_422 (by decide) ?_
    refine ex_cnt (k := 11) (v := u 11) vl_L_8 S wf (by decide) rfl (by decide) (Nat.le_of_ble_eq_true rfl) (Nat.le_refl _) (Nat.le_refl _) dL_areAll_424 (fun h S => ?_)
    refine ex_iload 4 dL_areAll_427 rfl ?_
    refine ex_iadd dL_areAll_429 ?_
    refine ex_aload_n 9 dL_areAll_430 rfl rfl ?_
    refine ex_bipush (v := nI 16) dL_areAll_431 (by decide) ?_
    refine ex_cnt (k := 16) (v := u 15) vl_L_8 S wf (by decide) rfl (by decide) (Nat.le_of_ble_eq_true rfl) (Nat.le_refl _) (Nat.le_refl _) dL_areAll_433 (fun h S => ?_)
    refine ex_iadd dL_areAll_436 ?_
    refine ex_sipush (v := nI 1000) dL_areAll_437 (by decide) ?_
    refine ex_aload_n 9 dL_areAll_440 rfl rfl ?_
    refine ex_bipush (v := nI 18) dL_areAll_441 (by decide) ?_
    refine ex_cnt (k := 18) (v := u 16) vl_L_8 S wf (by decide) rfl (by decide) (Nat.le_of_ble_eq_true rfl) (Nat.le_refl _) (Nat.le_refl _) dL_areAll_443 (fun h S => ?_)
    refine ex_iadd dL_areAll_446 ?_
    refine ex_icmp_ne (tgt := 464) dL_areAll_447 (by decide) (fun c_447 => absurd (ow.2.2.1) c_447) (fun c_447 => ?_)
    refine ex_aload_n 9 dL_areAll_450 rfl rfl ?_
    refine ex_iload_n 8 dL_areAll_451 rfl rfl ?_
    refine ex_iconst (v := nI 0) dL_areAll_452 (by decide) ?_
    refine ex_perN vl_L_14 S wf (by show n ≤ n; omega) (by omega) (by decide) (Nat.le_of_ble_eq_true rfl) (Nat.le_refl _) (Nat.le_refl _) dL_areAll_453 (fun h S => ?_)
    refine ex_iconst (v := (-1)) dL_areAll_456 (by decide) ?_
    refine ex_icmp_ne (tgt := 464) dL_areAll_457 (by decide) (fun c_457 => absurd (rfl) c_457) (fun c_457 => ?_)
    refine ex_iconst (v := nI 1) dL_areAll_460 (by decide) ?_
    refine ex_goto (tgt := 465) dL_areAll_461 (by decide) ?_
    exact ex_zret hQ rfl (by decide) ⟨rfl, rfl, S⟩ dL_areAll_465
  | succ k ih =>
    intro m h hm S
    have hmn : m < n := by omega
    have pp := ow.2.2.2.2.1 m hmn
    have b3 : ¬ q m 3 < 0 := Int32.not_lt.mpr (pp.1.pos (by omega))
    have b2 : 0 ≤ q m 2 := pp.2.2.1.pos (by decide)
    by_cases hb : q m 2 < u 4
    · refine ex_iload 0 dL_areAll_39 rfl ?_
      refine ex_iload_n 8 dL_areAll_41 rfl rfl ?_
      refine ex_icmp_ge (tgt := 274) dL_areAll_42 (by decide) (fun c_42 => absurd c_42 (fun q9 => absurd ((nI_leI (by omega) (by omega)).mp q9) (by omega))) (fun c_42 => ?_)
      refine ex_iload 0 dL_areAll_45 rfl ?_
      refine ex_bipush (v := nI 8) dL_areAll_47 (by decide) ?_
      refine ex_icmp_ge (tgt := 274) dL_areAll_49 (by decide) (fun c_49 => absurd c_49 (fun q9 => absurd ((nI_leI (by omega) (by omega)).mp q9) (by omega))) (fun c_49 => ?_)
      refine ex_aload_n 9 dL_areAll_52 rfl rfl ?_
      refine ex_iload 0 dL_areAll_53 rfl ?_
      refine ex_iconst (v := nI 2) dL_areAll_55 (by decide) ?_
      refine ex_per (j := m) (k := 2) (v := q m 2) vl_L_14 S wf hmn (by decide) rfl (by decide) (Nat.le_of_ble_eq_true rfl) (Nat.le_refl _) (Nat.le_refl _) dL_areAll_56 (fun h S => ?_)
      refine ex_istore (lv' := [(10, .int (q m 2)), (9, .int (nI m)), (8, .int (sF q 5 m)), (7, .int (sF q 2 m)), (6, .int (sF q 4 m)), (5, .int (sF q 3 m)), (4, .int (sumB u q m)), (3, .int (u 8)), (2, .int (nI i)), (1, .int (nI n)), (0, .ref b)]) dL_areAll_59 (by decide) rfl ?_
      refine ex_iload 0 dL_areAll_61 rfl ?_
      refine ex_aload_n 10 dL_areAll_63 rfl rfl ?_
      refine ex_iconst (v := nI 4) dL_areAll_64 (by decide) ?_
      refine ex_cnt (k := 4) (v := u 4) vl_L_8 S wf (by decide) rfl (by decide) (Nat.le_of_ble_eq_true rfl) (Nat.le_refl _) (Nat.le_refl _) dL_areAll_65 (fun h S => ?_)
      refine ex_icmp_lt (tgt := 75) dL_areAll_68 (by decide) (fun c_68 => ?_) (fun c_68 => absurd (hb) c_68)
      refine ex_iconst (v := nI 0) dL_areAll_75 (by decide) ?_
      refine ex_istore (lv' := [(11, .int (nI 0)), (10, .int (q m 2)), (9, .int (nI m)), (8, .int (sF q 5 m)), (7, .int (sF q 2 m)), (6, .int (sF q 4 m)), (5, .int (sF q 3 m)), (4, .int (sumB u q m)), (3, .int (u 8)), (2, .int (nI i)), (1, .int (nI n)), (0, .ref b)]) dL_areAll_76 (by decide) rfl ?_
      refine ex_iload_n 8 dL_areAll_78 rfl rfl ?_
      refine ex_iconst (v := nI 5) dL_areAll_79 (by decide) ?_
      refine ex_aload_n 11 dL_areAll_80 rfl rfl ?_
      refine ex_iload 2 dL_areAll_81 rfl ?_
      refine ex_iconst (v := nI 0) dL_areAll_83 (by decide) ?_
      refine ex_per (j := m) (k := 0) (v := q m 0) vl_L_14 S wf hmn (by decide) rfl (by decide) (Nat.le_of_ble_eq_true rfl) (Nat.le_refl _) (Nat.le_refl _) dL_areAll_84 (fun h S => ?_)
      refine ex_imul dL_areAll_87 ?_
      refine ex_iadd dL_areAll_88 ?_
      refine ex_bipush (v := nI 10) dL_areAll_89 (by decide) ?_
      refine ex_iload 1 dL_areAll_91 rfl ?_
      refine ex_imul dL_areAll_93 ?_
      refine ex_isub dL_areAll_94 ?_
      refine ex_istore (lv' := [(12, .int (((u 8) + ((nI 5) * (q m 0))) - ((nI 10) * (q m 2)))), (11, .int (nI 0)), (10, .int (q m 2)), (9, .int (nI m)), (8, .int (sF q 5 m)), (7, .int (sF q 2 m)), (6, .int (sF q 4 m)), (5, .int (sF q 3 m)), (4, .int (sumB u q m)), (3, .int (u 8)), (2, .int (nI i)), (1, .int (nI n)), (0, .ref b)]) dL_areAll_95 (by decide) rfl ?_
      refine ex_iload_n 10 dL_areAll_97 rfl rfl ?_
      refine ex_if_lt (tgt := 131) dL_areAll_98 (by decide) (fun c_98 => absurd c_98 (nI_pos (by omega))) (fun c_98 => ?_)
      refine ex_iload_n 10 dL_areAll_101 rfl rfl ?_
      refine ex_iload 3 dL_areAll_102 rfl ?_
      refine ex_icmp_eq (tgt := 131) dL_areAll_104 (by decide) (fun c_104 => ?_) (fun c_104 => ?_)
      · have n_104 : i = m := (nI_eq (by omega) (by omega)).mp c_104
        refine ex_iconst (v := nI 0) dL_areAll_131 (by decide) ?_
        refine ex_istore (lv' := [(13, .int (nI 0)), (12, .int (((u 8) + ((nI 5) * (q m 0))) - ((nI 10) * (q m 2)))), (11, .int (nI 0)), (10, .int (q m 2)), (9, .int (nI m)), (8, .int (sF q 5 m)), (7, .int (sF q 2 m)), (6, .int (sF q 4 m)), (5, .int (sF q 3 m)), (4, .int (sumB u q m)), (3, .int (u 8)), (2, .int (nI i)), (1, .int (nI n)), (0, .ref b)]) dL_areAll_132 (by decide) rfl ?_
        refine ex_aload_n 13 dL_areAll_134 rfl rfl ?_
        refine ex_iload 4 dL_areAll_135 rfl ?_
        refine ex_iconst (v := nI 4) dL_areAll_137 (by decide) ?_
        refine ex_per (j := m) (k := 4) (v := bB u q m) vl_L_14 S wf hmn (by decide) rfl (by decide) (Nat.le_of_ble_eq_true rfl) (Nat.le_refl _) (Nat.le_refl _) dL_areAll_138 (fun h S => ?_)
        refine ex_iload 2 dL_areAll_141 rfl ?_
        refine ex_if_eq (tgt := 150) dL_areAll_143 (by decide) (fun c_143 => ?_) (fun c_143 => absurd (by decide) c_143)
        refine ex_iconst (v := nI 0) dL_areAll_150 (by decide) ?_
        refine ex_icmp_ne (tgt := 206) dL_areAll_151 (by decide) (fun c_151 => absurd (by unfold bB; rw [if_pos hb]) c_151) (fun c_151 => ?_)
        refine ex_aload_n 13 dL_areAll_154 rfl rfl ?_
        refine ex_iload 4 dL_areAll_155 rfl ?_
        refine ex_iconst (v := nI 5) dL_areAll_157 (by decide) ?_
        refine ex_per (j := m) (k := 5) (v := scI u q m + nI 1000) vl_L_14 S wf hmn (by decide) rfl (by decide) (Nat.le_of_ble_eq_true rfl) (Nat.le_refl _) (Nat.le_refl _) dL_areAll_158 (fun h S => ?_)
        refine ex_iload 1 dL_areAll_161 rfl ?_
        refine ex_sipush (v := nI 1000) dL_areAll_163 (by decide) ?_
        refine ex_iadd dL_areAll_166 ?_
        refine ex_icmp_ne (tgt := 206) dL_areAll_167 (by decide) (fun c_167 => absurd (rfl) c_167) (fun c_167 => ?_)
        refine ex_aload_n 13 dL_areAll_170 rfl rfl ?_
        refine ex_iload 4 dL_areAll_171 rfl ?_
        refine ex_bipush (v := nI 8) dL_areAll_173 (by decide) ?_
        refine ex_per (j := m) (k := 8) (v := mayI n (some i) u q m) vl_L_14 S wf hmn (by decide) rfl (by decide) (Nat.le_of_ble_eq_true rfl) (Nat.le_refl _) (Nat.le_refl _) dL_areAll_175 (fun h S => ?_)
        refine ex_iload 0 dL_areAll_178 rfl ?_
        refine ex_if_eq (tgt := 187) dL_areAll_180 (by decide) (fun c_180 => ?_) (fun c_180 => absurd (by decide) c_180)
        refine ex_iconst (v := nI 0) dL_areAll_187 (by decide) ?_
        refine ex_icmp_ne (tgt := 206) dL_areAll_188 (by decide) (fun c_188 => absurd (by unfold mayI; rw [if_neg (fun q9 => by first | exact q9.2.1 (by rw [n_104]) | exact q9.2.2.2 c_124)]) c_188) (fun c_188 => ?_)
        refine ex_aload_n 13 dL_areAll_191 rfl rfl ?_
        refine ex_iload 4 dL_areAll_192 rfl ?_
        refine ex_iconst (v := nI 3) dL_areAll_194 (by decide) ?_
        refine ex_per (j := m) (k := 3) (v := q m 3) vl_L_14 S wf hmn (by decide) rfl (by decide) (Nat.le_of_ble_eq_true rfl) (Nat.le_refl _) (Nat.le_refl _) dL_areAll_195 (fun h S => ?_)
        refine ex_if_lt (tgt := 206) dL_areAll_198 (by decide) (fun c_198 => absurd c_198 (b3)) (fun c_198 => ?_)
        refine ex_iload 3 dL_areAll_201 rfl ?_
        refine ex_if_ge (tgt := 208) dL_areAll_203 (by decide) (fun c_203 => ?_) (fun c_203 => absurd (b2) c_203)
        refine ex_iload 9 dL_areAll_208 rfl ?_
        refine ex_iload 2 dL_areAll_210 rfl ?_
        refine ex_if_eq (tgt := 219) dL_areAll_212 (by decide) (fun c_212 => ?_) (fun c_212 => absurd (by decide) c_212)
        refine ex_iconst (v := nI 0) dL_areAll_219 (by decide) ?_
        refine ex_iadd dL_areAll_220 ?_
        refine ex_istore (lv' := [(4, .int ((sumB u q m) + (nI 0))), (13, .int (nI 0)), (12, .int (((u 8) + ((nI 5) * (q m 0))) - ((nI 10) * (q m 2)))), (11, .int (nI 0)), (10, .int (q m 2)), (9, .int (nI m)), (8, .int (sF q 5 m)), (7, .int (sF q 2 m)), (6, .int (sF q 4 m)), (5, .int (sF q 3 m)), (3, .int (u 8)), (2, .int (nI i)), (1, .int (nI n)), (0, .ref b)]) dL_areAll_221 (by decide) rfl ?_
        refine ex_iload 9 dL_areAll_223 rfl ?_
        refine ex_aload_n 13 dL_areAll_225 rfl rfl ?_
        refine ex_iload 5 dL_areAll_226 rfl ?_
        refine ex_iconst (v := nI 3) dL_areAll_228 (by decide) ?_
        refine ex_per (j := m) (k := 3) (v := q m 3) vl_L_14 S wf hmn (by decide) rfl (by decide) (Nat.le_of_ble_eq_true rfl) (Nat.le_refl _) (Nat.le_refl _) dL_areAll_229 (fun h S => ?_)
        refine ex_iadd dL_areAll_232 ?_
        refine ex_istore (lv' := [(5, .int ((sF q 3 m) + (q m 3))), (4, .int ((sumB u q m) + (nI 0))), (13, .int (nI 0)), (12, .int (((u 8) + ((nI 5) * (q m 0))) - ((nI 10) * (q m 2)))), (11, .int (nI 0)), (10, .int (q m 2)), (9, .int (nI m)), (8, .int (sF q 5 m)), (7, .int (sF q 2 m)), (6, .int (sF q 4 m)), (3, .int (u 8)), (2, .int (nI i)), (1, .int (nI n)), (0, .ref b)]) dL_areAll_233 (by decide) rfl ?_
        refine ex_iload 8 dL_areAll_235 rfl ?_
        refine ex_iload 5 dL_areAll_237 rfl ?_
        refine ex_iadd dL_areAll_239 ?_
        refine ex_istore (lv' := [(7, .int ((sF q 2 m) + (q m 2))), (5, .int ((sF q 3 m) + (q m 3))), (4, .int ((sumB u q m) + (nI 0))), (13, .int (nI 0)), (12, .int (((u 8) + ((nI 5) * (q m 0))) - ((nI 10) * (q m 2)))), (11, .int (nI 0)), (10, .int (q m 2)), (9, .int (nI m)), (8, .int (sF q 5 m)), (6, .int (sF q 4 m)), (3, .int (u 8)), (2, .int (nI i)), (1, .int (nI n)), (0, .ref b)]) dL_areAll_240 (by decide) rfl ?_
        refine ex_iload 9 dL_areAll_242 rfl ?_
        refine ex_aload_n 13 dL_areAll_244 rfl rfl ?_
        refine ex_iload 7 dL_areAll_245 rfl ?_
        refine ex_bipush (v := nI 6) dL_areAll_247 (by decide) ?_
        refine ex_per (j := m) (k := 6) (v := q m 4) vl_L_14 S wf hmn (by decide) rfl (by decide) (Nat.le_of_ble_eq_true rfl) (Nat.le_refl _) (Nat.le_refl _) dL_areAll_249 (fun h S => ?_)
        refine ex_iadd dL_areAll_252 ?_
        refine ex_istore (lv' := [(6, .int ((sF q 4 m) + (q m 4))), (7, .int ((sF q 2 m) + (q m 2))), (5, .int ((sF q 3 m) + (q m 3))), (4, .int ((sumB u q m) + (nI 0))), (13, .int (nI 0)), (12, .int (((u 8) + ((nI 5) * (q m 0))) - ((nI 10) * (q m 2)))), (11, .int (nI 0)), (10, .int (q m 2)), (9, .int (nI m)), (8, .int (sF q 5 m)), (3, .int (u 8)), (2, .int (nI i)), (1, .int (nI n)), (0, .ref b)]) dL_areAll_253 (by decide) rfl ?_
        refine ex_iload 9 dL_areAll_255 rfl ?_
        refine ex_aload_n 13 dL_areAll_257 rfl rfl ?_
        refine ex_iload 8 dL_areAll_258 rfl ?_
        refine ex_bipush (v := nI 7) dL_areAll_260 (by decide) ?_
        refine ex_per (j := m) (k := 7) (v := q m 5) vl_L_14 S wf hmn (by decide) rfl (by decide) (Nat.le_of_ble_eq_true rfl) (Nat.le_refl _) (Nat.le_refl _) dL_areAll_262 (fun h S => ?_)
        refine ex_iadd dL_areAll_265 ?_
        refine ex_istore (lv' := [(8, .int ((sF q 5 m) + (q m 5))), (6, .int ((sF q 4 m) + (q m 4))), (7, .int ((sF q 2 m) + (q m 2))), (5, .int ((sF q 3 m) + (q m 3))), (4, .int ((sumB u q m) + (nI 0))), (13, .int (nI 0)), (12, .int (((u 8) + ((nI 5) * (q m 0))) - ((nI 10) * (q m 2)))), (11, .int (nI 0)), (10, .int (q m 2)), (9, .int (nI m)), (3, .int (u 8)), (2, .int (nI i)), (1, .int (nI n)), (0, .ref b)]) dL_areAll_266 (by decide) rfl ?_
        refine ex_iinc (v := nI (m + 1)) (lv' := [(9, .int (nI (m + 1))), (8, .int ((sF q 5 m) + (q m 5))), (6, .int ((sF q 4 m) + (q m 4))), (7, .int ((sF q 2 m) + (q m 2))), (5, .int ((sF q 3 m) + (q m 3))), (4, .int ((sumB u q m) + (nI 0))), (13, .int (nI 0)), (12, .int (((u 8) + ((nI 5) * (q m 0))) - ((nI 10) * (q m 2)))), (11, .int (nI 0)), (10, .int (q m 2)), (3, .int (u 8)), (2, .int (nI i)), (1, .int (nI n)), (0, .ref b)]) 9 dL_areAll_268 rfl (nI_1 m) (by decide) rfl ?_
        refine ex_goto (tgt := 39) dL_areAll_271 (by decide) ?_
        have e2 := ih (m + 1) h (by omega) S
        have e3 : sumB u q (m + 1) = (sumB u q m) + (nI 0) := by rw [sumB, if_pos hb, show nI 0 = 0 from rfl, Int32.add_zero]
        rw [e3] at e2
        refine ex_lv (lv2 := [(9, .int (nI (m + 1))), (8, .int ((sF q 5 m) + (q m 5))), (7, .int ((sF q 2 m) + (q m 2))), (6, .int ((sF q 4 m) + (q m 4))), (5, .int ((sF q 3 m) + (q m 3))), (4, .int ((sumB u q m) + (nI 0))), (3, .int (u 8)), (2, .int (nI i)), (1, .int (nI n)), (0, .ref b)]) [0, 1, 3, 2, 4, 5, 10, 11, 12, 13] rfl ?_
        exact e2
      · have n_104 : ¬ (i = m) := fun q9 => c_104 ((nI_eq (by omega) (by omega)).mpr q9)
        refine ex_iload 1 dL_areAll_107 rfl ?_
        refine ex_if_ne (tgt := 131) dL_areAll_109 (by decide) (fun c_109 => absurd (by decide) c_109) (fun c_109 => ?_)
        refine ex_aload_n 12 dL_areAll_112 rfl rfl ?_
        refine ex_iload 3 dL_areAll_113 rfl ?_
        refine ex_iconst (v := nI 3) dL_areAll_115 (by decide) ?_
        refine ex_per (j := m) (k := 3) (v := q m 3) vl_L_14 S wf hmn (by decide) rfl (by decide) (Nat.le_of_ble_eq_true rfl) (Nat.le_refl _) (Nat.le_refl _) dL_areAll_116 (fun h S => ?_)
        refine ex_aload_n 12 dL_areAll_119 rfl rfl ?_
        refine ex_iconst (v := nI 2) dL_areAll_120 (by decide) ?_
        refine ex_cnt (k := 2) (v := u 2) vl_L_8 S wf (by decide) rfl (by decide) (Nat.le_of_ble_eq_true rfl) (Nat.le_refl _) (Nat.le_refl _) dL_areAll_121 (fun h S => ?_)
        refine ex_icmp_lt (tgt := 131) dL_areAll_124 (by decide) (fun c_124 => ?_) (fun c_124 => ?_)
        · refine ex_iconst (v := nI 0) dL_areAll_131 (by decide) ?_
          refine ex_istore (lv' := [(13, .int (nI 0)), (12, .int (((u 8) + ((nI 5) * (q m 0))) - ((nI 10) * (q m 2)))), (11, .int (nI 0)), (10, .int (q m 2)), (9, .int (nI m)), (8, .int (sF q 5 m)), (7, .int (sF q 2 m)), (6, .int (sF q 4 m)), (5, .int (sF q 3 m)), (4, .int (sumB u q m)), (3, .int (u 8)), (2, .int (nI i)), (1, .int (nI n)), (0, .ref b)]) dL_areAll_132 (by decide) rfl ?_
          refine ex_aload_n 13 dL_areAll_134 rfl rfl ?_
          refine ex_iload 4 dL_areAll_135 rfl ?_
          refine ex_iconst (v := nI 4) dL_areAll_137 (by decide) ?_
          refine ex_per (j := m) (k := 4) (v := bB u q m) vl_L_14 S wf hmn (by decide) rfl (by decide) (Nat.le_of_ble_eq_true rfl) (Nat.le_refl _) (Nat.le_refl _) dL_areAll_138 (fun h S => ?_)
          refine ex_iload 2 dL_areAll_141 rfl ?_
          refine ex_if_eq (tgt := 150) dL_areAll_143 (by decide) (fun c_143 => ?_) (fun c_143 => absurd (by decide) c_143)
          refine ex_iconst (v := nI 0) dL_areAll_150 (by decide) ?_
          refine ex_icmp_ne (tgt := 206) dL_areAll_151 (by decide) (fun c_151 => absurd (by unfold bB; rw [if_pos hb]) c_151) (fun c_151 => ?_)
          refine ex_aload_n 13 dL_areAll_154 rfl rfl ?_
          refine ex_iload 4 dL_areAll_155 rfl ?_
          refine ex_iconst (v := nI 5) dL_areAll_157 (by decide) ?_
          refine ex_per (j := m) (k := 5) (v := scI u q m + nI 1000) vl_L_14 S wf hmn (by decide) rfl (by decide) (Nat.le_of_ble_eq_true rfl) (Nat.le_refl _) (Nat.le_refl _) dL_areAll_158 (fun h S => ?_)
          refine ex_iload 1 dL_areAll_161 rfl ?_
          refine ex_sipush (v := nI 1000) dL_areAll_163 (by decide) ?_
          refine ex_iadd dL_areAll_166 ?_
          refine ex_icmp_ne (tgt := 206) dL_areAll_167 (by decide) (fun c_167 => absurd (rfl) c_167) (fun c_167 => ?_)
          refine ex_aload_n 13 dL_areAll_170 rfl rfl ?_
          refine ex_iload 4 dL_areAll_171 rfl ?_
          refine ex_bipush (v := nI 8) dL_areAll_173 (by decide) ?_
          refine ex_per (j := m) (k := 8) (v := mayI n (some i) u q m) vl_L_14 S wf hmn (by decide) rfl (by decide) (Nat.le_of_ble_eq_true rfl) (Nat.le_refl _) (Nat.le_refl _) dL_areAll_175 (fun h S => ?_)
          refine ex_iload 0 dL_areAll_178 rfl ?_
          refine ex_if_eq (tgt := 187) dL_areAll_180 (by decide) (fun c_180 => ?_) (fun c_180 => absurd (by decide) c_180)
          refine ex_iconst (v := nI 0) dL_areAll_187 (by decide) ?_
          refine ex_icmp_ne (tgt := 206) dL_areAll_188 (by decide) (fun c_188 => absurd (by unfold mayI; rw [if_neg (fun q9 => by first | exact q9.2.1 (by rw [n_104]) | exact q9.2.2.2 c_124)]) c_188) (fun c_188 => ?_)
          refine ex_aload_n 13 dL_areAll_191 rfl rfl ?_
          refine ex_iload 4 dL_areAll_192 rfl ?_
          refine ex_iconst (v := nI 3) dL_areAll_194 (by decide) ?_
          refine ex_per (j := m) (k := 3) (v := q m 3) vl_L_14 S wf hmn (by decide) rfl (by decide) (Nat.le_of_ble_eq_true rfl) (Nat.le_refl _) (Nat.le_refl _) dL_areAll_195 (fun h S => ?_)
          refine ex_if_lt (tgt := 206) dL_areAll_198 (by decide) (fun c_198 => absurd c_198 (b3)) (fun c_198 => ?_)
          refine ex_iload 3 dL_areAll_201 rfl ?_
          refine ex_if_ge (tgt := 208) dL_areAll_203 (by decide) (fun c_203 => ?_) (fun c_203 => absurd (b2) c_203)
          refine ex_iload 9 dL_areAll_208 rfl ?_
          refine ex_iload 2 dL_areAll_210 rfl ?_
          refine ex_if_eq (tgt := 219) dL_areAll_212 (by decide) (fun c_212 => ?_) (fun c_212 => absurd (by decide) c_212)
          refine ex_iconst (v := nI 0) dL_areAll_219 (by decide) ?_
          refine ex_iadd dL_areAll_220 ?_
          refine ex_istore (lv' := [(4, .int ((sumB u q m) + (nI 0))), (13, .int (nI 0)), (12, .int (((u 8) + ((nI 5) * (q m 0))) - ((nI 10) * (q m 2)))), (11, .int (nI 0)), (10, .int (q m 2)), (9, .int (nI m)), (8, .int (sF q 5 m)), (7, .int (sF q 2 m)), (6, .int (sF q 4 m)), (5, .int (sF q 3 m)), (3, .int (u 8)), (2, .int (nI i)), (1, .int (nI n)), (0, .ref b)]) dL_areAll_221 (by decide) rfl ?_
          refine ex_iload 9 dL_areAll_223 rfl ?_
          refine ex_aload_n 13 dL_areAll_225 rfl rfl ?_
          refine ex_iload 5 dL_areAll_226 rfl ?_
          refine ex_iconst (v := nI 3) dL_areAll_228 (by decide) ?_
          refine ex_per (j := m) (k := 3) (v := q m 3) vl_L_14 S wf hmn (by decide) rfl (by decide) (Nat.le_of_ble_eq_true rfl) (Nat.le_refl _) (Nat.le_refl _) dL_areAll_229 (fun h S => ?_)
          refine ex_iadd dL_areAll_232 ?_
          refine ex_istore (lv' := [(5, .int ((sF q 3 m) + (q m 3))), (4, .int ((sumB u q m) + (nI 0))), (13, .int (nI 0)), (12, .int (((u 8) + ((nI 5) * (q m 0))) - ((nI 10) * (q m 2)))), (11, .int (nI 0)), (10, .int (q m 2)), (9, .int (nI m)), (8, .int (sF q 5 m)), (7, .int (sF q 2 m)), (6, .int (sF q 4 m)), (3, .int (u 8)), (2, .int (nI i)), (1, .int (nI n)), (0, .ref b)]) dL_areAll_233 (by decide) rfl ?_
          refine ex_iload 8 dL_areAll_235 rfl ?_
          refine ex_iload 5 dL_areAll_237 rfl ?_
          refine ex_iadd dL_areAll_239 ?_
          refine ex_istore (lv' := [(7, .int ((sF q 2 m) + (q m 2))), (5, .int ((sF q 3 m) + (q m 3))), (4, .int ((sumB u q m) + (nI 0))), (13, .int (nI 0)), (12, .int (((u 8) + ((nI 5) * (q m 0))) - ((nI 10) * (q m 2)))), (11, .int (nI 0)), (10, .int (q m 2)), (9, .int (nI m)), (8, .int (sF q 5 m)), (6, .int (sF q 4 m)), (3, .int (u 8)), (2, .int (nI i)), (1, .int (nI n)), (0, .ref b)]) dL_areAll_240 (by decide) rfl ?_
          refine ex_iload 9 dL_areAll_242 rfl ?_
          refine ex_aload_n 13 dL_areAll_244 rfl rfl ?_
          refine ex_iload 7 dL_areAll_245 rfl ?_
          refine ex_bipush (v := nI 6) dL_areAll_247 (by decide) ?_
          refine ex_per (j := m) (k := 6) (v := q m 4) vl_L_14 S wf hmn (by decide) rfl (by decide) (Nat.le_of_ble_eq_true rfl) (Nat.le_refl _) (Nat.le_refl _) dL_areAll_249 (fun h S => ?_)
          refine ex_iadd dL_areAll_252 ?_
          refine ex_istore (lv' := [(6, .int ((sF q 4 m) + (q m 4))), (7, .int ((sF q 2 m) + (q m 2))), (5, .int ((sF q 3 m) + (q m 3))), (4, .int ((sumB u q m) + (nI 0))), (13, .int (nI 0)), (12, .int (((u 8) + ((nI 5) * (q m 0))) - ((nI 10) * (q m 2)))), (11, .int (nI 0)), (10, .int (q m 2)), (9, .int (nI m)), (8, .int (sF q 5 m)), (3, .int (u 8)), (2, .int (nI i)), (1, .int (nI n)), (0, .ref b)]) dL_areAll_253 (by decide) rfl ?_
          refine ex_iload 9 dL_areAll_255 rfl ?_
          refine ex_aload_n 13 dL_areAll_257 rfl rfl ?_
          refine ex_iload 8 dL_areAll_258 rfl ?_
          refine ex_bipush (v := nI 7) dL_areAll_260 (by decide) ?_
          refine ex_per (j := m) (k := 7) (v := q m 5) vl_L_14 S wf hmn (by decide) rfl (by decide) (Nat.le_of_ble_eq_true rfl) (Nat.le_refl _) (Nat.le_refl _) dL_areAll_262 (fun h S => ?_)
          refine ex_iadd dL_areAll_265 ?_
          refine ex_istore (lv' := [(8, .int ((sF q 5 m) + (q m 5))), (6, .int ((sF q 4 m) + (q m 4))), (7, .int ((sF q 2 m) + (q m 2))), (5, .int ((sF q 3 m) + (q m 3))), (4, .int ((sumB u q m) + (nI 0))), (13, .int (nI 0)), (12, .int (((u 8) + ((nI 5) * (q m 0))) - ((nI 10) * (q m 2)))), (11, .int (nI 0)), (10, .int (q m 2)), (9, .int (nI m)), (3, .int (u 8)), (2, .int (nI i)), (1, .int (nI n)), (0, .ref b)]) dL_areAll_266 (by decide) rfl ?_
          refine ex_iinc (v := nI (m + 1)) (lv' := [(9, .int (nI (m + 1))), (8, .int ((sF q 5 m) + (q m 5))), (6, .int ((sF q 4 m) + (q m 4))), (7, .int ((sF q 2 m) + (q m 2))), (5, .int ((sF q 3 m) + (q m 3))), (4, .int ((sumB u q m) + (nI 0))), (13, .int (nI 0)), (12, .int (((u 8) + ((nI 5) * (q m 0))) - ((nI 10) * (q m 2)))), (11, .int (nI 0)), (10, .int (q m 2)), (3, .int (u 8)), (2, .int (nI i)), (1, .int (nI n)), (0, .ref b)]) 9 dL_areAll_268 rfl (nI_1 m) (by decide) rfl ?_
          refine ex_goto (tgt := 39) dL_areAll_271 (by decide) ?_
          have e2 := ih (m + 1) h (by omega) S
          have e3 : sumB u q (m + 1) = (sumB u q m) + (nI 0) := by rw [sumB, if_pos hb, show nI 0 = 0 from rfl, Int32.add_zero]
          rw [e3] at e2
          refine ex_lv (lv2 := [(9, .int (nI (m + 1))), (8, .int ((sF q 5 m) + (q m 5))), (7, .int ((sF q 2 m) + (q m 2))), (6, .int ((sF q 4 m) + (q m 4))), (5, .int ((sF q 3 m) + (q m 3))), (4, .int ((sumB u q m) + (nI 0))), (3, .int (u 8)), (2, .int (nI i)), (1, .int (nI n)), (0, .ref b)]) [0, 1, 3, 2, 4, 5, 10, 11, 12, 13] rfl ?_
          exact e2
        · refine ex_iconst (v := nI 1) dL_areAll_127 (by decide) ?_
          refine ex_goto (tgt := 132) dL_areAll_128 (by decide) ?_
          refine ex_istore (lv' := [(13, .int (nI 1)), (12, .int (((u 8) + ((nI 5) * (q m 0))) - ((nI 10) * (q m 2)))), (11, .int (nI 0)), (10, .int (q m 2)), (9, .int (nI m)), (8, .int (sF q 5 m)), (7, .int (sF q 2 m)), (6, .int (sF q 4 m)), (5, .int (sF q 3 m)), (4, .int (sumB u q m)), (3, .int (u 8)), (2, .int (nI i)), (1, .int (nI n)), (0, .ref b)]) dL_areAll_132 (by decide) rfl ?_
          refine ex_aload_n 13 dL_areAll_134 rfl rfl ?_
          refine ex_iload 4 dL_areAll_135 rfl ?_
          refine ex_iconst (v := nI 4) dL_areAll_137 (by decide) ?_
          refine ex_per (j := m) (k := 4) (v := bB u q m) vl_L_14 S wf hmn (by decide) rfl (by decide) (Nat.le_of_ble_eq_true rfl) (Nat.le_refl _) (Nat.le_refl _) dL_areAll_138 (fun h S => ?_)
          refine ex_iload 2 dL_areAll_141 rfl ?_
          refine ex_if_eq (tgt := 150) dL_areAll_143 (by decide) (fun c_143 => ?_) (fun c_143 => absurd (by decide) c_143)
          refine ex_iconst (v := nI 0) dL_areAll_150 (by decide) ?_
          refine ex_icmp_ne (tgt := 206) dL_areAll_151 (by decide) (fun c_151 => absurd (by unfold bB; rw [if_pos hb]) c_151) (fun c_151 => ?_)
          refine ex_aload_n 13 dL_areAll_154 rfl rfl ?_
          refine ex_iload 4 dL_areAll_155 rfl ?_
          refine ex_iconst (v := nI 5) dL_areAll_157 (by decide) ?_
          refine ex_per (j := m) (k := 5) (v := scI u q m + nI 1000) vl_L_14 S wf hmn (by decide) rfl (by decide) (Nat.le_of_ble_eq_true rfl) (Nat.le_refl _) (Nat.le_refl _) dL_areAll_158 (fun h S => ?_)
          refine ex_iload 1 dL_areAll_161 rfl ?_
          refine ex_sipush (v := nI 1000) dL_areAll_163 (by decide) ?_
          refine ex_iadd dL_areAll_166 ?_
          refine ex_icmp_ne (tgt := 206) dL_areAll_167 (by decide) (fun c_167 => absurd (rfl) c_167) (fun c_167 => ?_)
          refine ex_aload_n 13 dL_areAll_170 rfl rfl ?_
          refine ex_iload 4 dL_areAll_171 rfl ?_
          refine ex_bipush (v := nI 8) dL_areAll_173 (by decide) ?_
          refine ex_per (j := m) (k := 8) (v := mayI n (some i) u q m) vl_L_14 S wf hmn (by decide) rfl (by decide) (Nat.le_of_ble_eq_true rfl) (Nat.le_refl _) (Nat.le_refl _) dL_areAll_175 (fun h S => ?_)
          refine ex_iload 0 dL_areAll_178 rfl ?_
          refine ex_if_eq (tgt := 187) dL_areAll_180 (by decide) (fun c_180 => absurd c_180 (by decide)) (fun c_180 => ?_)
          refine ex_iconst (v := nI 1) dL_areAll_183 (by decide) ?_
          refine ex_goto (tgt := 188) dL_areAll_184 (by decide) ?_
          refine ex_icmp_ne (tgt := 206) dL_areAll_188 (by decide) (fun c_188 => absurd (by unfold mayI; rw [if_pos ⟨by simp, fun q9 => n_104 (Option.some.inj q9), hb, c_124⟩]) c_188) (fun c_188 => ?_)
          refine ex_aload_n 13 dL_areAll_191 rfl rfl ?_
          refine ex_iload 4 dL_areAll_192 rfl ?_
          refine ex_iconst (v := nI 3) dL_areAll_194 (by decide) ?_
          refine ex_per (j := m) (k := 3) (v := q m 3) vl_L_14 S wf hmn (by decide) rfl (by decide) (Nat.le_of_ble_eq_true rfl) (Nat.le_refl _) (Nat.le_refl _) dL_areAll_195 (fun h S => ?_)
          refine ex_if_lt (tgt := 206) dL_areAll_198 (by decide) (fun c_198 => absurd c_198 (b3)) (fun c_198 => ?_)
          refine ex_iload 3 dL_areAll_201 rfl ?_
          refine ex_if_ge (tgt := 208) dL_areAll_203 (by decide) (fun c_203 => ?_) (fun c_203 => absurd (b2) c_203)
          refine ex_iload 9 dL_areAll_208 rfl ?_
          refine ex_iload 2 dL_areAll_210 rfl ?_
          refine ex_if_eq (tgt := 219) dL_areAll_212 (by decide) (fun c_212 => ?_) (fun c_212 => absurd (by decide) c_212)
          refine ex_iconst (v := nI 0) dL_areAll_219 (by decide) ?_
          refine ex_iadd dL_areAll_220 ?_
          refine ex_istore (lv' := [(4, .int ((sumB u q m) + (nI 0))), (13, .int (nI 1)), (12, .int (((u 8) + ((nI 5) * (q m 0))) - ((nI 10) * (q m 2)))), (11, .int (nI 0)), (10, .int (q m 2)), (9, .int (nI m)), (8, .int (sF q 5 m)), (7, .int (sF q 2 m)), (6, .int (sF q 4 m)), (5, .int (sF q 3 m)), (3, .int (u 8)), (2, .int (nI i)), (1, .int (nI n)), (0, .ref b)]) dL_areAll_221 (by decide) rfl ?_
          refine ex_iload 9 dL_areAll_223 rfl ?_
          refine ex_aload_n 13 dL_areAll_225 rfl rfl ?_
          refine ex_iload 5 dL_areAll_226 rfl ?_
          refine ex_iconst (v := nI 3) dL_areAll_228 (by decide) ?_
          refine ex_per (j := m) (k := 3) (v := q m 3) vl_L_14 S wf hmn (by decide) rfl (by decide) (Nat.le_of_ble_eq_true rfl) (Nat.le_refl _) (Nat.le_refl _) dL_areAll_229 (fun h S => ?_)
          refine ex_iadd dL_areAll_232 ?_
          refine ex_istore (lv' := [(5, .int ((sF q 3 m) + (q m 3))), (4, .int ((sumB u q m) + (nI 0))), (13, .int (nI 1)), (12, .int (((u 8) + ((nI 5) * (q m 0))) - ((nI 10) * (q m 2)))), (11, .int (nI 0)), (10, .int (q m 2)), (9, .int (nI m)), (8, .int (sF q 5 m)), (7, .int (sF q 2 m)), (6, .int (sF q 4 m)), (3, .int (u 8)), (2, .int (nI i)), (1, .int (nI n)), (0, .ref b)]) dL_areAll_233 (by decide) rfl ?_
          refine ex_iload 8 dL_areAll_235 rfl ?_
          refine ex_iload 5 dL_areAll_237 rfl ?_
          refine ex_iadd dL_areAll_239 ?_
          refine ex_istore (lv' := [(7, .int ((sF q 2 m) + (q m 2))), (5, .int ((sF q 3 m) + (q m 3))), (4, .int ((sumB u q m) + (nI 0))), (13, .int (nI 1)), (12, .int (((u 8) + ((nI 5) * (q m 0))) - ((nI 10) * (q m 2)))), (11, .int (nI 0)), (10, .int (q m 2)), (9, .int (nI m)), (8, .int (sF q 5 m)), (6, .int (sF q 4 m)), (3, .int (u 8)), (2, .int (nI i)), (1, .int (nI n)), (0, .ref b)]) dL_areAll_240 (by decide) rfl ?_
          refine ex_iload 9 dL_areAll_242 rfl ?_
          refine ex_aload_n 13 dL_areAll_244 rfl rfl ?_
          refine ex_iload 7 dL_areAll_245 rfl ?_
          refine ex_bipush (v := nI 6) dL_areAll_247 (by decide) ?_
          refine ex_per (j := m) (k := 6) (v := q m 4) vl_L_14 S wf hmn (by decide) rfl (by decide) (Nat.le_of_ble_eq_true rfl) (Nat.le_refl _) (Nat.le_refl _) dL_areAll_249 (fun h S => ?_)
          refine ex_iadd dL_areAll_252 ?_
          refine ex_istore (lv' := [(6, .int ((sF q 4 m) + (q m 4))), (7, .int ((sF q 2 m) + (q m 2))), (5, .int ((sF q 3 m) + (q m 3))), (4, .int ((sumB u q m) + (nI 0))), (13, .int (nI 1)), (12, .int (((u 8) + ((nI 5) * (q m 0))) - ((nI 10) * (q m 2)))), (11, .int (nI 0)), (10, .int (q m 2)), (9, .int (nI m)), (8, .int (sF q 5 m)), (3, .int (u 8)), (2, .int (nI i)), (1, .int (nI n)), (0, .ref b)]) dL_areAll_253 (by decide) rfl ?_
          refine ex_iload 9 dL_areAll_255 rfl ?_
          refine ex_aload_n 13 dL_areAll_257 rfl rfl ?_
          refine ex_iload 8 dL_areAll_258 rfl ?_
          refine ex_bipush (v := nI 7) dL_areAll_260 (by decide) ?_
          refine ex_per (j := m) (k := 7) (v := q m 5) vl_L_14 S wf hmn (by decide) rfl (by decide) (Nat.le_of_ble_eq_true rfl) (Nat.le_refl _) (Nat.le_refl _) dL_areAll_262 (fun h S => ?_)
          refine ex_iadd dL_areAll_265 ?_
          refine ex_istore (lv' := [(8, .int ((sF q 5 m) + (q m 5))), (6, .int ((sF q 4 m) + (q m 4))), (7, .int ((sF q 2 m) + (q m 2))), (5, .int ((sF q 3 m) + (q m 3))), (4, .int ((sumB u q m) + (nI 0))), (13, .int (nI 1)), (12, .int (((u 8) + ((nI 5) * (q m 0))) - ((nI 10) * (q m 2)))), (11, .int (nI 0)), (10, .int (q m 2)), (9, .int (nI m)), (3, .int (u 8)), (2, .int (nI i)), (1, .int (nI n)), (0, .ref b)]) dL_areAll_266 (by decide) rfl ?_
          refine ex_iinc (v := nI (m + 1)) (lv' := [(9, .int (nI (m + 1))), (8, .int ((sF q 5 m) + (q m 5))), (6, .int ((sF q 4 m) + (q m 4))), (7, .int ((sF q 2 m) + (q m 2))), (5, .int ((sF q 3 m) + (q m 3))), (4, .int ((sumB u q m) + (nI 0))), (13, .int (nI 1)), (12, .int (((u 8) + ((nI 5) * (q m 0))) - ((nI 10) * (q m 2)))), (11, .int (nI 0)), (10, .int (q m 2)), (3, .int (u 8)), (2, .int (nI i)), (1, .int (nI n)), (0, .ref b)]) 9 dL_areAll_268 rfl (nI_1 m) (by decide) rfl ?_
          refine ex_goto (tgt := 39) dL_areAll_271 (by decide) ?_
          have e2 := ih (m + 1) h (by omega) S
          have e3 : sumB u q (m + 1) = (sumB u q m) + (nI 0) := by rw [sumB, if_pos hb, show nI 0 = 0 from rfl, Int32.add_zero]
          rw [e3] at e2
          refine ex_lv (lv2 := [(9, .int (nI (m + 1))), (8, .int ((sF q 5 m) + (q m 5))), (7, .int ((sF q 2 m) + (q m 2))), (6, .int ((sF q 4 m) + (q m 4))), (5, .int ((sF q 3 m) + (q m 3))), (4, .int ((sumB u q m) + (nI 0))), (3, .int (u 8)), (2, .int (nI i)), (1, .int (nI n)), (0, .ref b)]) [0, 1, 3, 2, 4, 5, 10, 11, 12, 13] rfl ?_
          exact e2
    · refine ex_iload 0 dL_areAll_39 rfl ?_
      refine ex_iload_n 8 dL_areAll_41 rfl rfl ?_
      refine ex_icmp_ge (tgt := 274) dL_areAll_42 (by decide) (fun c_42 => absurd c_42 (fun q9 => absurd ((nI_leI (by omega) (by omega)).mp q9) (by omega))) (fun c_42 => ?_)
      refine ex_iload 0 dL_areAll_45 rfl ?_
      refine ex_bipush (v := nI 8) dL_areAll_47 (by decide) ?_
      refine ex_icmp_ge (tgt := 274) dL_areAll_49 (by decide) (fun c_49 => absurd c_49 (fun q9 => absurd ((nI_leI (by omega) (by omega)).mp q9) (by omega))) (fun c_49 => ?_)
      refine ex_aload_n 9 dL_areAll_52 rfl rfl ?_
      refine ex_iload 0 dL_areAll_53 rfl ?_
      refine ex_iconst (v := nI 2) dL_areAll_55 (by decide) ?_
      refine ex_per (j := m) (k := 2) (v := q m 2) vl_L_14 S wf hmn (by decide) rfl (by decide) (Nat.le_of_ble_eq_true rfl) (Nat.le_refl _) (Nat.le_refl _) dL_areAll_56 (fun h S => ?_)
      refine ex_istore (lv' := [(10, .int (q m 2)), (9, .int (nI m)), (8, .int (sF q 5 m)), (7, .int (sF q 2 m)), (6, .int (sF q 4 m)), (5, .int (sF q 3 m)), (4, .int (sumB u q m)), (3, .int (u 8)), (2, .int (nI i)), (1, .int (nI n)), (0, .ref b)]) dL_areAll_59 (by decide) rfl ?_
      refine ex_iload 0 dL_areAll_61 rfl ?_
      refine ex_aload_n 10 dL_areAll_63 rfl rfl ?_
      refine ex_iconst (v := nI 4) dL_areAll_64 (by decide) ?_
      refine ex_cnt (k := 4) (v := u 4) vl_L_8 S wf (by decide) rfl (by decide) (Nat.le_of_ble_eq_true rfl) (Nat.le_refl _) (Nat.le_refl _) dL_areAll_65 (fun h S => ?_)
      refine ex_icmp_lt (tgt := 75) dL_areAll_68 (by decide) (fun c_68 => absurd c_68 (hb)) (fun c_68 => ?_)
      refine ex_iconst (v := nI 1) dL_areAll_71 (by decide) ?_
      refine ex_goto (tgt := 76) dL_areAll_72 (by decide) ?_
      refine ex_istore (lv' := [(11, .int (nI 1)), (10, .int (q m 2)), (9, .int (nI m)), (8, .int (sF q 5 m)), (7, .int (sF q 2 m)), (6, .int (sF q 4 m)), (5, .int (sF q 3 m)), (4, .int (sumB u q m)), (3, .int (u 8)), (2, .int (nI i)), (1, .int (nI n)), (0, .ref b)]) dL_areAll_76 (by decide) rfl ?_
      refine ex_iload_n 8 dL_areAll_78 rfl rfl ?_
      refine ex_iconst (v := nI 5) dL_areAll_79 (by decide) ?_
      refine ex_aload_n 11 dL_areAll_80 rfl rfl ?_
      refine ex_iload 2 dL_areAll_81 rfl ?_
      refine ex_iconst (v := nI 0) dL_areAll_83 (by decide) ?_
      refine ex_per (j := m) (k := 0) (v := q m 0) vl_L_14 S wf hmn (by decide) rfl (by decide) (Nat.le_of_ble_eq_true rfl) (Nat.le_refl _) (Nat.le_refl _) dL_areAll_84 (fun h S => ?_)
      refine ex_imul dL_areAll_87 ?_
      refine ex_iadd dL_areAll_88 ?_
      refine ex_bipush (v := nI 10) dL_areAll_89 (by decide) ?_
      refine ex_iload 1 dL_areAll_91 rfl ?_
      refine ex_imul dL_areAll_93 ?_
      refine ex_isub dL_areAll_94 ?_
      refine ex_istore (lv' := [(12, .int (((u 8) + ((nI 5) * (q m 0))) - ((nI 10) * (q m 2)))), (11, .int (nI 1)), (10, .int (q m 2)), (9, .int (nI m)), (8, .int (sF q 5 m)), (7, .int (sF q 2 m)), (6, .int (sF q 4 m)), (5, .int (sF q 3 m)), (4, .int (sumB u q m)), (3, .int (u 8)), (2, .int (nI i)), (1, .int (nI n)), (0, .ref b)]) dL_areAll_95 (by decide) rfl ?_
      refine ex_iload_n 10 dL_areAll_97 rfl rfl ?_
      refine ex_if_lt (tgt := 131) dL_areAll_98 (by decide) (fun c_98 => absurd c_98 (nI_pos (by omega))) (fun c_98 => ?_)
      refine ex_iload_n 10 dL_areAll_101 rfl rfl ?_
      refine ex_iload 3 dL_areAll_102 rfl ?_
      refine ex_icmp_eq (tgt := 131) dL_areAll_104 (by decide) (fun c_104 => ?_) (fun c_104 => ?_)
      · have n_104 : i = m := (nI_eq (by omega) (by omega)).mp c_104
        refine ex_iconst (v := nI 0) dL_areAll_131 (by decide) ?_
        refine ex_istore (lv' := [(13, .int (nI 0)), (12, .int (((u 8) + ((nI 5) * (q m 0))) - ((nI 10) * (q m 2)))), (11, .int (nI 1)), (10, .int (q m 2)), (9, .int (nI m)), (8, .int (sF q 5 m)), (7, .int (sF q 2 m)), (6, .int (sF q 4 m)), (5, .int (sF q 3 m)), (4, .int (sumB u q m)), (3, .int (u 8)), (2, .int (nI i)), (1, .int (nI n)), (0, .ref b)]) dL_areAll_132 (by decide) rfl ?_
        refine ex_aload_n 13 dL_areAll_134 rfl rfl ?_
        refine ex_iload 4 dL_areAll_135 rfl ?_
        refine ex_iconst (v := nI 4) dL_areAll_137 (by decide) ?_
        refine ex_per (j := m) (k := 4) (v := bB u q m) vl_L_14 S wf hmn (by decide) rfl (by decide) (Nat.le_of_ble_eq_true rfl) (Nat.le_refl _) (Nat.le_refl _) dL_areAll_138 (fun h S => ?_)
        refine ex_iload 2 dL_areAll_141 rfl ?_
        refine ex_if_eq (tgt := 150) dL_areAll_143 (by decide) (fun c_143 => absurd c_143 (by decide)) (fun c_143 => ?_)
        refine ex_iconst (v := nI 1) dL_areAll_146 (by decide) ?_
        refine ex_goto (tgt := 151) dL_areAll_147 (by decide) ?_
        refine ex_icmp_ne (tgt := 206) dL_areAll_151 (by decide) (fun c_151 => absurd (by unfold bB; rw [if_neg hb]) c_151) (fun c_151 => ?_)
        refine ex_aload_n 13 dL_areAll_154 rfl rfl ?_
        refine ex_iload 4 dL_areAll_155 rfl ?_
        refine ex_iconst (v := nI 5) dL_areAll_157 (by decide) ?_
        refine ex_per (j := m) (k := 5) (v := scI u q m + nI 1000) vl_L_14 S wf hmn (by decide) rfl (by decide) (Nat.le_of_ble_eq_true rfl) (Nat.le_refl _) (Nat.le_refl _) dL_areAll_158 (fun h S => ?_)
        refine ex_iload 1 dL_areAll_161 rfl ?_
        refine ex_sipush (v := nI 1000) dL_areAll_163 (by decide) ?_
        refine ex_iadd dL_areAll_166 ?_
        refine ex_icmp_ne (tgt := 206) dL_areAll_167 (by decide) (fun c_167 => absurd (rfl) c_167) (fun c_167 => ?_)
        refine ex_aload_n 13 dL_areAll_170 rfl rfl ?_
        refine ex_iload 4 dL_areAll_171 rfl ?_
        refine ex_bipush (v := nI 8) dL_areAll_173 (by decide) ?_
        refine ex_per (j := m) (k := 8) (v := mayI n (some i) u q m) vl_L_14 S wf hmn (by decide) rfl (by decide) (Nat.le_of_ble_eq_true rfl) (Nat.le_refl _) (Nat.le_refl _) dL_areAll_175 (fun h S => ?_)
        refine ex_iload 0 dL_areAll_178 rfl ?_
        refine ex_if_eq (tgt := 187) dL_areAll_180 (by decide) (fun c_180 => ?_) (fun c_180 => absurd (by decide) c_180)
        refine ex_iconst (v := nI 0) dL_areAll_187 (by decide) ?_
        refine ex_icmp_ne (tgt := 206) dL_areAll_188 (by decide) (fun c_188 => absurd (by unfold mayI; rw [if_neg (fun q9 => hb q9.2.2.1)]) c_188) (fun c_188 => ?_)
        refine ex_aload_n 13 dL_areAll_191 rfl rfl ?_
        refine ex_iload 4 dL_areAll_192 rfl ?_
        refine ex_iconst (v := nI 3) dL_areAll_194 (by decide) ?_
        refine ex_per (j := m) (k := 3) (v := q m 3) vl_L_14 S wf hmn (by decide) rfl (by decide) (Nat.le_of_ble_eq_true rfl) (Nat.le_refl _) (Nat.le_refl _) dL_areAll_195 (fun h S => ?_)
        refine ex_if_lt (tgt := 206) dL_areAll_198 (by decide) (fun c_198 => absurd c_198 (b3)) (fun c_198 => ?_)
        refine ex_iload 3 dL_areAll_201 rfl ?_
        refine ex_if_ge (tgt := 208) dL_areAll_203 (by decide) (fun c_203 => ?_) (fun c_203 => absurd (b2) c_203)
        refine ex_iload 9 dL_areAll_208 rfl ?_
        refine ex_iload 2 dL_areAll_210 rfl ?_
        refine ex_if_eq (tgt := 219) dL_areAll_212 (by decide) (fun c_212 => absurd c_212 (by decide)) (fun c_212 => ?_)
        refine ex_iconst (v := nI 1) dL_areAll_215 (by decide) ?_
        refine ex_goto (tgt := 220) dL_areAll_216 (by decide) ?_
        refine ex_iadd dL_areAll_220 ?_
        refine ex_istore (lv' := [(4, .int ((sumB u q m) + (nI 1))), (13, .int (nI 0)), (12, .int (((u 8) + ((nI 5) * (q m 0))) - ((nI 10) * (q m 2)))), (11, .int (nI 1)), (10, .int (q m 2)), (9, .int (nI m)), (8, .int (sF q 5 m)), (7, .int (sF q 2 m)), (6, .int (sF q 4 m)), (5, .int (sF q 3 m)), (3, .int (u 8)), (2, .int (nI i)), (1, .int (nI n)), (0, .ref b)]) dL_areAll_221 (by decide) rfl ?_
        refine ex_iload 9 dL_areAll_223 rfl ?_
        refine ex_aload_n 13 dL_areAll_225 rfl rfl ?_
        refine ex_iload 5 dL_areAll_226 rfl ?_
        refine ex_iconst (v := nI 3) dL_areAll_228 (by decide) ?_
        refine ex_per (j := m) (k := 3) (v := q m 3) vl_L_14 S wf hmn (by decide) rfl (by decide) (Nat.le_of_ble_eq_true rfl) (Nat.le_refl _) (Nat.le_refl _) dL_areAll_229 (fun h S => ?_)
        refine ex_iadd dL_areAll_232 ?_
        refine ex_istore (lv' := [(5, .int ((sF q 3 m) + (q m 3))), (4, .int ((sumB u q m) + (nI 1))), (13, .int (nI 0)), (12, .int (((u 8) + ((nI 5) * (q m 0))) - ((nI 10) * (q m 2)))), (11, .int (nI 1)), (10, .int (q m 2)), (9, .int (nI m)), (8, .int (sF q 5 m)), (7, .int (sF q 2 m)), (6, .int (sF q 4 m)), (3, .int (u 8)), (2, .int (nI i)), (1, .int (nI n)), (0, .ref b)]) dL_areAll_233 (by decide) rfl ?_
        refine ex_iload 8 dL_areAll_235 rfl ?_
        refine ex_iload 5 dL_areAll_237 rfl ?_
        refine ex_iadd dL_areAll_239 ?_
        refine ex_istore (lv' := [(7, .int ((sF q 2 m) + (q m 2))), (5, .int ((sF q 3 m) + (q m 3))), (4, .int ((sumB u q m) + (nI 1))), (13, .int (nI 0)), (12, .int (((u 8) + ((nI 5) * (q m 0))) - ((nI 10) * (q m 2)))), (11, .int (nI 1)), (10, .int (q m 2)), (9, .int (nI m)), (8, .int (sF q 5 m)), (6, .int (sF q 4 m)), (3, .int (u 8)), (2, .int (nI i)), (1, .int (nI n)), (0, .ref b)]) dL_areAll_240 (by decide) rfl ?_
        refine ex_iload 9 dL_areAll_242 rfl ?_
        refine ex_aload_n 13 dL_areAll_244 rfl rfl ?_
        refine ex_iload 7 dL_areAll_245 rfl ?_
        refine ex_bipush (v := nI 6) dL_areAll_247 (by decide) ?_
        refine ex_per (j := m) (k := 6) (v := q m 4) vl_L_14 S wf hmn (by decide) rfl (by decide) (Nat.le_of_ble_eq_true rfl) (Nat.le_refl _) (Nat.le_refl _) dL_areAll_249 (fun h S => ?_)
        refine ex_iadd dL_areAll_252 ?_
        refine ex_istore (lv' := [(6, .int ((sF q 4 m) + (q m 4))), (7, .int ((sF q 2 m) + (q m 2))), (5, .int ((sF q 3 m) + (q m 3))), (4, .int ((sumB u q m) + (nI 1))), (13, .int (nI 0)), (12, .int (((u 8) + ((nI 5) * (q m 0))) - ((nI 10) * (q m 2)))), (11, .int (nI 1)), (10, .int (q m 2)), (9, .int (nI m)), (8, .int (sF q 5 m)), (3, .int (u 8)), (2, .int (nI i)), (1, .int (nI n)), (0, .ref b)]) dL_areAll_253 (by decide) rfl ?_
        refine ex_iload 9 dL_areAll_255 rfl ?_
        refine ex_aload_n 13 dL_areAll_257 rfl rfl ?_
        refine ex_iload 8 dL_areAll_258 rfl ?_
        refine ex_bipush (v := nI 7) dL_areAll_260 (by decide) ?_
        refine ex_per (j := m) (k := 7) (v := q m 5) vl_L_14 S wf hmn (by decide) rfl (by decide) (Nat.le_of_ble_eq_true rfl) (Nat.le_refl _) (Nat.le_refl _) dL_areAll_262 (fun h S => ?_)
        refine ex_iadd dL_areAll_265 ?_
        refine ex_istore (lv' := [(8, .int ((sF q 5 m) + (q m 5))), (6, .int ((sF q 4 m) + (q m 4))), (7, .int ((sF q 2 m) + (q m 2))), (5, .int ((sF q 3 m) + (q m 3))), (4, .int ((sumB u q m) + (nI 1))), (13, .int (nI 0)), (12, .int (((u 8) + ((nI 5) * (q m 0))) - ((nI 10) * (q m 2)))), (11, .int (nI 1)), (10, .int (q m 2)), (9, .int (nI m)), (3, .int (u 8)), (2, .int (nI i)), (1, .int (nI n)), (0, .ref b)]) dL_areAll_266 (by decide) rfl ?_
        refine ex_iinc (v := nI (m + 1)) (lv' := [(9, .int (nI (m + 1))), (8, .int ((sF q 5 m) + (q m 5))), (6, .int ((sF q 4 m) + (q m 4))), (7, .int ((sF q 2 m) + (q m 2))), (5, .int ((sF q 3 m) + (q m 3))), (4, .int ((sumB u q m) + (nI 1))), (13, .int (nI 0)), (12, .int (((u 8) + ((nI 5) * (q m 0))) - ((nI 10) * (q m 2)))), (11, .int (nI 1)), (10, .int (q m 2)), (3, .int (u 8)), (2, .int (nI i)), (1, .int (nI n)), (0, .ref b)]) 9 dL_areAll_268 rfl (nI_1 m) (by decide) rfl ?_
        refine ex_goto (tgt := 39) dL_areAll_271 (by decide) ?_
        have e2 := ih (m + 1) h (by omega) S
        have e3 : sumB u q (m + 1) = (sumB u q m) + (nI 1) := by rw [sumB, if_neg hb]; rfl
        rw [e3] at e2
        refine ex_lv (lv2 := [(9, .int (nI (m + 1))), (8, .int ((sF q 5 m) + (q m 5))), (7, .int ((sF q 2 m) + (q m 2))), (6, .int ((sF q 4 m) + (q m 4))), (5, .int ((sF q 3 m) + (q m 3))), (4, .int ((sumB u q m) + (nI 1))), (3, .int (u 8)), (2, .int (nI i)), (1, .int (nI n)), (0, .ref b)]) [0, 1, 3, 2, 4, 5, 10, 11, 12, 13] rfl ?_
        exact e2
      · have n_104 : ¬ (i = m) := fun q9 => c_104 ((nI_eq (by omega) (by omega)).mpr q9)
        refine ex_iload 1 dL_areAll_107 rfl ?_
        refine ex_if_ne (tgt := 131) dL_areAll_109 (by decide) (fun c_109 => ?_) (fun c_109 => absurd c_109 (by decide))
        refine ex_iconst (v := nI 0) dL_areAll_131 (by decide) ?_
        refine ex_istore (lv' := [(13, .int (nI 0)), (12, .int (((u 8) + ((nI 5) * (q m 0))) - ((nI 10) * (q m 2)))), (11, .int (nI 1)), (10, .int (q m 2)), (9, .int (nI m)), (8, .int (sF q 5 m)), (7, .int (sF q 2 m)), (6, .int (sF q 4 m)), (5, .int (sF q 3 m)), (4, .int (sumB u q m)), (3, .int (u 8)), (2, .int (nI i)), (1, .int (nI n)), (0, .ref b)]) dL_areAll_132 (by decide) rfl ?_
        refine ex_aload_n 13 dL_areAll_134 rfl rfl ?_
        refine ex_iload 4 dL_areAll_135 rfl ?_
        refine ex_iconst (v := nI 4) dL_areAll_137 (by decide) ?_
        refine ex_per (j := m) (k := 4) (v := bB u q m) vl_L_14 S wf hmn (by decide) rfl (by decide) (Nat.le_of_ble_eq_true rfl) (Nat.le_refl _) (Nat.le_refl _) dL_areAll_138 (fun h S => ?_)
        refine ex_iload 2 dL_areAll_141 rfl ?_
        refine ex_if_eq (tgt := 150) dL_areAll_143 (by decide) (fun c_143 => absurd c_143 (by decide)) (fun c_143 => ?_)
        refine ex_iconst (v := nI 1) dL_areAll_146 (by decide) ?_
        refine ex_goto (tgt := 151) dL_areAll_147 (by decide) ?_
        refine ex_icmp_ne (tgt := 206) dL_areAll_151 (by decide) (fun c_151 => absurd (by unfold bB; rw [if_neg hb]) c_151) (fun c_151 => ?_)
        refine ex_aload_n 13 dL_areAll_154 rfl rfl ?_
        refine ex_iload 4 dL_areAll_155 rfl ?_
        refine ex_iconst (v := nI 5) dL_areAll_157 (by decide) ?_
        refine ex_per (j := m) (k := 5) (v := scI u q m + nI 1000) vl_L_14 S wf hmn (by decide) rfl (by decide) (Nat.le_of_ble_eq_true rfl) (Nat.le_refl _) (Nat.le_refl _) dL_areAll_158 (fun h S => ?_)
        refine ex_iload 1 dL_areAll_161 rfl ?_
        refine ex_sipush (v := nI 1000) dL_areAll_163 (by decide) ?_
        refine ex_iadd dL_areAll_166 ?_
        refine ex_icmp_ne (tgt := 206) dL_areAll_167 (by decide) (fun c_167 => absurd (rfl) c_167) (fun c_167 => ?_)
        refine ex_aload_n 13 dL_areAll_170 rfl rfl ?_
        refine ex_iload 4 dL_areAll_171 rfl ?_
        refine ex_bipush (v := nI 8) dL_areAll_173 (by decide) ?_
        refine ex_per (j := m) (k := 8) (v := mayI n (some i) u q m) vl_L_14 S wf hmn (by decide) rfl (by decide) (Nat.le_of_ble_eq_true rfl) (Nat.le_refl _) (Nat.le_refl _) dL_areAll_175 (fun h S => ?_)
        refine ex_iload 0 dL_areAll_178 rfl ?_
        refine ex_if_eq (tgt := 187) dL_areAll_180 (by decide) (fun c_180 => ?_) (fun c_180 => absurd (by decide) c_180)
        refine ex_iconst (v := nI 0) dL_areAll_187 (by decide) ?_
        refine ex_icmp_ne (tgt := 206) dL_areAll_188 (by decide) (fun c_188 => absurd (by unfold mayI; rw [if_neg (fun q9 => hb q9.2.2.1)]) c_188) (fun c_188 => ?_)
        refine ex_aload_n 13 dL_areAll_191 rfl rfl ?_
        refine ex_iload 4 dL_areAll_192 rfl ?_
        refine ex_iconst (v := nI 3) dL_areAll_194 (by decide) ?_
        refine ex_per (j := m) (k := 3) (v := q m 3) vl_L_14 S wf hmn (by decide) rfl (by decide) (Nat.le_of_ble_eq_true rfl) (Nat.le_refl _) (Nat.le_refl _) dL_areAll_195 (fun h S => ?_)
        refine ex_if_lt (tgt := 206) dL_areAll_198 (by decide) (fun c_198 => absurd c_198 (b3)) (fun c_198 => ?_)
        refine ex_iload 3 dL_areAll_201 rfl ?_
        refine ex_if_ge (tgt := 208) dL_areAll_203 (by decide) (fun c_203 => ?_) (fun c_203 => absurd (b2) c_203)
        refine ex_iload 9 dL_areAll_208 rfl ?_
        refine ex_iload 2 dL_areAll_210 rfl ?_
        refine ex_if_eq (tgt := 219) dL_areAll_212 (by decide) (fun c_212 => absurd c_212 (by decide)) (fun c_212 => ?_)
        refine ex_iconst (v := nI 1) dL_areAll_215 (by decide) ?_
        refine ex_goto (tgt := 220) dL_areAll_216 (by decide) ?_
        refine ex_iadd dL_areAll_220 ?_
        refine ex_istore (lv' := [(4, .int ((sumB u q m) + (nI 1))), (13, .int (nI 0)), (12, .int (((u 8) + ((nI 5) * (q m 0))) - ((nI 10) * (q m 2)))), (11, .int (nI 1)), (10, .int (q m 2)), (9, .int (nI m)), (8, .int (sF q 5 m)), (7, .int (sF q 2 m)), (6, .int (sF q 4 m)), (5, .int (sF q 3 m)), (3, .int (u 8)), (2, .int (nI i)), (1, .int (nI n)), (0, .ref b)]) dL_areAll_221 (by decide) rfl ?_
        refine ex_iload 9 dL_areAll_223 rfl ?_
        refine ex_aload_n 13 dL_areAll_225 rfl rfl ?_
        refine ex_iload 5 dL_areAll_226 rfl ?_
        refine ex_iconst (v := nI 3) dL_areAll_228 (by decide) ?_
        refine ex_per (j := m) (k := 3) (v := q m 3) vl_L_14 S wf hmn (by decide) rfl (by decide) (Nat.le_of_ble_eq_true rfl) (Nat.le_refl _) (Nat.le_refl _) dL_areAll_229 (fun h S => ?_)
        refine ex_iadd dL_areAll_232 ?_
        refine ex_istore (lv' := [(5, .int ((sF q 3 m) + (q m 3))), (4, .int ((sumB u q m) + (nI 1))), (13, .int (nI 0)), (12, .int (((u 8) + ((nI 5) * (q m 0))) - ((nI 10) * (q m 2)))), (11, .int (nI 1)), (10, .int (q m 2)), (9, .int (nI m)), (8, .int (sF q 5 m)), (7, .int (sF q 2 m)), (6, .int (sF q 4 m)), (3, .int (u 8)), (2, .int (nI i)), (1, .int (nI n)), (0, .ref b)]) dL_areAll_233 (by decide) rfl ?_
        refine ex_iload 8 dL_areAll_235 rfl ?_
        refine ex_iload 5 dL_areAll_237 rfl ?_
        refine ex_iadd dL_areAll_239 ?_
        refine ex_istore (lv' := [(7, .int ((sF q 2 m) + (q m 2))), (5, .int ((sF q 3 m) + (q m 3))), (4, .int ((sumB u q m) + (nI 1))), (13, .int (nI 0)), (12, .int (((u 8) + ((nI 5) * (q m 0))) - ((nI 10) * (q m 2)))), (11, .int (nI 1)), (10, .int (q m 2)), (9, .int (nI m)), (8, .int (sF q 5 m)), (6, .int (sF q 4 m)), (3, .int (u 8)), (2, .int (nI i)), (1, .int (nI n)), (0, .ref b)]) dL_areAll_240 (by decide) rfl ?_
        refine ex_iload 9 dL_areAll_242 rfl ?_
        refine ex_aload_n 13 dL_areAll_244 rfl rfl ?_
        refine ex_iload 7 dL_areAll_245 rfl ?_
        refine ex_bipush (v := nI 6) dL_areAll_247 (by decide) ?_
        refine ex_per (j := m) (k := 6) (v := q m 4) vl_L_14 S wf hmn (by decide) rfl (by decide) (Nat.le_of_ble_eq_true rfl) (Nat.le_refl _) (Nat.le_refl _) dL_areAll_249 (fun h S => ?_)
        refine ex_iadd dL_areAll_252 ?_
        refine ex_istore (lv' := [(6, .int ((sF q 4 m) + (q m 4))), (7, .int ((sF q 2 m) + (q m 2))), (5, .int ((sF q 3 m) + (q m 3))), (4, .int ((sumB u q m) + (nI 1))), (13, .int (nI 0)), (12, .int (((u 8) + ((nI 5) * (q m 0))) - ((nI 10) * (q m 2)))), (11, .int (nI 1)), (10, .int (q m 2)), (9, .int (nI m)), (8, .int (sF q 5 m)), (3, .int (u 8)), (2, .int (nI i)), (1, .int (nI n)), (0, .ref b)]) dL_areAll_253 (by decide) rfl ?_
        refine ex_iload 9 dL_areAll_255 rfl ?_
        refine ex_aload_n 13 dL_areAll_257 rfl rfl ?_
        refine ex_iload 8 dL_areAll_258 rfl ?_
        refine ex_bipush (v := nI 7) dL_areAll_260 (by decide) ?_
        refine ex_per (j := m) (k := 7) (v := q m 5) vl_L_14 S wf hmn (by decide) rfl (by decide) (Nat.le_of_ble_eq_true rfl) (Nat.le_refl _) (Nat.le_refl _) dL_areAll_262 (fun h S => ?_)
        refine ex_iadd dL_areAll_265 ?_
        refine ex_istore (lv' := [(8, .int ((sF q 5 m) + (q m 5))), (6, .int ((sF q 4 m) + (q m 4))), (7, .int ((sF q 2 m) + (q m 2))), (5, .int ((sF q 3 m) + (q m 3))), (4, .int ((sumB u q m) + (nI 1))), (13, .int (nI 0)), (12, .int (((u 8) + ((nI 5) * (q m 0))) - ((nI 10) * (q m 2)))), (11, .int (nI 1)), (10, .int (q m 2)), (9, .int (nI m)), (3, .int (u 8)), (2, .int (nI i)), (1, .int (nI n)), (0, .ref b)]) dL_areAll_266 (by decide) rfl ?_
        refine ex_iinc (v := nI (m + 1)) (lv' := [(9, .int (nI (m + 1))), (8, .int ((sF q 5 m) + (q m 5))), (6, .int ((sF q 4 m) + (q m 4))), (7, .int ((sF q 2 m) + (q m 2))), (5, .int ((sF q 3 m) + (q m 3))), (4, .int ((sumB u q m) + (nI 1))), (13, .int (nI 0)), (12, .int (((u 8) + ((nI 5) * (q m 0))) - ((nI 10) * (q m 2)))), (11, .int (nI 1)), (10, .int (q m 2)), (3, .int (u 8)), (2, .int (nI i)), (1, .int (nI n)), (0, .ref b)]) 9 dL_areAll_268 rfl (nI_1 m) (by decide) rfl ?_
        refine ex_goto (tgt := 39) dL_areAll_271 (by decide) ?_
        have e2 := ih (m + 1) h (by omega) S
        have e3 : sumB u q (m + 1) = (sumB u q m) + (nI 1) := by rw [sumB, if_neg hb]; rfl
        rw [e3] at e2
        refine ex_lv (lv2 := [(9, .int (nI (m + 1))), (8, .int ((sF q 5 m) + (q m 5))), (7, .int ((sF q 2 m) + (q m 2))), (6, .int ((sF q 4 m) + (q m 4))), (5, .int ((sF q 3 m) + (q m 3))), (4, .int ((sumB u q m) + (nI 1))), (3, .int (u 8)), (2, .int (nI i)), (1, .int (nI n)), (0, .ref b)]) [0, 1, 3, 2, 4, 5, 10, 11, 12, 13] rfl ?_
        exact e2

theorem c_areAll {G : GG} {l : Launch} {h0 : HP} {z b K : Nat} {x : CX} (S0 : PP G h0 z b x) (ok : iv K x.1) (hK : K < 2 ^ 23) : Ct G l 3 0 0 yL_areAll cL_areAll 14 (some .boolean) [.ref b] h0 z (pL G b z x) := by
  obtain ⟨⟨n, _ | i, t, u, q⟩, R⟩ := x
  · exact c_areAllN S0 ok hK
  · exact c_areAllS S0 ok hK

