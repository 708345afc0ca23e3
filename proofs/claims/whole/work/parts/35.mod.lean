set_option maxRecDepth 20000 in
set_option maxHeartbeats 2000000 in
theorem m_at {G : GG} {l : Launch} {h0 : HP} {z : Nat} {a j : Nat} : Ct G l 0 0 0 yX5_at cX5_at 2 (some .int) [.int (nI a), .int (nI j)] h0 z (p0 (.int (nI (a + 17 + 6 * j))) h0 z) := by
  refine Ct.intro (lv := [(0, .int (nI a)), (1, .int (nI j))]) (by decide +kernel) (Nat.le_of_ble_eq_true rfl) rfl (fun X Q hQ hnm => ?_)
  refine ex_iload_n 0 dX5_at_0 rfl rfl ?_
  refine ex_bipush (v := nI 17) dX5_at_1 (by decide) ?_
  refine ex_iaddN dX5_at_3 ?_
  refine ex_bipush (v := nI 6) dX5_at_4 (by decide) ?_
  refine ex_iload_n 1 dX5_at_6 rfl rfl ?_
  refine ex_imulN dX5_at_7 ?_
  refine ex_iaddN dX5_at_8 ?_
  exact ex_iret hQ rfl ⟨rfl, rfl, rfl⟩ dX5_at_9

set_option maxRecDepth 20000 in
set_option maxHeartbeats 2000000 in
theorem m_less {G : GG} {l : Launch} {h0 : HP} {z : Nat} {x y : Int32} : Ct G l 0 0 0 yX5_less cX5_less 2 (some .int) [.int x, .int y] h0 z (p0 (.int (mnI x y)) h0 z) := by
  refine Ct.intro (lv := [(0, .int x), (1, .int y)]) (by decide +kernel) (Nat.le_of_ble_eq_true rfl) rfl (fun X Q hQ hnm => ?_)
  refine ex_iload_n 0 dX5_less_0 rfl rfl ?_
  refine ex_iload_n 1 dX5_less_1 rfl rfl ?_
  refine ex_icmp_ge (tgt := 9) dX5_less_2 (by decide) (fun c_2 => ?_) (fun c_2 => ?_)
  · refine ex_iload_n 1 dX5_less_9 rfl rfl ?_
    exact ex_iret hQ rfl (by unfold p0; refine ⟨?_, rfl, rfl⟩; rw [mnI_comm]; unfold mnI; first | rw [if_pos (Int32.not_le.mp c_2)] | rw [if_neg (Int32.not_lt.mpr c_2)]) dX5_less_10
  · refine ex_iload_n 0 dX5_less_5 rfl rfl ?_
    refine ex_goto (tgt := 10) dX5_less_6 (by decide) ?_
    exact ex_iret hQ rfl (by unfold p0; refine ⟨?_, rfl, rfl⟩; rw [mnI_comm]; unfold mnI; first | rw [if_pos (Int32.not_le.mp c_2)] | rw [if_neg (Int32.not_lt.mpr c_2)]) dX5_less_10

def inV (v a b : Int32) : Int32 := if a ≤ v ∧ v ≤ b then nI 1 else nI 0

set_option maxRecDepth 20000 in
set_option maxHeartbeats 2000000 in
theorem m_in {G : GG} {l : Launch} {h0 : HP} {z : Nat} {v x y : Int32} : Ct G l 0 0 0 yX5_in cX5_in 3 (some .boolean) [.int v, .int x, .int y] h0 z (p0 (.int (inV v x y)) h0 z) := by
  refine Ct.intro (lv := [(0, .int v), (1, .int x), (2, .int y)]) (by decide +kernel) (Nat.le_of_ble_eq_true rfl) rfl (fun X Q hQ hnm => ?_)
  refine ex_iload_n 0 dX5_in_0 rfl rfl ?_
  refine ex_iload_n 1 dX5_in_1 rfl rfl ?_
  refine ex_icmp_lt (tgt := 14) dX5_in_2 (by decide) (fun c_2 => ?_) (fun c_2 => ?_)
  · refine ex_iconst (v := nI 0) dX5_in_14 (by decide) ?_
    exact ex_zret hQ rfl (by decide) (by unfold p0 inV; refine ⟨?_, rfl, rfl⟩; rw [if_neg (fun q9 => by first | exact absurd c_2 (Int32.not_lt.mpr q9.1) | exact absurd c_7 (Int32.not_lt.mpr q9.2))]) dX5_in_15
  · refine ex_iload_n 0 dX5_in_5 rfl rfl ?_
    refine ex_iload_n 2 dX5_in_6 rfl rfl ?_
    refine ex_icmp_gt (tgt := 14) dX5_in_7 (by decide) (fun c_7 => ?_) (fun c_7 => ?_)
    · refine ex_iconst (v := nI 0) dX5_in_14 (by decide) ?_
      exact ex_zret hQ rfl (by decide) (by unfold p0 inV; refine ⟨?_, rfl, rfl⟩; rw [if_neg (fun q9 => by first | exact absurd c_2 (Int32.not_lt.mpr q9.1) | exact absurd c_7 (Int32.not_lt.mpr q9.2))]) dX5_in_15
    · refine ex_iconst (v := nI 1) dX5_in_10 (by decide) ?_
      refine ex_goto (tgt := 15) dX5_in_11 (by decide) ?_
      exact ex_zret hQ rfl (by decide) (by unfold p0 inV; refine ⟨?_, rfl, rfl⟩; rw [if_pos ⟨Int32.not_lt.mp c_2, Int32.not_lt.mp c_7⟩]) dX5_in_15

set_option maxRecDepth 20000 in
set_option maxHeartbeats 2000000 in
theorem m_moved {G : GG} {l : Launch} {h0 : HP} {z : Nat} {a x y : Nat} (ha : a < 9) (hx : x < 9) (hy : y < 9) : Ct G l 0 0 0 yX5_moved cX5_moved 3 (some .int) [.int (nI a), .int (nI x), .int (nI y)] h0 z (p0 (.int (nI (mvP a x y))) h0 z) := by
  refine Ct.intro (lv := [(0, .int (nI a)), (1, .int (nI x)), (2, .int (nI y))]) (by decide +kernel) (Nat.le_of_ble_eq_true rfl) rfl (fun X Q hQ hnm => ?_)
  refine ex_iload_n 0 dX5_moved_0 rfl rfl ?_
  refine ex_iload_n 1 dX5_moved_1 rfl rfl ?_
  refine ex_icmp_ne (tgt := 7) dX5_moved_2 (by decide) (fun c_2 => ?_) (fun c_2 => ?_)
  · have n_2 : ¬ (a = x) := fun q9 => c_2 ((nI_eq (by omega) (by omega)).mpr q9)
    refine ex_iload_n 0 dX5_moved_7 rfl rfl ?_
    refine ex_iload_n 1 dX5_moved_8 rfl rfl ?_
    refine ex_icmp_le (tgt := 23) dX5_moved_9 (by decide) (fun c_9 => ?_) (fun c_9 => ?_)
    · have n_9 : a ≤ x := (nI_leI (by omega) (by omega)).mp c_9
      refine ex_iload_n 0 dX5_moved_23 rfl rfl ?_
      refine ex_iload_n 1 dX5_moved_24 rfl rfl ?_
      refine ex_icmp_ge (tgt := 39) dX5_moved_25 (by decide) (fun c_25 => ?_) (fun c_25 => ?_)
      · have n_25 : x ≤ a := (nI_leI (by omega) (by omega)).mp c_25
        refine ex_iload_n 0 dX5_moved_39 rfl rfl ?_
        exact ex_iret hQ rfl ⟨congrArg (fun a => some (Value.int (nI a))) (show a = mvP a x y by unfold mvP; split <;> (try split) <;> (try split) <;> omega), rfl, rfl⟩ dX5_moved_40
      · have n_25 : ¬ (x ≤ a) := fun q9 => c_25 ((nI_leI (by omega) (by omega)).mpr q9)
        refine ex_iload_n 0 dX5_moved_28 rfl rfl ?_
        refine ex_iload_n 2 dX5_moved_29 rfl rfl ?_
        refine ex_icmp_lt (tgt := 39) dX5_moved_30 (by decide) (fun c_30 => ?_) (fun c_30 => ?_)
        · have n_30 : a < y := (nI_ltI (by omega) (by omega)).mp c_30
          refine ex_iload_n 0 dX5_moved_39 rfl rfl ?_
          exact ex_iret hQ rfl ⟨congrArg (fun a => some (Value.int (nI a))) (show a = mvP a x y by unfold mvP; split <;> (try split) <;> (try split) <;> omega), rfl, rfl⟩ dX5_moved_40
        · have n_30 : ¬ (a < y) := fun q9 => c_30 ((nI_ltI (by omega) (by omega)).mpr q9)
          refine ex_iload_n 0 dX5_moved_33 rfl rfl ?_
          refine ex_iconst (v := nI 1) dX5_moved_34 (by decide) ?_
          refine ex_iaddN dX5_moved_35 ?_
          refine ex_goto (tgt := 40) dX5_moved_36 (by decide) ?_
          exact ex_iret hQ rfl ⟨congrArg (fun a => some (Value.int (nI a))) (show a + 1 = mvP a x y by unfold mvP; split <;> (try split) <;> (try split) <;> omega), rfl, rfl⟩ dX5_moved_40
    · have n_9 : ¬ (a ≤ x) := fun q9 => c_9 ((nI_leI (by omega) (by omega)).mpr q9)
      refine ex_iload_n 0 dX5_moved_12 rfl rfl ?_
      refine ex_iload_n 2 dX5_moved_13 rfl rfl ?_
      refine ex_icmp_gt (tgt := 23) dX5_moved_14 (by decide) (fun c_14 => ?_) (fun c_14 => ?_)
      · have n_14 : y < a := (nI_ltI (by omega) (by omega)).mp c_14
        refine ex_iload_n 0 dX5_moved_23 rfl rfl ?_
        refine ex_iload_n 1 dX5_moved_24 rfl rfl ?_
        refine ex_icmp_ge (tgt := 39) dX5_moved_25 (by decide) (fun c_25 => ?_) (fun c_25 => ?_)
        · have n_25 : x ≤ a := (nI_leI (by omega) (by omega)).mp c_25
          refine ex_iload_n 0 dX5_moved_39 rfl rfl ?_
          exact ex_iret hQ rfl ⟨congrArg (fun a => some (Value.int (nI a))) (show a = mvP a x y by unfold mvP; split <;> (try split) <;> (try split) <;> omega), rfl, rfl⟩ dX5_moved_40
        · have n_25 : ¬ (x ≤ a) := fun q9 => c_25 ((nI_leI (by omega) (by omega)).mpr q9)
          refine ex_iload_n 0 dX5_moved_28 rfl rfl ?_
          refine ex_iload_n 2 dX5_moved_29 rfl rfl ?_
          refine ex_icmp_lt (tgt := 39) dX5_moved_30 (by decide) (fun c_30 => ?_) (fun c_30 => ?_)
          · have n_30 : a < y := (nI_ltI (by omega) (by omega)).mp c_30
            refine ex_iload_n 0 dX5_moved_39 rfl rfl ?_
            exact ex_iret hQ rfl ⟨congrArg (fun a => some (Value.int (nI a))) (show a = mvP a x y by unfold mvP; split <;> (try split) <;> (try split) <;> omega), rfl, rfl⟩ dX5_moved_40
          · have n_30 : ¬ (a < y) := fun q9 => c_30 ((nI_ltI (by omega) (by omega)).mpr q9)
            refine ex_iload_n 0 dX5_moved_33 rfl rfl ?_
            refine ex_iconst (v := nI 1) dX5_moved_34 (by decide) ?_
            refine ex_iaddN dX5_moved_35 ?_
            refine ex_goto (tgt := 40) dX5_moved_36 (by decide) ?_
            exact ex_iret hQ rfl ⟨congrArg (fun a => some (Value.int (nI a))) (show a + 1 = mvP a x y by unfold mvP; split <;> (try split) <;> (try split) <;> omega), rfl, rfl⟩ dX5_moved_40
      · have n_14 : ¬ (y < a) := fun q9 => c_14 ((nI_ltI (by omega) (by omega)).mpr q9)
        refine ex_iload_n 0 dX5_moved_17 rfl rfl ?_
        refine ex_iconst (v := nI 1) dX5_moved_18 (by decide) ?_
        refine ex_isubN dX5_moved_19 (by omega) ?_
        refine ex_goto (tgt := 40) dX5_moved_20 (by decide) ?_
        exact ex_iret hQ rfl ⟨congrArg (fun a => some (Value.int (nI a))) (show a - 1 = mvP a x y by unfold mvP; split <;> (try split) <;> (try split) <;> omega), rfl, rfl⟩ dX5_moved_40
  · have n_2 : a = x := (nI_eq (by omega) (by omega)).mp c_2
    refine ex_iload_n 2 dX5_moved_5 rfl rfl ?_
    exact ex_iret hQ rfl ⟨congrArg (fun a => some (Value.int (nI a))) (show y = mvP a x y by unfold mvP; split <;> (try split) <;> (try split) <;> omega), rfl, rfl⟩ dX5_moved_6

set_option maxRecDepth 20000 in
set_option maxHeartbeats 2000000 in
theorem m_isBarred {G : GG} {l : Launch} {h0 : HP} {z m k len p : Nat} {n : Nat} {g : Option Nat} {t : Nat} {u : Nat → Int32} {q : Nat → Nat → Int32} (S0 : RP G h0 m k len p (n, g, t, u, q)) (hp : p ≤ 65) (n8 : n ≤ 8) {j : Nat} (hj : j < n) : Ct G l 1 0 0 yX5_isBarred cX5_isBarred 3 (some .boolean) [.ref m, .int (nI p), .int (nI j)] h0 z (p0 (.int (bB u q j)) h0 z) := by
  refine Ct.intro (lv := [(0, .ref m), (1, .int (nI p)), (2, .int (nI j))]) (by decide +kernel) (Nat.le_of_ble_eq_true rfl) rfl (fun X Q hQ hnm => ?_)
  have S := S0.rf
  refine ex_aload_n 0 dX5_isBarred_0 rfl rfl ?_
  refine ex_get (v := .ref (m + 1)) fl_X5_7 S.1 rfl dX5_isBarred_1 ?_
  refine ex_iload_n 1 dX5_isBarred_4 rfl rfl ?_
  refine ex_iload_n 2 dX5_isBarred_5 rfl rfl ?_
  refine ex_callS0 (As := [.int (nI p), .int (nI j)]) (v := .int (nI (p + 17 + 6 * j))) vl_X5_34 (m_at) rfl (by decide) (Nat.le_of_ble_eq_true rfl) (Nat.le_refl _) (Nat.le_refl _) rfl dX5_isBarred_6 ?_
  refine ex_iconst (v := nI 2) dX5_isBarred_9 (by decide) ?_
  refine ex_iaddN dX5_isBarred_10 ?_
  refine exM_ldq (p := p) (j := j) (b := 2) (v := q j 2) S hp rfl hj (by omega) (by decide) rfl dX5_isBarred_11 ?_
  refine ex_aload_n 0 dX5_isBarred_12 rfl rfl ?_
  refine ex_get (v := .ref (m + 1)) fl_X5_7 S.1 rfl dX5_isBarred_13 ?_
  refine ex_iload_n 1 dX5_isBarred_16 rfl rfl ?_
  refine ex_iconst (v := nI 4) dX5_isBarred_17 (by decide) ?_
  refine ex_iaddN dX5_isBarred_18 ?_
  refine exM_ld (p := p) (i := 4) (v := u 4) S hp rfl (by decide) rfl dX5_isBarred_19 ?_
  refine ex_icmp_lt (tgt := 27) dX5_isBarred_20 (by decide) (fun c_20 => ?_) (fun c_20 => ?_)
  · refine ex_iconst (v := nI 0) dX5_isBarred_27 (by decide) ?_
    exact ex_zret hQ rfl (by decide) ⟨by unfold bB; first | rw [if_pos c_20] | rw [if_neg c_20], rfl, rfl⟩ dX5_isBarred_28
  · refine ex_iconst (v := nI 1) dX5_isBarred_23 (by decide) ?_
    refine ex_goto (tgt := 28) dX5_isBarred_24 (by decide) ?_
    exact ex_zret hQ rfl (by decide) ⟨by unfold bB; first | rw [if_pos c_20] | rw [if_neg c_20], rfl, rfl⟩ dX5_isBarred_28

set_option maxRecDepth 20000 in
set_option maxHeartbeats 2000000 in
theorem m_score {G : GG} {l : Launch} {h0 : HP} {z m k len p : Nat} {n : Nat} {g : Option Nat} {t : Nat} {u : Nat → Int32} {q : Nat → Nat → Int32} (S0 : RP G h0 m k len p (n, g, t, u, q)) (hp : p ≤ 65) (n8 : n ≤ 8) {j : Nat} (hj : j < n) : Ct G l 1 0 0 yX5_score cX5_score 3 (some .int) [.ref m, .int (nI p), .int (nI j)] h0 z (p0 (.int (scI u q j)) h0 z) := by
  refine Ct.intro (lv := [(0, .ref m), (1, .int (nI p)), (2, .int (nI j))]) (by decide +kernel) (Nat.le_of_ble_eq_true rfl) rfl (fun X Q hQ hnm => ?_)
  have S := S0.rf
  refine ex_aload_n 0 dX5_score_0 rfl rfl ?_
  refine ex_get (v := .ref (m + 1)) fl_X5_7 S.1 rfl dX5_score_1 ?_
  refine ex_iload_n 1 dX5_score_4 rfl rfl ?_
  refine ex_bipush (v := nI 8) dX5_score_5 (by decide) ?_
  refine ex_iaddN dX5_score_7 ?_
  refine exM_ld (p := p) (i := 8) (v := u 8) S hp rfl (by decide) rfl dX5_score_8 ?_
  refine ex_iconst (v := nI 5) dX5_score_9 (by decide) ?_
  refine ex_aload_n 0 dX5_score_10 rfl rfl ?_
  refine ex_get (v := .ref (m + 1)) fl_X5_7 S.1 rfl dX5_score_11 ?_
  refine ex_iload_n 1 dX5_score_14 rfl rfl ?_
  refine ex_iload_n 2 dX5_score_15 rfl rfl ?_
  refine ex_callS0 (As := [.int (nI p), .int (nI j)]) (v := .int (nI (p + 17 + 6 * j))) vl_X5_34 (m_at) rfl (by decide) (Nat.le_of_ble_eq_true rfl) (Nat.le_refl _) (Nat.le_refl _) rfl dX5_score_16 ?_
  refine ex_iconst (v := nI 0) dX5_score_19 (by decide) ?_
  refine ex_iaddN dX5_score_20 ?_
  refine exM_ldq (p := p) (j := j) (b := 0) (v := q j 0) S hp rfl hj (by omega) (by decide) rfl dX5_score_21 ?_
  refine ex_imul dX5_score_22 ?_
  refine ex_iadd dX5_score_23 ?_
  refine ex_bipush (v := nI 10) dX5_score_24 (by decide) ?_
  refine ex_aload_n 0 dX5_score_26 rfl rfl ?_
  refine ex_get (v := .ref (m + 1)) fl_X5_7 S.1 rfl dX5_score_27 ?_
  refine ex_iload_n 1 dX5_score_30 rfl rfl ?_
  refine ex_iload_n 2 dX5_score_31 rfl rfl ?_
  refine ex_callS0 (As := [.int (nI p), .int (nI j)]) (v := .int (nI (p + 17 + 6 * j))) vl_X5_34 (m_at) rfl (by decide) (Nat.le_of_ble_eq_true rfl) (Nat.le_refl _) (Nat.le_refl _) rfl dX5_score_32 ?_
  refine ex_iconst (v := nI 2) dX5_score_35 (by decide) ?_
  refine ex_iaddN dX5_score_36 ?_
  refine exM_ldq (p := p) (j := j) (b := 2) (v := q j 2) S hp rfl hj (by omega) (by decide) rfl dX5_score_37 ?_
  refine ex_imul dX5_score_38 ?_
  refine ex_isub dX5_score_39 ?_
  exact ex_iret hQ rfl ⟨rfl, rfl, rfl⟩ dX5_score_40

set_option maxRecDepth 20000 in
set_option maxHeartbeats 2000000 in
theorem m_scratches {G : GG} {l : Launch} {h0 : HP} {z m k len p : Nat} {n : Nat} {g : Option Nat} {t : Nat} {u : Nat → Int32} {q : Nat → Nat → Int32} (S0 : RP G h0 m k len p (n, g, t, u, q)) (hp : p ≤ 65) (n8 : n ≤ 8) {j : Nat} (hj : j < n) : Ct G l 1 0 0 yX5_scratches cX5_scratches 3 none [.ref m, .int (nI p), .int (nI j)] h0 z (pR G none h0 z m k len p (n, g, t, upd u 12 (u 12 + nI 1), uq q j 2 (q j 2 + nI 1))) := by
  refine Ct.intro (lv := [(0, .ref m), (1, .int (nI p)), (2, .int (nI j))]) (by decide +kernel) (Nat.le_of_ble_eq_true rfl) rfl (fun X Q hQ hnm => ?_)
  have S := S0.rf
  refine ex_aload_n 0 dX5_scratches_0 rfl rfl ?_
  refine ex_get (v := .ref (m + 1)) fl_X5_7 S.1 rfl dX5_scratches_1 ?_
  refine ex_iload_n 1 dX5_scratches_4 rfl rfl ?_
  refine ex_iload_n 2 dX5_scratches_5 rfl rfl ?_
  refine ex_callS0 (As := [.int (nI p), .int (nI j)]) (v := .int (nI (p + 17 + 6 * j))) vl_X5_34 (m_at) rfl (by decide) (Nat.le_of_ble_eq_true rfl) (Nat.le_refl _) (Nat.le_refl _) rfl dX5_scratches_6 ?_
  refine ex_iconst (v := nI 2) dX5_scratches_9 (by decide) ?_
  refine ex_iaddN dX5_scratches_10 ?_
  refine ex_dup2 dX5_scratches_11 rfl rfl ?_
  refine exM_ldq (p := p) (j := j) (b := 2) (v := q j 2) S hp rfl hj (by omega) (by decide) rfl dX5_scratches_12 ?_
  refine ex_iconst (v := nI 1) dX5_scratches_13 (by decide) ?_
  refine ex_iadd dX5_scratches_14 ?_
  refine exM_stQ (p := p) (j := j) (b := 2) S hp rfl (by omega) (by decide) dX5_scratches_15 (fun h S => ?_)
  refine ex_aload_n 0 dX5_scratches_16 rfl rfl ?_
  refine ex_get (v := .ref (m + 1)) fl_X5_7 S.1 rfl dX5_scratches_17 ?_
  refine ex_iload_n 1 dX5_scratches_20 rfl rfl ?_
  refine ex_bipush (v := nI 12) dX5_scratches_21 (by decide) ?_
  refine ex_iaddN dX5_scratches_23 ?_
  refine ex_dup2 dX5_scratches_24 rfl rfl ?_
  refine exM_ld (p := p) (i := 12) (v := u 12) S hp rfl (by decide) rfl dX5_scratches_25 ?_
  refine ex_iconst (v := nI 1) dX5_scratches_26 (by decide) ?_
  refine ex_iadd dX5_scratches_27 ?_
  refine exM_stU (p := p) (i := 12) S hp rfl (by decide) (by decide) dX5_scratches_28 (fun h S => ?_)
  exact ex_vret hQ rfl ⟨rfl, rfl, S⟩ dX5_scratches_29

set_option maxRecDepth 20000 in
set_option maxHeartbeats 2000000 in
theorem m_behind {G : GG} {l : Launch} {h0 : HP} {z m k len p : Nat} {n : Nat} {g : Option Nat} {t : Nat} {u : Nat → Int32} {q : Nat → Nat → Int32} (S0 : RP G h0 m k len p (n, g, t, u, q)) (hp : p ≤ 65) (n8 : n ≤ 8) {j : Nat} (hj : j < n) : Ct G l 0 0 0 yX5_behind cX5_behind 3 (some .int) [.ref m, .int (nI p), .int (nI j)] h0 z (p0 (.int (nI (bh n j))) h0 z) := by
  refine Ct.intro (lv := [(0, .ref m), (1, .int (nI p)), (2, .int (nI j))]) (by decide +kernel) (Nat.le_of_ble_eq_true rfl) rfl (fun X Q hQ hnm => ?_)
  have S := S0.rf
  refine ex_iload_n 2 dX5_behind_0 rfl rfl ?_
  refine ex_iconst (v := nI 1) dX5_behind_1 (by decide) ?_
  refine ex_iaddN dX5_behind_2 ?_
  refine ex_aload_n 0 dX5_behind_3 rfl rfl ?_
  refine ex_get (v := .ref (m + 1)) fl_X5_7 S.1 rfl dX5_behind_4 ?_
  refine ex_iload_n 1 dX5_behind_7 rfl rfl ?_
  refine ex_bipush (v := nI 7) dX5_behind_8 (by decide) ?_
  refine ex_iaddN dX5_behind_10 ?_
  refine exM_ld (p := p) (i := 7) (v := nI n) S hp rfl (by decide) rfl dX5_behind_11 ?_
  refine ex_icmp_ge (tgt := 21) dX5_behind_12 (by decide) (fun c_12 => ?_) (fun c_12 => ?_)
  · have n_12 : n ≤ (j + 1) := (nI_leI (by omega) (by omega)).mp c_12
    refine ex_iconst (v := nI 0) dX5_behind_21 (by decide) ?_
    exact ex_iret hQ rfl ⟨by unfold bh; first | rw [if_pos (by omega)] | rw [if_neg (by omega)], rfl, rfl⟩ dX5_behind_22
  · have n_12 : ¬ (n ≤ (j + 1)) := fun q9 => c_12 ((nI_leI (by omega) (by omega)).mpr q9)
    refine ex_iload_n 2 dX5_behind_15 rfl rfl ?_
    refine ex_iconst (v := nI 1) dX5_behind_16 (by decide) ?_
    refine ex_iaddN dX5_behind_17 ?_
    refine ex_goto (tgt := 22) dX5_behind_18 (by decide) ?_
    exact ex_iret hQ rfl ⟨by unfold bh; first | rw [if_pos (by omega)] | rw [if_neg (by omega)], rfl, rfl⟩ dX5_behind_22

set_option maxRecDepth 20000 in
set_option maxHeartbeats 2000000 in
theorem m_deposes {G : GG} {l : Launch} {h0 : HP} {z m k len p : Nat} {n : Nat} {g : Option Nat} {t : Nat} {u : Nat → Int32} {q : Nat → Nat → Int32} (S0 : RP G h0 m k len p (n, g, t, u, q)) (hp : p ≤ 65) (n8 : n ≤ 8) {j : Nat} : Ct G l 0 0 0 yX5_deposes cX5_deposes 3 none [.ref m, .int (nI p), .int (nI j)] h0 z (pR G none h0 z m k len p (n, none, j, upd u 14 (u 14 + nI 1), q)) := by
  refine Ct.intro (lv := [(0, .ref m), (1, .int (nI p)), (2, .int (nI j))]) (by decide +kernel) (Nat.le_of_ble_eq_true rfl) rfl (fun X Q hQ hnm => ?_)
  have S := S0.rf
  refine ex_aload_n 0 dX5_deposes_0 rfl rfl ?_
  refine ex_get (v := .ref (m + 1)) fl_X5_7 S.1 rfl dX5_deposes_1 ?_
  refine ex_iload_n 1 dX5_deposes_4 rfl rfl ?_
  refine ex_bipush (v := nI 9) dX5_deposes_5 (by decide) ?_
  refine ex_iaddN dX5_deposes_7 ?_
  refine ex_iconst (v := (-1)) dX5_deposes_8 (by decide) ?_
  refine exM_stG (p := p) (g1 := none) S hp rfl rfl dX5_deposes_9 (fun h S => ?_)
  refine ex_aload_n 0 dX5_deposes_10 rfl rfl ?_
  refine ex_get (v := .ref (m + 1)) fl_X5_7 S.1 rfl dX5_deposes_11 ?_
  refine ex_iload_n 1 dX5_deposes_14 rfl rfl ?_
  refine ex_bipush (v := nI 10) dX5_deposes_15 (by decide) ?_
  refine ex_iaddN dX5_deposes_17 ?_
  refine ex_iload_n 2 dX5_deposes_18 rfl rfl ?_
  refine exM_stT (p := p) (t1 := j) S hp rfl rfl dX5_deposes_19 (fun h S => ?_)
  refine ex_aload_n 0 dX5_deposes_20 rfl rfl ?_
  refine ex_get (v := .ref (m + 1)) fl_X5_7 S.1 rfl dX5_deposes_21 ?_
  refine ex_iload_n 1 dX5_deposes_24 rfl rfl ?_
  refine ex_bipush (v := nI 14) dX5_deposes_25 (by decide) ?_
  refine ex_iaddN dX5_deposes_27 ?_
  refine ex_dup2 dX5_deposes_28 rfl rfl ?_
  refine exM_ld (p := p) (i := 14) (v := u 14) S hp rfl (by decide) rfl dX5_deposes_29 ?_
  refine ex_iconst (v := nI 1) dX5_deposes_30 (by decide) ?_
  refine ex_iadd dX5_deposes_31 ?_
  refine exM_stU (p := p) (i := 14) S hp rfl (by decide) (by decide) dX5_deposes_32 (fun h S => ?_)
  exact ex_vret hQ rfl ⟨rfl, rfl, S⟩ dX5_deposes_33

theorem bh_mod {n t k : Nat} (hn : 0 < n) : bh n ((t + k) % n) = (t + (k + 1)) % n := by
  have h1 := Nat.mod_lt (t + k) hn
  have e : (t + (k + 1)) % n = ((t + k) % n + 1) % n := by rw [← Nat.add_assoc, Nat.add_mod, Nat.add_mod ((t + k) % n) 1 n, Nat.mod_mod]
  rw [e]
  unfold bh
  by_cases c : (t + k) % n + 1 < n
  · rw [if_pos c, Nat.mod_eq_of_lt c]
  · rw [if_neg c, show (t + k) % n + 1 = n by omega, Nat.mod_self]

set_option maxRecDepth 20000 in
set_option maxHeartbeats 2000000 in
theorem m_hand {G : GG} {l : Launch} {h0 : HP} {z m kk len p : Nat} {n : Nat} {g : Option Nat} {t : Nat} {u : Nat → Int32} {q : Nat → Nat → Int32} (S0 : RP G h0 m kk len p (n, g, t, u, q)) (hp : p ≤ 65) (n8 : n ≤ 8) (tw : t < n ∨ t = 0) : Ct G l 2 0 0 yX5_hand cX5_hand 4 (some .int) [.ref m, .int (nI p)] h0 z (p0 (.int (gv (hand n t u q))) h0 z) := by
  refine Ct.intro (lv := [(0, .ref m), (1, .int (nI p))]) (by decide +kernel) (Nat.le_of_ble_eq_true rfl) rfl (fun X Q hQ hnm => ?_)
  have S := S0.rf
  refine ex_iconst (v := nI 0) dX5_hand_0 (by decide) ?_
  refine ex_istore_n (lv' := [(2, .int (nI 0)), (0, .ref m), (1, .int (nI p))]) dX5_hand_1 rfl (by decide) rfl ?_
  suffices H : ∀ (k2 k : Nat), k + k2 = n → handF n u q ((t + k) % n) k2 = hand n t u q → ex G l X Q 2 0 0 0 0 cX5_hand yX5_hand.cls 4 (some .int) h0 z 2 [(2, .int (nI k)), (1, .int (nI p)), (0, .ref m)] [] from by
    have e2 := H n 0 (by omega) (by rcases Nat.eq_zero_or_pos n with c | c; (subst c; rfl); (unfold hand; rw [Nat.add_zero, Nat.mod_eq_of_lt (by omega)]))
    refine ex_lv (lv2 := [(2, .int (nI 0)), (1, .int (nI p)), (0, .ref m)]) [0, 2, 1] rfl ?_
    exact e2
  intro k2
  induction k2 with
  | zero =>
    intro k hk hh
    refine ex_iload_n 0 dX5_hand_2 rfl rfl ?_
    refine ex_aload_n 2 dX5_hand_3 rfl rfl ?_
    refine ex_get (v := .ref (m + 1)) fl_X5_7 S.1 rfl dX5_hand_4 ?_
    refine ex_iload_n 1 dX5_hand_7 rfl rfl ?_
    refine ex_bipush (v := nI 7) dX5_hand_8 (by decide) ?_
    refine ex_iaddN dX5_hand_10 ?_
    refine exM_ld (p := p) (i := 7) (v := nI n) S hp rfl (by decide) rfl dX5_hand_11 ?_
    refine ex_icmp_ge (tgt := 54) dX5_hand_12 (by decide) (fun c_12 => ?_) (fun c_12 => absurd ((nI_leI (by omega) (by omega)).mpr (by omega)) c_12)
    refine ex_bipush (v := (-6)) dX5_hand_54 (by decide) ?_
    exact ex_iret hQ rfl (by rw [← hh]; exact ⟨rfl, rfl, rfl⟩) dX5_hand_56
  | succ k2 ih =>
    intro k hk hh
    rw [handF] at hh
    have hj : (t + k) % n < n := Nat.mod_lt _ (by omega)
    refine ex_iload_n 0 dX5_hand_2 rfl rfl ?_
    refine ex_aload_n 2 dX5_hand_3 rfl rfl ?_
    refine ex_get (v := .ref (m + 1)) fl_X5_7 S.1 rfl dX5_hand_4 ?_
    refine ex_iload_n 1 dX5_hand_7 rfl rfl ?_
    refine ex_bipush (v := nI 7) dX5_hand_8 (by decide) ?_
    refine ex_iaddN dX5_hand_10 ?_
    refine exM_ld (p := p) (i := 7) (v := nI n) S hp rfl (by decide) rfl dX5_hand_11 ?_
    refine ex_icmp_ge (tgt := 54) dX5_hand_12 (by decide) (fun c_12 => absurd c_12 (fun q9 => absurd ((nI_leI (by omega) (by omega)).mp q9) (by omega))) (fun c_12 => ?_)
    refine ex_aload_n 2 dX5_hand_15 rfl rfl ?_
    refine ex_get (v := .ref (m + 1)) fl_X5_7 S.1 rfl dX5_hand_16 ?_
    refine ex_iload_n 1 dX5_hand_19 rfl rfl ?_
    refine ex_bipush (v := nI 10) dX5_hand_20 (by decide) ?_
    refine ex_iaddN dX5_hand_22 ?_
    refine exM_ld (p := p) (i := 10) (v := nI t) S hp rfl (by decide) rfl dX5_hand_23 ?_
    refine ex_iload_n 0 dX5_hand_24 rfl rfl ?_
    refine ex_iaddN dX5_hand_25 ?_
    refine ex_aload_n 2 dX5_hand_26 rfl rfl ?_
    refine ex_get (v := .ref (m + 1)) fl_X5_7 S.1 rfl dX5_hand_27 ?_
    refine ex_iload_n 1 dX5_hand_30 rfl rfl ?_
    refine ex_bipush (v := nI 7) dX5_hand_31 (by decide) ?_
    refine ex_iaddN dX5_hand_33 ?_
    refine exM_ld (p := p) (i := 7) (v := nI n) S hp rfl (by decide) rfl dX5_hand_34 ?_
    refine ex_irem dX5_hand_35 (nI_ne0 (by omega) (by omega)) ?_
    rw [nI_mod (by omega) (by omega) (by omega)]
    refine ex_istore_n (lv' := [(3, .int (nI ((t + k) % n))), (2, .int (nI k)), (1, .int (nI p)), (0, .ref m)]) dX5_hand_36 rfl (by decide) rfl ?_
    refine ex_aload_n 3 dX5_hand_37 rfl rfl ?_
    refine ex_iload_n 2 dX5_hand_38 rfl rfl ?_
    refine ex_iload_n 0 dX5_hand_39 rfl rfl ?_
    refine ex_call0 (As := [.int (nI p), .int (nI ((t + k) % n))]) (v := .int (bB u q ((t + k) % n))) (ci := 5) vl_X5_38 rfl (m_isBarred S.rp hp n8 hj) S.1 rfl (by decide) (Nat.le_of_ble_eq_true rfl) (Nat.le_refl _) (Nat.le_refl _) rfl dX5_hand_40 ?_
    refine ex_if_ne (tgt := 48) dX5_hand_43 (by decide) (fun c_43 => ?_) (fun c_43 => ?_)
    · refine ex_iinc (v := nI (k + 1)) (lv' := [(2, .int (nI (k + 1))), (3, .int (nI ((t + k) % n))), (1, .int (nI p)), (0, .ref m)]) 1 dX5_hand_48 rfl (nI_1 k) (by decide) rfl ?_
      refine ex_goto (tgt := 2) dX5_hand_51 (by decide) ?_
      have e2 := ih (k + 1) (by omega) (by rw [← hh, if_neg (bB_1 c_43), bh_mod (by omega)])
      refine ex_lv (lv2 := [(2, .int (nI (k + 1))), (1, .int (nI p)), (0, .ref m)]) [0, 2, 3] rfl ?_
      exact e2
    · refine ex_iload_n 0 dX5_hand_46 rfl rfl ?_
      exact ex_iret hQ rfl (by rw [if_pos (bB_0 c_43)] at hh; rw [← hh]; exact ⟨rfl, rfl, rfl⟩) dX5_hand_47

