def TW : List Cond := lw_tbl.filter goodWord
theorem tw_in {w : Cond} (h : w ∈ lw_tbl) (g : goodWord w = true) : w ∈ TW := List.mem_filter.mpr ⟨h, g⟩
theorem tw_tbl {w : Cond} (h : w ∈ TW) : w ∈ lw_tbl := (List.mem_filter.mp h).1
theorem tw_good : GoodIn TW TW := fun w h => ⟨h, good_of_word (List.mem_filter.mp h).2⟩
theorem tw_t {w : Cond} (i : Nat) (h : tables_1[i]? = some w) (g : goodWord w = true) : w ∈ TW := tw_in (List.mem_append_right _ (List.mem_of_getElem? h)) g
theorem tw_test : Cond.fieldLink RX2 7 "PurrProbates$Person" "warmth" "I" ∈ TW := tw_t 39 (by decide +kernel) (by decide +kernel)
theorem tw_test2 : Cond.fieldLink RX2 7 "PurrProbates$Person" "warmth" "I" ∈ TW := tw_t 39 rfl rfl
theorem uw2 : ∀ w ∈ u_ws RX2 TX2 6, w ∈ TW := fun w h => tw_in ((by decide +kernel : ∀ w ∈ u_ws RX2 TX2 6, w ∈ lw_tbl) w h) ((by decide +kernel : ∀ w ∈ u_ws RX2 TX2 6, goodWord w = true) w h)
