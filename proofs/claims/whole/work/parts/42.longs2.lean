theorem bv_255 : ∀ i, i < 64 → 8 ≤ i → (255#64).getLsbD i = false := by decide +kernel
theorem bv_sar {x : BitVec 64} {s : Nat} (hs : s ≤ 56) : (x.sshiftRight s &&& 255#64) = ((x >>> s) &&& 255#64) := by
  apply BitVec.eq_of_getLsbD_eq
  intro i hi
  rw [BitVec.getLsbD_and, BitVec.getLsbD_and]
  by_cases c : i < 8
  · congr 1
    rw [BitVec.getLsbD_sshiftRight, BitVec.getLsbD_ushiftRight]
    have h1 : ¬ 64 ≤ i := by omega
    have h2 : s + i < 64 := by omega
    simp [h1, h2]
  · rw [bv_255 i hi (by omega), Bool.and_false, Bool.and_false]
theorem sar_bv {c : Int64} {a : Nat} (h : a < 8) : (c >>> ((nI (8 * a)).toInt64 &&& 63)).toBitVec = c.toBitVec.sshiftRight (8 * a) := by
  rw [Int64.toBitVec_shiftRight]
  rcases (show a = 0 ∨ a = 1 ∨ a = 2 ∨ a = 3 ∨ a = 4 ∨ a = 5 ∨ a = 6 ∨ a = 7 by omega) with rfl | rfl | rfl | rfl | rfl | rfl | rfl | rfl <;> exact congrArg (BitVec.sshiftRight c.toBitVec) (by decide)
theorem rI_bv {c : Int64} {a : Nat} : (rI c a).toBitVec = c.toBitVec >>> (8 * a) := by
  apply BitVec.eq_of_toNat_eq
  rw [BitVec.toNat_ushiftRight]
  show (UInt64.ofNat (rsN c a)).toNat = _
  rw [UInt64.toNat_ofNat_of_lt' (show rsN c a < UInt64.size from rsN_lt)]
  rfl
theorem sar_and {c : Int64} {a : Nat} (h : a < 8) : ((c >>> ((nI (8 * a)).toInt64 &&& 63)) &&& 255) = cI (cdN c a) := by
  rw [← rI_and]
  apply Int64.toBitVec_inj.mp
  rw [Int64.toBitVec_and, Int64.toBitVec_and, sar_bv h, rI_bv]
  exact bv_sar (by omega)
theorem rsN_8 {c : Int64} : rsN c 8 = 0 := by
  unfold rsN l64
  rw [Nat.shiftRight_eq_div_pow]
  exact Nat.div_eq_of_lt c.toUInt64.toNat_lt
theorem rsN_s {c : Int64} {i : Nat} : rsN c i = 0 ↔ cdN c i = 0 ∧ rsN c (i + 1) = 0 := by
  have e : rsN c (i + 1) = rsN c i / 256 := by
    unfold rsN
    rw [Nat.mul_add, Nat.shiftRight_add, Nat.shiftRight_eq_div_pow _ (8 * 1)]
  rw [e]
  unfold cdN
  omega
/-- what the model knows of the characters below i -/
def pcJ (c : Int64) (i many : Nat) (right ends : Bool) : Prop := if right = true then (if ends = true then pcs c = (if rsN c i = 0 then many else 0) else many = i ∧ pcG c (8 - i) i = pcs c) else pcs c = 0
theorem pcJ_0 {c : Int64} : pcJ c 0 0 true false := ⟨rfl, rfl⟩
/-- a zero comes first -/
theorem pcJ_z {c : Int64} {i many : Nat} (hi : i < 8) (hz : cdN c i = 0) (h : pcJ c i many true false) : pcJ c (i + 1) many true true := by
  obtain ⟨rfl, h⟩ := h
  show pcs c = _
  rw [← h, show 8 - many = (8 - (many + 1)) + 1 by omega, pcG, if_pos hz]
  by_cases r : rsN c (many + 1) = 0
  · rw [if_pos r, if_pos (rsN_s.mpr ⟨hz, r⟩)]
  · rw [if_neg r, if_neg (fun q => r (rsN_s.mp q).2)]
theorem pcJ_zz {c : Int64} {i many : Nat} (hz : cdN c i = 0) (h : pcJ c i many true true) : pcJ c (i + 1) many true true := by
  have h : pcs c = (if rsN c i = 0 then many else 0) := h
  show pcs c = _
  rw [h]
  by_cases r : rsN c (i + 1) = 0
  · rw [if_pos r, if_pos (rsN_s.mpr ⟨hz, r⟩)]
  · rw [if_neg r, if_neg (fun q => r (rsN_s.mp q).2)]
theorem pcJ_zn {c : Int64} {i many m2 : Nat} {e : Bool} (hz : ¬ cdN c i = 0) (h : pcJ c i many true true) : pcJ c (i + 1) m2 false e := by
  have h : pcs c = (if rsN c i = 0 then many else 0) := h
  show pcs c = 0
  rw [h, if_neg (fun q => hz (rsN_s.mp q).1)]
theorem pcJ_g {c : Int64} {i many : Nat} (hi : i < 8) (hz : ¬ cdN c i = 0) (hr : 33 ≤ cdN c i ∧ cdN c i ≤ 126) (h : pcJ c i many true false) : pcJ c (i + 1) (many + 1) true false := by
  obtain ⟨rfl, h⟩ := h
  refine ⟨rfl, ?_⟩
  rw [← h, show 8 - many = (8 - (many + 1)) + 1 by omega, pcG, if_neg hz, if_neg (by omega)]
theorem pcJ_b {c : Int64} {i many m2 : Nat} {e : Bool} (hi : i < 8) (hz : ¬ cdN c i = 0) (hr : ¬ (33 ≤ cdN c i ∧ cdN c i ≤ 126)) (h : pcJ c i many true false) : pcJ c (i + 1) m2 false e := by
  obtain ⟨rfl, h⟩ := h
  show pcs c = 0
  rw [← h, show 8 - many = (8 - (many + 1)) + 1 by omega, pcG, if_neg hz, if_pos (by omega)]
theorem pcJ_n {c : Int64} {i many m2 : Nat} {e e2 : Bool} (h : pcJ c i many false e) : pcJ c (i + 1) m2 false e2 := h
theorem pcJ_8 {c : Int64} {many : Nat} {right ends : Bool} (h : pcJ c 8 many right ends) : pcs c = if right = true then many else 0 := by
  cases right
  · exact h
  · cases ends
    · obtain ⟨rfl, h⟩ := h
      rw [← h, pcG, if_pos rsN_8]
      rfl
    · have h : pcs c = (if rsN c 8 = 0 then many else 0) := h
      rw [h, if_pos rsN_8]
      rfl
theorem inV_t {i K : Nat} (hi : i ≤ K) (hK : K < 2 ^ 31) : inV (nI i) (nI 0) (nI K) = nI 1 := by
  unfold inV
  rw [if_pos ⟨(nI_leI (by omega) (by omega)).mpr (by omega), (nI_leI (by omega) (by omega)).mpr hi⟩]
theorem inV_f {v : Int32} {K : Nat} (h : ¬ inR v (K + 1)) (hK : K + 1 < 2 ^ 31) : inV v (nI 0) (nI K) = nI 0 := by
  unfold inV
  rw [if_neg (fun q => h ⟨q.1, ?_⟩)]
  exact Int32.lt_of_le_of_lt q.2 (nI_lt (by omega) (by omega))
