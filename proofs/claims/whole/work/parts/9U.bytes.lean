/-! bytes -/
theorem w_bk (x : BitVec 32) (k : Nat) (hk : k ≤ 24) : (x >>> k).signExtend 8 = (x.sshiftRight k).signExtend 8 := by
  apply BitVec.eq_of_getLsbD_eq
  intro i hi
  simp only [BitVec.getLsbD_signExtend, BitVec.getLsbD_ushiftRight, BitVec.getLsbD_sshiftRight]
  rw [if_pos (by omega), if_pos (by omega), if_pos (by omega), decide_eq_false (show ¬ 32 ≤ i by omega)]
  rfl
theorem w_sh {v : Int32} {k : Nat} (hk : k = 24 ∨ k = 16 ∨ k = 8 ∨ k = 0) : ((v.toUInt32 >>> ((nI k).toUInt32 &&& Int32.toUInt32 31)).toInt32).toInt8 = (v >>> (nI k &&& 31)).toInt8 := by
  apply Int8.toBitVec_inj.mp
  simp only [Int32.toBitVec_toInt8, UInt32.toBitVec_toInt32, UInt32.toBitVec_shiftRight, Int32.toBitVec_shiftRight, Int32.toBitVec_toUInt32]
  rcases hk with rfl | rfl | rfl | rfl
  · exact w_bk v.toBitVec 24 (by decide)
  · exact w_bk v.toBitVec 16 (by decide)
  · exact w_bk v.toBitVec 8 (by decide)
  · exact w_bk v.toBitVec 0 (by decide)
def w_c8 (x : Int32) : Nat := x.toInt8.toUInt8.toNat
theorem w_c8_lt (x : Int32) : w_c8 x < 256 := x.toInt8.toUInt8.toNat_lt
theorem w_c8_i : ∀ n, n < 256 → vp_nar .byte (UInt8.ofNat n).toInt8.toInt32 = s8 n := by decide +kernel
theorem w_c8_s (x : Int32) : vp_nar .byte x.toInt8.toInt32 = s8 (w_c8 x) := by
  have h := w_c8_i (w_c8 x) (w_c8_lt x)
  unfold w_c8 at h ⊢
  rw [UInt8.ofNat_toNat, Int8.toInt8_toUInt8] at h
  exact h
def w_by (v : Int32) (k : Nat) : Nat := w_c8 (v >>> (nI k &&& 31))
def w_b4 (b : Nat → Nat) (n : Nat) (v : Int32) : Nat → Nat := va_up (va_up (va_up (va_up b n (w_by v 24)) (n + 1) (w_by v 16)) (n + 1 + 1) (w_by v 8)) (n + 1 + 1 + 1) (w_by v 0)
theorem w_by_s (v : Int32) (k : Nat) : vp_nar .byte (v >>> (nI k &&& 31)).toInt8.toInt32 = s8 (w_by v k) := w_c8_s _
theorem w_by_u {v : Int32} {k : Nat} (hk : k = 24 ∨ k = 16 ∨ k = 8 ∨ k = 0) : vp_nar .byte ((v.toUInt32 >>> ((nI k).toUInt32 &&& Int32.toUInt32 31)).toInt32).toInt8.toInt32 = s8 (w_by v k) := by rw [w_sh hk]; exact w_by_s v k
theorem w_ups {b : Nat → Nat} {n c : Nat} : upd (fun i => s8 (b i)) n (s8 c) = fun i => s8 (va_up b n c i) := by
  funext i
  unfold upd va_up
  by_cases e : i = n
  · rw [if_pos e, if_pos e]
  · rw [if_neg e, if_neg e]
theorem w_upb {b : Nat → Nat} {n c : Nat} (h : ∀ i, b i < 256) (hc : c < 256) : ∀ i, va_up b n c i < 256 := by
  intro i
  unfold va_up
  by_cases e : i = n
  · rw [if_pos e]; exact hc
  · rw [if_neg e]; exact h i
theorem w_b4_lt {b : Nat → Nat} {n : Nat} {v : Int32} (h : ∀ i, b i < 256) : ∀ i, w_b4 b n v i < 256 := w_upb (w_upb (w_upb (w_upb h (w_c8_lt _)) (w_c8_lt _)) (w_c8_lt _)) (w_c8_lt _)
theorem w_upm {B : Nat → Int32} {b : Nat → Nat} {n c : Nat} (h : ∀ i, i < 600 → B i = s8 (b i)) : ∀ i, i < 600 → upd B n (s8 c) i = s8 (va_up b n c i) := by
  intro i hi
  unfold upd va_up
  by_cases e : i = n
  · rw [if_pos e, if_pos e]
  · rw [if_neg e, if_neg e]; exact h i hi
