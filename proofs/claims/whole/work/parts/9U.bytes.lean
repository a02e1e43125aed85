/-! bytes -/
theorem w_bk (x : BitVec 32) (k : Nat) (hk : k ≤ 24) : (x >>> k).signExtend 8 = (x.sshiftRight k).signExtend 8 := by
  apply BitVec.eq_of_getLsbD_eq
  intro i hi
  simp only [BitVec.getLsbD_signExtend, BitVec.getLsbD_ushiftRight, BitVec.getLsbD_sshiftRight]
  rw [if_pos (by omega), if_pos (by omega), if_pos (by omega), decide_eq_false (show ¬ 32 ≤ i by omega)]
  rfl
theorem w_sh {v : Int32} {k : Nat} (hk : k = 24 ∨ k = 16 ∨ k = 8 ∨ k = 0) : ((v.toUInt32 >>> ((nI k).toUInt32 &&& Int32.toUInt32 31)).toInt32).toInt8 = (v >>> (nI k &&& 31)).toInt8 := by
  apply Int8.toBitVec_inj.mp
  simp only [Int32.toBitVec_toInt8, UInt32.toBitVec_toInt32, UInt32.toBitVec_shiftRight, Int32.toBitVec_shiftRight, Int32.toBitVec_toUInt32]
  rcases hk with rfl | rfl | rfl | rfl
  · exact w_bk v.toBitVec 24 (by decide)
  · exact w_bk v.toBitVec 16 (by decide)
  · exact w_bk v.toBitVec 8 (by decide)
  · exact w_bk v.toBitVec 0 (by decide)
def w_c8 (x : Int32) : Nat := x.toInt8.toUInt8.toNat
theorem w_c8_lt (x : Int32) : w_c8 x < 256 := x.toInt8.toUInt8.toNat_lt
theorem w_c8_i : ∀ n, n < 256 → vp_nar .byte (UInt8.ofNat n).toInt8.toInt32 = s8 n := by decide +kernel
theorem w_c8_s (x : Int32) : vp_nar .byte x.toInt8.toInt32 = s8 (w_c8 x) := by
  have h := w_c8_i (w_c8 x) (w_c8_lt x)
  unfold w_c8 at h ⊢
  rw [UInt8.ofNat_toNat, Int8.toInt8_toUInt8] at h
  exact h
