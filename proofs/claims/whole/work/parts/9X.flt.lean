/-! floats: positive normal numbers of 32 bits -/
def f_en (c : Nat) (q : Int) : Nat := ((q + 149).toNat + 1) * 8388608 + (c - 8388608)
theorem f_en_lt {c : Nat} {q : Int} (h2 : c < 16777216) (h4 : q ≤ 104) : f_en c q < 2139095040 := by unfold f_en; omega
theorem f_enc {c : Nat} {q : Int} (hc : 8388608 ≤ c) : FP.Core.encode FP.Core.b32 (.fin false c q) = f_en c q := by
  show (if c < 8388608 then FP.Core.assemble FP.Core.b32 false 0 c else FP.Core.assemble FP.Core.b32 false ((q - (-149)).toNat + 1) (c - 8388608)) = _
  rw [if_neg (by omega)]
  show (0 * 256 + ((q - (-149)).toNat + 1)) * 8388608 + (c - 8388608) = _
  unfold f_en
  rw [show q - (-149) = q + 149 by omega, Nat.zero_mul, Nat.zero_add]
theorem f_dec {c : Nat} {q : Int} (h1 : 8388608 ≤ c) (h2 : c < 16777216) (h3 : -149 ≤ q) (h4 : q ≤ 104) : FP.Core.decode FP.Core.b32 (f_en c q) = .fin false c q := by
  have hT : f_en c q % 8388608 = c - 8388608 := by unfold f_en; omega
  have hD : f_en c q / 8388608 = (q + 149).toNat + 1 := by unfold f_en; omega
  show (if f_en c q / 8388608 % 256 = 255 then (if f_en c q % 8388608 = 0 then FP.Core.Datum.inf (f_en c q / 8388608 / 256 % 2 == 1) else .nan) else if f_en c q / 8388608 % 256 = 0 then .fin (f_en c q / 8388608 / 256 % 2 == 1) (f_en c q % 8388608) (-149) else .fin (f_en c q / 8388608 / 256 % 2 == 1) (8388608 + f_en c q % 8388608) (-149 + (((f_en c q / 8388608 % 256 : Nat) : Int) - 1))) = _
  rw [hT, hD, if_neg (by omega), if_neg (by omega), show ((q + 149).toNat + 1) / 256 % 2 = 0 by omega, show 8388608 + (c - 8388608) = c by omega, show (-149 + (((((q + 149).toNat + 1) % 256 : Nat) : Int) - 1)) = q by omega]
  rfl
theorem f_log {c : Nat} (h1 : 8388608 ≤ c) (h2 : c < 16777216) : c.log2 = 23 := by
  have h : c ≠ 0 := by omega
  rw [Nat.log2_eq_iff h]
  exact ⟨h1, h2⟩
/-- a positive normal number -/
def f_nm (x : UInt32) (c : Nat) (q : Int) : Prop := x.toNat = f_en c q ∧ 8388608 ≤ c ∧ c < 16777216 ∧ -149 ≤ q ∧ q ≤ 104
theorem f_nm.dec {x : UInt32} {c : Nat} {q : Int} (h : f_nm x c q) : FP.Core.decode FP.Core.b32 x.toNat = .fin false c q := by rw [h.1]; exact f_dec h.2.1 h.2.2.1 h.2.2.2.1 h.2.2.2.2
theorem f_nm.of {c : Nat} {q : Int} (h1 : 8388608 ≤ c) (h2 : c < 16777216) (h3 : -149 ≤ q) (h4 : q ≤ 104) : f_nm (UInt32.ofNat (FP.Core.encode FP.Core.b32 (.fin false c q))) c q := by
  refine ⟨?_, h1, h2, h3, h4⟩
  rw [f_enc h1, UInt32.toNat_ofNat']
  have := f_en_lt h2 h4
  omega
theorem f_nm.n32 {x : UInt32} {c : Nat} {q : Int} (h : f_nm x c q) : vf_n32 x := by
  unfold vf_n32
  rw [UInt32.le_iff_toNat_le, UInt32.toNat_and, h.1]
  have h1 : (0x7fffffff : UInt32).toNat = 2 ^ 31 - 1 := by decide
  have h2 : (0x7f800000 : UInt32).toNat = 2139095040 := by decide
  rw [h1, h2, Nat.and_two_pow_sub_one_eq_mod]
  have := f_en_lt h.2.2.1 h.2.2.2.2
  omega
theorem f_near (c K : Nat) (hK : 0 < K) : FP.Core.nearest (c * K) K = c := by
  unfold FP.Core.nearest
  rw [Nat.mul_mod_left, if_pos (by omega), Nat.mul_div_cancel c hK]
/-- what needs no rounding -/
theorem f_exact {A B c : Nat} {e q : Int} (hA : A ≠ 0) (hq : FP.Core.quantum FP.Core.b32 A B e = q) (hn : FP.Core.unitsNum A e q = c * FP.Core.unitsDen B e q) (hd : 0 < FP.Core.unitsDen B e q) (h2 : c < 16777216) (h4 : q ≤ 104) : FP.Core.roundRatio FP.Core.b32 false A B e = .fin false c q := by
  unfold FP.Core.roundRatio
  rw [if_neg hA, hq]
  unfold FP.Core.roundAt
  rw [hn, f_near _ _ hd]
  show (if c < 16777216 then (if q ≤ 104 then FP.Core.Datum.fin false c q else .inf false) else _) = _
  rw [if_pos h2, if_pos h4]
theorem f_lead {A B : Nat} {k : Int} (hk : (A.log2 : Int) - (B.log2 : Int) = k) (h : B * 2 ^ k.toNat ≤ A * 2 ^ (-k).toNat) : FP.Core.leading A B = k := by
  unfold FP.Core.leading
  rw [hk]
  exact if_pos h
theorem f_quant {A B : Nat} {e k q : Int} (hk : FP.Core.leading A B = k) (h : k + e - 23 = q) (h3 : -149 ≤ q) : FP.Core.quantum FP.Core.b32 A B e = q := by
  unfold FP.Core.quantum
  rw [hk]
  show max (-149) (k + e - ((24 : Int) - 1)) = q
  omega
theorem f_half {x : UInt32} {c : Nat} {q : Int} (h : f_nm x c q) (hq : -148 ≤ q) : f_nm (FP.fdiv x FP.fconst2) c (q - 1) := by
  have hdec := h.dec
  obtain ⟨-, h1, h2, h3, h4⟩ := h
  show f_nm (UInt32.ofNat (FP.Core.encode FP.Core.b32 (FP.Core.quotient FP.Core.b32 (FP.Core.decode FP.Core.b32 x.toNat) (FP.Core.decode FP.Core.b32 FP.fconst2.toNat)))) c (q - 1)
  rw [hdec, show FP.Core.decode FP.Core.b32 FP.fconst2.toNat = .fin false 8388608 (-22) from by decide]
  show f_nm (UInt32.ofNat (FP.Core.encode FP.Core.b32 (FP.Core.roundRatio FP.Core.b32 false c 8388608 (q - (-22))))) c (q - 1)
  rw [f_exact (c := c) (q := q - 1) (by omega) (f_quant (k := 0) (f_lead (by rw [f_log h1 h2]; decide) (by show 8388608 * 1 ≤ c * 1; omega)) (by omega) (by omega)) (by
    unfold FP.Core.unitsNum FP.Core.unitsDen
    rw [show (q - (-22) - (q - 1)).toNat = 23 by omega, show (q - 1 - (q - (-22))).toNat = 0 by omega]) (by
    unfold FP.Core.unitsDen
    rw [show (q - 1 - (q - (-22))).toNat = 0 by omega]; decide) h2 (by omega)]
  exact f_nm.of h1 h2 (by omega) (by omega)
