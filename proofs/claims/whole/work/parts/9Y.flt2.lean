/-! floats: by powers of two, comparisons, the fraction -/
theorem f_log46 {c : Nat} (h1 : 8388608 ≤ c) (h2 : c < 16777216) : (c * 8388608).log2 = 46 := by
  have h : c * 8388608 ≠ 0 := by omega
  rw [Nat.log2_eq_iff h]
  exact ⟨by omega, by omega⟩
theorem f_mulp {x y : UInt32} {c : Nat} {q r : Int} (h : f_nm x c q) (hy : FP.Core.decode FP.Core.b32 y.toNat = .fin false 8388608 r) (h5 : -149 ≤ q + r + 23) (h6 : q + r + 23 ≤ 104) : f_nm (FP.fmul x y) c (q + r + 23) := by
  have hdec := h.dec
  obtain ⟨-, h1, h2, h3, h4⟩ := h
  show f_nm (UInt32.ofNat (FP.Core.encode FP.Core.b32 (FP.Core.round FP.Core.b32 (FP.Core.exactProduct (FP.Core.decode FP.Core.b32 x.toNat) (FP.Core.decode FP.Core.b32 y.toNat))))) c (q + r + 23)
  rw [hdec, hy]
  show f_nm (UInt32.ofNat (FP.Core.encode FP.Core.b32 (FP.Core.roundRatio FP.Core.b32 false (c * 8388608) 1 (q + r)))) c (q + r + 23)
  rw [f_exact (c := c) (q := q + r + 23) (by omega) (f_quant (k := 46) (f_lead (by rw [f_log46 h1 h2]; decide) (by show 1 * 70368744177664 ≤ c * 8388608 * 1; omega)) (by omega) (by omega)) (by
    unfold FP.Core.unitsNum FP.Core.unitsDen
    rw [show (q + r - (q + r + 23)).toNat = 0 by omega, show (q + r + 23 - (q + r)).toNat = 23 by omega]
    show c * 8388608 * 1 = c * (1 * 8388608)
    omega) (by
    unfold FP.Core.unitsDen
    rw [show (q + r + 23 - (q + r)).toNat = 23 by omega]; decide) h2 h6]
  exact f_nm.of h1 h2 h5 h6
theorem f_dbl {x : UInt32} {c : Nat} {q : Int} (h : f_nm x c q) (hq : q ≤ 103) : f_nm (FP.fmul x FP.fconst2) c (q + 1) := by
  have := f_mulp (y := FP.fconst2) (r := -22) h (by decide) (by have := h.2.2.2.1; omega) (by omega)
  rw [show q + -22 + 23 = q + 1 by omega] at this
  exact this
theorem f_pow {d : Nat} (h : 1 ≤ d) : 2 ≤ 2 ^ d := by
  obtain ⟨k, rfl⟩ : ∃ k, d = k + 1 := ⟨d - 1, by omega⟩
  rw [Nat.pow_succ]
  have := Nat.two_pow_pos k
  omega
/-- against a power of two -/
theorem f_cmp {x y : UInt32} {c : Nat} {q r : Int} (h : f_nm x c q) (hy : FP.Core.decode FP.Core.b32 y.toNat = .fin false 8388608 r) : (q < r → FP.fcmp x y = some .lt) ∧ (r ≤ q → FP.fcmp x y = some .eq ∨ FP.fcmp x y = some .gt) := by
  have hdec := h.dec
  obtain ⟨-, h1, h2, h3, h4⟩ := h
  have he : FP.fcmp x y = some (compare ((c * 2 ^ (q - min q r).toNat : Nat) : Int) ((8388608 * 2 ^ (r - min q r).toNat : Nat) : Int)) := by
    show FP.Core.order (FP.Core.decode FP.Core.b32 x.toNat) (FP.Core.decode FP.Core.b32 y.toNat) = _
    rw [hdec, hy]
    rfl
  rw [he]
  constructor
  · intro hl
    rw [show min q r = q by omega, Int.sub_self]
    have hp := f_pow (d := (r - q).toNat) (by omega)
    have : compare ((c * 2 ^ (0 : Int).toNat : Nat) : Int) ((8388608 * 2 ^ (r - q).toNat : Nat) : Int) = .lt := by
      rw [Int.compare_eq_lt]
      have h0 : c * 2 ^ (0 : Int).toNat = c := Nat.mul_one c
      rw [h0]
      generalize 2 ^ (r - q).toNat = w at *
      omega
    rw [this]
  · intro hl
    rw [show min q r = r by omega, Int.sub_self]
    have hp := Nat.two_pow_pos (q - r).toNat
    generalize 2 ^ (q - r).toNat = w at *
    have hle : 8388608 * 2 ^ (0 : Int).toNat ≤ c * w := by
      show 8388608 * 1 ≤ c * w
      have := Nat.mul_le_mul h1 hp
      omega
    rcases Nat.lt_or_eq_of_le hle with c1 | c1
    · right
      rw [(Int.compare_eq_gt).mpr (by omega)]
    · left
      rw [← c1, (Int.compare_eq_eq).mpr rfl]
