/-! floats: the fraction -/
def f_23 : UInt32 := 1258291200
theorem f_frac0 {x : UInt32} (h : f_nm x 8388608 (-23)) : FP.fsub x FP.fconst1 = 0 := by
  have hx : x = FP.fconst1 := by
    apply UInt32.toNat_inj.mp
    rw [h.1]
    decide
  subst hx
  decide
theorem f_frac1 {x : UInt32} {c L : Nat} (h : f_nm x c (-23)) (hc : 8388608 < c) (hL : (c - 8388608).log2 = L) : f_nm (FP.fsub x FP.fconst1) ((c - 8388608) * 2 ^ (23 - L)) ((L : Int) - 46) ∧ L < 23 := by
  have hdec := h.dec
  obtain ⟨-, h1, h2, h3, h4⟩ := h
  obtain ⟨t, ht⟩ : ∃ t, t = c - 8388608 := ⟨_, rfl⟩
  rw [← ht] at hL ⊢
  have ht0 : t ≠ 0 := by omega
  obtain ⟨l1, l2⟩ := (Nat.log2_eq_iff ht0).mp hL
  have hL23 : L < 23 := by
    rcases Nat.lt_or_ge L 23 with c1 | c1
    · exact c1
    · have : 2 ^ 23 ≤ 2 ^ L := Nat.pow_le_pow_right (by decide) c1
      omega
  have e1 : 2 ^ L * 2 ^ (23 - L) = 8388608 := by rw [← Nat.pow_add, show L + (23 - L) = 23 by omega]
  have e2 : 2 ^ (L + 1) * 2 ^ (23 - L) = 16777216 := by rw [← Nat.pow_add, show L + 1 + (23 - L) = 24 by omega]
  have hp := Nat.two_pow_pos (23 - L)
  have b1 : 8388608 ≤ t * 2 ^ (23 - L) := by rw [← e1]; exact Nat.mul_le_mul_right _ l1
  have b2 : t * 2 ^ (23 - L) < 16777216 := by rw [← e2]; exact Nat.mul_lt_mul_of_pos_right l2 hp
  refine ⟨?_, hL23⟩
  show f_nm (UInt32.ofNat (FP.Core.encode FP.Core.b32 (FP.Core.round FP.Core.b32 (FP.Core.exactSum (FP.Core.decode FP.Core.b32 x.toNat) (FP.Core.negate (FP.Core.decode FP.Core.b32 FP.fconst1.toNat)))))) _ _
  rw [hdec, show FP.Core.decode FP.Core.b32 FP.fconst1.toNat = .fin false 8388608 (-23) from by decide]
  have hs : FP.Core.exactSum (.fin false c (-23)) (FP.Core.negate (.fin false 8388608 (-23))) = .fin false t (-23) := by
    have hv : FP.Core.sumUnits false c (-23) true 8388608 (-23) (min (-23) (-23)) = (t : Int) := by
      show ((c * 2 ^ (0 : Int).toNat : Nat) : Int) + -((8388608 * 2 ^ (0 : Int).toNat : Nat) : Int) = _
      have h0 : c * 2 ^ (0 : Int).toNat = c := Nat.mul_one c
      have h8 : 8388608 * 2 ^ (0 : Int).toNat = 8388608 := rfl
      rw [h0, h8]
      omega
    show FP.Core.Datum.fin (FP.Core.sumSign false true (FP.Core.sumUnits false c (-23) true 8388608 (-23) (min (-23) (-23)))) (FP.Core.sumUnits false c (-23) true 8388608 (-23) (min (-23) (-23))).natAbs (min (-23) (-23)) = _
    rw [hv]
    unfold FP.Core.sumSign
    rw [if_neg (by omega), decide_eq_false (by omega)]
    rfl
  rw [hs]
  show f_nm (UInt32.ofNat (FP.Core.encode FP.Core.b32 (FP.Core.roundRatio FP.Core.b32 false t 1 (-23)))) _ _
  rw [f_exact (c := t * 2 ^ (23 - L)) (q := (L : Int) - 46) ht0 (f_quant (k := (L : Int)) (f_lead (by rw [hL]; show (L : Int) - ((0 : Nat) : Int) = L; omega) (by rw [show (-(L : Int)).toNat = 0 by omega, Int.toNat_natCast, Nat.one_mul, Nat.pow_zero, Nat.mul_one]; exact l1)) (by omega) (by omega)) (by
    unfold FP.Core.unitsNum FP.Core.unitsDen
    rw [show ((-23) - ((L : Int) - 46)).toNat = 23 - L by omega, show ((L : Int) - 46 - (-23)).toNat = 0 by omega]
    show _ = t * 2 ^ (23 - L) * 1
    omega) (by
    unfold FP.Core.unitsDen
    rw [show ((L : Int) - 46 - (-23)).toNat = 0 by omega]; decide) b2 (by omega)]
  exact f_nm.of b1 b2 (by omega) (by omega)
theorem f_n0 : vf_n32 0 := by unfold vf_n32; decide
theorem f_oi (n : Nat) : Int32.ofInt (n : Int) = nI n := rfl
theorem f_tr (c : Nat) (q : Int) : FP.Core.truncate false c q = ((c * 2 ^ q.toNat / 2 ^ (-q).toNat : Nat) : Int) := rfl
theorem f_toI {c t k : Nat} {q : Int} (hq : q = -(k : Int)) (hc : c = t * 2 ^ k) (ht : t < 2147483648) : FP.Core.toI (.fin false c q) = nI t := by
  unfold FP.Core.toI FP.Core.toInt
  dsimp only
  rw [f_tr, hq, show (-(k : Int)).toNat = 0 by omega, show (- -(k : Int)).toNat = k by omega, hc, Nat.pow_zero, Nat.mul_one, Nat.mul_div_cancel _ (Nat.two_pow_pos _)]
  have e1 : (min (2 ^ 31 - 1) (t : Int)) = (t : Int) := by omega
  have e2 : (max (-2 ^ 31) (t : Int)) = (t : Int) := by omega
  rw [e1, e2]
  exact f_oi t
theorem f_frac2 {x : UInt32} {c : Nat} (h : f_nm x c (-23)) (hc : 8388608 < c) : vf_n32 (FP.fsub x FP.fconst1) ∧ vf_n32 (FP.fmul (FP.fsub x FP.fconst1) f_23) ∧ FP.f2i (FP.fmul (FP.fsub x FP.fconst1) f_23) = nI (c - 8388608) := by
  obtain ⟨L, hL⟩ : ∃ L, (c - 8388608).log2 = L := ⟨_, rfl⟩
  obtain ⟨hy, hL23⟩ := f_frac1 h hc hL
  have hz := f_mulp (y := f_23) (r := 0) hy (by decide) (by omega) (by omega)
  refine ⟨hy.n32, hz.n32, ?_⟩
  show FP.Core.toI (FP.Core.decode FP.Core.b32 (FP.fmul (FP.fsub x FP.fconst1) f_23).toNat) = _
  rw [hz.dec]
  exact f_toI (k := 23 - L) (by omega) rfl (by have := h.2.2.1; omega)
theorem f_frac3 : vf_n32 0 ∧ vf_n32 (FP.fmul 0 f_23) ∧ FP.f2i (FP.fmul 0 f_23) = nI 0 := by
  unfold vf_n32
  decide
/-- the fraction as a number -/
theorem f_frac {x : UInt32} {c : Nat} (h : f_nm x c (-23)) : vf_n32 (FP.fsub x FP.fconst1) ∧ vf_n32 (FP.fmul (FP.fsub x FP.fconst1) f_23) ∧ FP.f2i (FP.fmul (FP.fsub x FP.fconst1) f_23) = nI (c - 8388608) := by
  rcases Nat.lt_or_eq_of_le h.2.1 with hc | hc
  · exact f_frac2 h hc
  · rw [← hc] at h
    rw [f_frac0 h, ← hc, Nat.sub_self]
    exact f_frac3
