/-! floats: rounding, quotients, whole numbers (32 and 64 bits) -/
theorem f_near_b {num den lo hi : Nat} (hd : 0 < den) (h1 : lo * den ≤ num) (h2 : num < hi * den) : lo ≤ FP.Core.nearest num den ∧ FP.Core.nearest num den ≤ hi := by
  have a1 : lo ≤ num / den := (Nat.le_div_iff_mul_le hd).mpr h1
  have a2 : num / den < hi := (Nat.div_lt_iff_lt_mul hd).mpr h2
  unfold FP.Core.nearest
  by_cases c1 : 2 * (num % den) < den
  · rw [if_pos c1]; omega
  · rw [if_neg c1]
    by_cases c2 : den < 2 * (num % den)
    · rw [if_pos c2]; omega
    · rw [if_neg c2]; omega
/-- rounding that stays within the normal numbers -/
theorem f_round {A B : Nat} {e Q : Int} (hA : A ≠ 0) (hQ : FP.Core.quantum FP.Core.b32 A B e = Q) (hd : 0 < FP.Core.unitsDen B e Q) (h1 : 8388608 * FP.Core.unitsDen B e Q ≤ FP.Core.unitsNum A e Q) (h2 : FP.Core.unitsNum A e Q < 16777216 * FP.Core.unitsDen B e Q) (h3 : -149 ≤ Q) (h4 : Q ≤ 103) : ∃ (c : Nat) (q : Int), f_nm (UInt32.ofNat (FP.Core.encode FP.Core.b32 (FP.Core.roundRatio FP.Core.b32 false A B e))) c q ∧ Q ≤ q ∧ q ≤ Q + 1 := by
  obtain ⟨b1, b2⟩ := f_near_b hd h1 h2
  unfold FP.Core.roundRatio
  rw [if_neg hA, hQ]
  unfold FP.Core.roundAt
  generalize FP.Core.nearest (FP.Core.unitsNum A e Q) (FP.Core.unitsDen B e Q) = N at *
  have hs : FP.Core.settle FP.Core.b32 false N Q = if N < 16777216 then (if Q ≤ 104 then FP.Core.Datum.fin false N Q else .inf false) else (if Q + 1 ≤ 104 then FP.Core.Datum.fin false 8388608 (Q + 1) else .inf false) := rfl
  rw [hs]
  by_cases c1 : N < 16777216
  · rw [if_pos c1, if_pos (by omega)]
    exact ⟨N, Q, f_nm.of b1 c1 h3 (by omega), by omega, by omega⟩
  · rw [if_neg c1, if_pos (by omega)]
    exact ⟨8388608, Q + 1, f_nm.of (by omega) (by omega) (by omega) (by omega), by omega, by omega⟩
theorem f_div {x y : UInt32} {c d : Nat} {q r : Int} (h : f_nm x c q) (h' : f_nm y d r) (h3 : -149 ≤ q - r - 24) (h4 : q - r - 23 ≤ 103) : ∃ (c1 : Nat) (q1 : Int), f_nm (FP.fdiv x y) c1 q1 ∧ q - r - 24 ≤ q1 ∧ q1 ≤ q - r - 23 + 1 := by
  have hdec := h.dec
  have hdec' := h'.dec
  obtain ⟨-, a1, a2, a3, a4⟩ := h
  obtain ⟨-, e1, e2, e3, e4⟩ := h'
  have hx : FP.fdiv x y = UInt32.ofNat (FP.Core.encode FP.Core.b32 (FP.Core.roundRatio FP.Core.b32 false c d (q - r))) := by
    show UInt32.ofNat (FP.Core.encode FP.Core.b32 (FP.Core.quotient FP.Core.b32 (FP.Core.decode FP.Core.b32 x.toNat) (FP.Core.decode FP.Core.b32 y.toNat))) = _
    rw [hdec, hdec']
    show UInt32.ofNat (FP.Core.encode FP.Core.b32 (if d = 0 then (if c = 0 then FP.Core.Datum.nan else .inf false) else FP.Core.roundRatio FP.Core.b32 false c d (q - r))) = _
    rw [if_neg (by omega)]
  rw [hx]
  have hld : FP.Core.leading c d = if d ≤ c then 0 else -1 := by
    unfold FP.Core.leading
    rw [f_log a1 a2, f_log e1 e2, show ((23 : Nat) : Int) - ((23 : Nat) : Int) = 0 by omega]
    show (if d * 1 ≤ c * 1 then (0 : Int) else 0 - 1) = _
    rw [Nat.mul_one, Nat.mul_one]
    rfl
  by_cases cc : d ≤ c
  · rw [if_pos cc] at hld
    have hQ : FP.Core.quantum FP.Core.b32 c d (q - r) = q - r - 23 := by
      unfold FP.Core.quantum
      rw [hld]
      show max (-149) (0 + (q - r) - ((24 : Int) - 1)) = _
      omega
    have n1 : FP.Core.unitsNum c (q - r) (q - r - 23) = c * 8388608 := by
      unfold FP.Core.unitsNum
      rw [show (q - r - (q - r - 23)).toNat = 23 by omega]
    have n2 : FP.Core.unitsDen d (q - r) (q - r - 23) = d := by
      unfold FP.Core.unitsDen
      rw [show (q - r - 23 - (q - r)).toNat = 0 by omega]
      exact Nat.mul_one d
    obtain ⟨c1, q1, k1, k2, k3⟩ := f_round (by omega) hQ (by rw [n2]; omega) (by rw [n1, n2]; omega) (by rw [n1, n2]; omega) (by omega) (by omega)
    exact ⟨c1, q1, k1, by omega, by omega⟩
  · rw [if_neg cc] at hld
    have hQ : FP.Core.quantum FP.Core.b32 c d (q - r) = q - r - 24 := by
      unfold FP.Core.quantum
      rw [hld]
      show max (-149) (-1 + (q - r) - ((24 : Int) - 1)) = _
      omega
    have n1 : FP.Core.unitsNum c (q - r) (q - r - 24) = c * 16777216 := by
      unfold FP.Core.unitsNum
      rw [show (q - r - (q - r - 24)).toNat = 24 by omega]
    have n2 : FP.Core.unitsDen d (q - r) (q - r - 24) = d := by
      unfold FP.Core.unitsDen
      rw [show (q - r - 24 - (q - r)).toNat = 0 by omega]
      exact Nat.mul_one d
    obtain ⟨c1, q1, k1, k2, k3⟩ := f_round (by omega) hQ (by rw [n2]; omega) (by rw [n1, n2]; omega) (by rw [n1, n2]; omega) (by omega) (by omega)
    exact ⟨c1, q1, k1, by omega, by omega⟩
/-- a whole number times a power of two, rounded -/
theorem f_int {n : Nat} {e : Int} (h0 : 0 < n) (h1 : n < 2147483648) (h3 : -149 ≤ e - 23) (h4 : e + 31 - 23 ≤ 103) : ∃ (c : Nat) (q : Int), f_nm (UInt32.ofNat (FP.Core.encode FP.Core.b32 (FP.Core.roundRatio FP.Core.b32 false n 1 e))) c q ∧ e - 23 ≤ q ∧ q ≤ e + 31 - 23 := by
  obtain ⟨L, hL⟩ : ∃ L, n.log2 = L := ⟨_, rfl⟩
  obtain ⟨l1, l2⟩ := (Nat.log2_eq_iff (by omega)).mp hL
  have hL30 : L < 31 := by
    rcases Nat.lt_or_ge L 31 with c1 | c1
    · exact c1
    · have : 2 ^ 31 ≤ 2 ^ L := Nat.pow_le_pow_right (by decide) c1
      omega
  have hQ : FP.Core.quantum FP.Core.b32 n 1 e = (L : Int) + e - 23 := by
    unfold FP.Core.quantum
    have hlog1 : (1 : Nat).log2 = 0 := by decide
    rw [f_lead (k := (L : Int)) (by rw [hL, hlog1]; omega) (by rw [show (-(L : Int)).toNat = 0 by omega, Int.toNat_natCast, Nat.one_mul, Nat.pow_zero, Nat.mul_one]; exact l1)]
    show max (-149) ((L : Int) + e - ((24 : Int) - 1)) = _
    omega
  have hp := Nat.two_pow_pos (L - 23)
  have n1 : FP.Core.unitsNum n e ((L : Int) + e - 23) = n * 2 ^ (23 - L) := by
    unfold FP.Core.unitsNum
    rw [show (e - ((L : Int) + e - 23)).toNat = 23 - L by omega]
  have n2 : FP.Core.unitsDen 1 e ((L : Int) + e - 23) = 2 ^ (L - 23) := by
    unfold FP.Core.unitsDen
    rw [show ((L : Int) + e - 23 - e).toNat = L - 23 by omega, Nat.one_mul]
  have e1 : 8388608 * 2 ^ (L - 23) = 2 ^ L * 2 ^ (23 - L) := by
    rw [show (8388608 : Nat) = 2 ^ 23 by decide, ← Nat.pow_add, ← Nat.pow_add, show 23 + (L - 23) = L + (23 - L) by omega]
  have e2 : 16777216 * 2 ^ (L - 23) = 2 ^ (L + 1) * 2 ^ (23 - L) := by
    rw [show (16777216 : Nat) = 2 ^ 24 by decide, ← Nat.pow_add, ← Nat.pow_add, show 24 + (L - 23) = L + 1 + (23 - L) by omega]
  obtain ⟨c1, q1, k1, k2, k3⟩ := f_round (by omega) hQ (by rw [n2]; exact hp) (by rw [n1, n2, e1]; exact Nat.mul_le_mul_right _ l1) (by rw [n1, n2, e2]; exact Nat.mul_lt_mul_of_pos_right l2 (Nat.two_pow_pos _)) (by omega) (by omega)
  exact ⟨c1, q1, k1, by omega, by omega⟩
theorem f_ofi {n : Nat} (h0 : 0 < n) (h1 : n < 2147483648) : ∃ (c : Nat) (q : Int), f_nm (FP.i2f (nI n)) c q ∧ -23 ≤ q ∧ q ≤ 31 - 23 := by
  have ht : (nI n).toInt = (n : Int) := nI_toInt h1
  obtain ⟨c, q, k1, k2, k3⟩ := f_int (e := 0) h0 h1 (by omega) (by omega)
  refine ⟨c, q, ?_, by omega, by omega⟩
  have hx : FP.i2f (nI n) = UInt32.ofNat (FP.Core.encode FP.Core.b32 (FP.Core.roundRatio FP.Core.b32 false n 1 0)) := by
    show UInt32.ofNat (FP.Core.encode FP.Core.b32 (FP.Core.roundRatio FP.Core.b32 (decide ((nI n).toInt < 0)) (nI n).toInt.natAbs 1 0)) = _
    rw [ht, decide_eq_false (by omega), Int.natAbs_natCast]
  rw [hx]
  exact k1
theorem f_cmp0 {x : UInt32} {c : Nat} {q : Int} (h : f_nm x c q) : FP.fcmp x 0 = some .gt := by
  have hdec := h.dec
  obtain ⟨-, h1, h2, h3, h4⟩ := h
  have he : FP.fcmp x 0 = some (compare ((c * 2 ^ (q - min q (-149)).toNat : Nat) : Int) ((0 * 2 ^ ((-149) - min q (-149)).toNat : Nat) : Int)) := by
    show FP.Core.order (FP.Core.decode FP.Core.b32 x.toNat) (FP.Core.decode FP.Core.b32 (0 : UInt32).toNat) = _
    rw [hdec, show FP.Core.decode FP.Core.b32 (0 : UInt32).toNat = .fin false 0 (-149) from by decide]
    rfl
  rw [he, Nat.zero_mul]
  have hp := Nat.two_pow_pos (q - min q (-149)).toNat
  have hm := Nat.mul_pos (show 0 < c by omega) hp
  rw [(Int.compare_eq_gt).mpr (by omega)]
theorem f_cmps {x : UInt32} {c : Nat} {q : Int} (h : f_nm x c q) : FP.fcmp x x = some .eq := by
  have hdec := h.dec
  show FP.Core.order (FP.Core.decode FP.Core.b32 x.toNat) (FP.Core.decode FP.Core.b32 x.toNat) = _
  rw [hdec]
  show some (compare ((c * 2 ^ (q - min q q).toNat : Nat) : Int) ((c * 2 ^ (q - min q q).toNat : Nat) : Int)) = _
  rw [(Int.compare_eq_eq).mpr rfl]
theorem f_cmp00 : FP.fcmp 0 0 = some .eq := by decide
theorem f_div0 {y : UInt32} {d : Nat} {r : Int} (h : f_nm y d r) : FP.fdiv 0 y = 0 := by
  have hdec := h.dec
  obtain ⟨-, h1, h2, h3, h4⟩ := h
  show UInt32.ofNat (FP.Core.encode FP.Core.b32 (FP.Core.quotient FP.Core.b32 (FP.Core.decode FP.Core.b32 (0 : UInt32).toNat) (FP.Core.decode FP.Core.b32 y.toNat))) = _
  rw [hdec, show FP.Core.decode FP.Core.b32 (0 : UInt32).toNat = .fin false 0 (-149) from by decide]
  show UInt32.ofNat (FP.Core.encode FP.Core.b32 (if d = 0 then (if 0 = 0 then FP.Core.Datum.nan else .inf false) else FP.Core.roundRatio FP.Core.b32 false 0 d (-149 - r))) = _
  rw [if_neg (by omega)]
  unfold FP.Core.roundRatio
  rw [if_pos rfl]
  decide
theorem f_ofi0 : FP.i2f (nI 0) = 0 := by decide

/-! the same for 64 bits -/
def d_en (c : Nat) (q : Int) : Nat := ((q + 1074).toNat + 1) * 4503599627370496 + (c - 4503599627370496)
theorem d_en_lt {c : Nat} {q : Int} (h2 : c < 9007199254740992) (h4 : q ≤ 971) : d_en c q < 9218868437227405312 := by unfold d_en; omega
theorem d_enc {c : Nat} {q : Int} (hc : 4503599627370496 ≤ c) : FP.Core.encode FP.Core.b64 (.fin false c q) = d_en c q := by
  show (if c < 4503599627370496 then FP.Core.assemble FP.Core.b64 false 0 c else FP.Core.assemble FP.Core.b64 false ((q - (-1074)).toNat + 1) (c - 4503599627370496)) = _
  rw [if_neg (by omega)]
  show (0 * 2048 + ((q - (-1074)).toNat + 1)) * 4503599627370496 + (c - 4503599627370496) = _
  unfold d_en
  rw [show q - (-1074) = q + 1074 by omega, Nat.zero_mul, Nat.zero_add]
theorem d_dec {c : Nat} {q : Int} (h1 : 4503599627370496 ≤ c) (h2 : c < 9007199254740992) (h3 : -1074 ≤ q) (h4 : q ≤ 971) : FP.Core.decode FP.Core.b64 (d_en c q) = .fin false c q := by
  have hT : d_en c q % 4503599627370496 = c - 4503599627370496 := by unfold d_en; omega
  have hD : d_en c q / 4503599627370496 = (q + 1074).toNat + 1 := by unfold d_en; omega
  show (if d_en c q / 4503599627370496 % 2048 = 2047 then (if d_en c q % 4503599627370496 = 0 then FP.Core.Datum.inf (d_en c q / 4503599627370496 / 2048 % 2 == 1) else .nan) else if d_en c q / 4503599627370496 % 2048 = 0 then .fin (d_en c q / 4503599627370496 / 2048 % 2 == 1) (d_en c q % 4503599627370496) (-1074) else .fin (d_en c q / 4503599627370496 / 2048 % 2 == 1) (4503599627370496 + d_en c q % 4503599627370496) (-1074 + (((d_en c q / 4503599627370496 % 2048 : Nat) : Int) - 1))) = _
  rw [hT, hD, if_neg (by omega), if_neg (by omega), show ((q + 1074).toNat + 1) / 2048 % 2 = 0 by omega, show 4503599627370496 + (c - 4503599627370496) = c by omega, show (-1074 + (((((q + 1074).toNat + 1) % 2048 : Nat) : Int) - 1)) = q by omega]
  rfl
theorem d_log {c : Nat} (h1 : 4503599627370496 ≤ c) (h2 : c < 9007199254740992) : c.log2 = 52 := by
  have h : c ≠ 0 := by omega
  rw [Nat.log2_eq_iff h]
  exact ⟨h1, h2⟩
def d_nm (x : UInt64) (c : Nat) (q : Int) : Prop := x.toNat = d_en c q ∧ 4503599627370496 ≤ c ∧ c < 9007199254740992 ∧ -1074 ≤ q ∧ q ≤ 971
theorem d_nm.dec {x : UInt64} {c : Nat} {q : Int} (h : d_nm x c q) : FP.Core.decode FP.Core.b64 x.toNat = .fin false c q := by rw [h.1]; exact d_dec h.2.1 h.2.2.1 h.2.2.2.1 h.2.2.2.2
theorem d_nm.of {c : Nat} {q : Int} (h1 : 4503599627370496 ≤ c) (h2 : c < 9007199254740992) (h3 : -1074 ≤ q) (h4 : q ≤ 971) : d_nm (UInt64.ofNat (FP.Core.encode FP.Core.b64 (.fin false c q))) c q := by
  refine ⟨?_, h1, h2, h3, h4⟩
  rw [d_enc h1, UInt64.toNat_ofNat']
  have := d_en_lt h2 h4
  omega
theorem d_nm.n64 {x : UInt64} {c : Nat} {q : Int} (h : d_nm x c q) : vf_n64 x := by
  unfold vf_n64
  rw [UInt64.le_iff_toNat_le, UInt64.toNat_and, h.1]
  have h1 : (0x7fffffffffffffff : UInt64).toNat = 2 ^ 63 - 1 := by decide
  have h2 : (0x7ff0000000000000 : UInt64).toNat = 9218868437227405312 := by decide
  rw [h1, h2, Nat.and_two_pow_sub_one_eq_mod]
  have := d_en_lt h.2.2.1 h.2.2.2.2
  omega
theorem d_lead {A B : Nat} {k : Int} (hk : (A.log2 : Int) - (B.log2 : Int) = k) (h : B * 2 ^ k.toNat ≤ A * 2 ^ (-k).toNat) : FP.Core.leading A B = k := f_lead hk h
theorem d_n0 : vf_n64 0 := by unfold vf_n64; decide
theorem d_near_b {num den lo hi : Nat} (hd : 0 < den) (h1 : lo * den ≤ num) (h2 : num < hi * den) : lo ≤ FP.Core.nearest num den ∧ FP.Core.nearest num den ≤ hi := by
  have a1 : lo ≤ num / den := (Nat.le_div_iff_mul_le hd).mpr h1
  have a2 : num / den < hi := (Nat.div_lt_iff_lt_mul hd).mpr h2
  unfold FP.Core.nearest
  by_cases c1 : 2 * (num % den) < den
  · rw [if_pos c1]; omega
  · rw [if_neg c1]
    by_cases c2 : den < 2 * (num % den)
    · rw [if_pos c2]; omega
    · rw [if_neg c2]; omega
/-- rounding that stays within the normal numbers -/
theorem d_round {A B : Nat} {e Q : Int} (hA : A ≠ 0) (hQ : FP.Core.quantum FP.Core.b64 A B e = Q) (hd : 0 < FP.Core.unitsDen B e Q) (h1 : 4503599627370496 * FP.Core.unitsDen B e Q ≤ FP.Core.unitsNum A e Q) (h2 : FP.Core.unitsNum A e Q < 9007199254740992 * FP.Core.unitsDen B e Q) (h3 : -1074 ≤ Q) (h4 : Q ≤ 970) : ∃ (c : Nat) (q : Int), d_nm (UInt64.ofNat (FP.Core.encode FP.Core.b64 (FP.Core.roundRatio FP.Core.b64 false A B e))) c q ∧ Q ≤ q ∧ q ≤ Q + 1 := by
  obtain ⟨b1, b2⟩ := d_near_b hd h1 h2
  unfold FP.Core.roundRatio
  rw [if_neg hA, hQ]
  unfold FP.Core.roundAt
  generalize FP.Core.nearest (FP.Core.unitsNum A e Q) (FP.Core.unitsDen B e Q) = N at *
  have hs : FP.Core.settle FP.Core.b64 false N Q = if N < 9007199254740992 then (if Q ≤ 971 then FP.Core.Datum.fin false N Q else .inf false) else (if Q + 1 ≤ 971 then FP.Core.Datum.fin false 4503599627370496 (Q + 1) else .inf false) := rfl
  rw [hs]
  by_cases c1 : N < 9007199254740992
  · rw [if_pos c1, if_pos (by omega)]
    exact ⟨N, Q, d_nm.of b1 c1 h3 (by omega), by omega, by omega⟩
  · rw [if_neg c1, if_pos (by omega)]
    exact ⟨4503599627370496, Q + 1, d_nm.of (by omega) (by omega) (by omega) (by omega), by omega, by omega⟩
theorem d_div {x y : UInt64} {c d : Nat} {q r : Int} (h : d_nm x c q) (h' : d_nm y d r) (h3 : -1074 ≤ q - r - 53) (h4 : q - r - 52 ≤ 970) : ∃ (c1 : Nat) (q1 : Int), d_nm (FP.ddiv x y) c1 q1 ∧ q - r - 53 ≤ q1 ∧ q1 ≤ q - r - 52 + 1 := by
  have hdec := h.dec
  have hdec' := h'.dec
  obtain ⟨-, a1, a2, a3, a4⟩ := h
  obtain ⟨-, e1, e2, e3, e4⟩ := h'
  have hx : FP.ddiv x y = UInt64.ofNat (FP.Core.encode FP.Core.b64 (FP.Core.roundRatio FP.Core.b64 false c d (q - r))) := by
    show UInt64.ofNat (FP.Core.encode FP.Core.b64 (FP.Core.quotient FP.Core.b64 (FP.Core.decode FP.Core.b64 x.toNat) (FP.Core.decode FP.Core.b64 y.toNat))) = _
    rw [hdec, hdec']
    show UInt64.ofNat (FP.Core.encode FP.Core.b64 (if d = 0 then (if c = 0 then FP.Core.Datum.nan else .inf false) else FP.Core.roundRatio FP.Core.b64 false c d (q - r))) = _
    rw [if_neg (by omega)]
  rw [hx]
  have hld : FP.Core.leading c d = if d ≤ c then 0 else -1 := by
    unfold FP.Core.leading
    rw [d_log a1 a2, d_log e1 e2, show ((52 : Nat) : Int) - ((52 : Nat) : Int) = 0 by omega]
    show (if d * 1 ≤ c * 1 then (0 : Int) else 0 - 1) = _
    rw [Nat.mul_one, Nat.mul_one]
    rfl
  by_cases cc : d ≤ c
  · rw [if_pos cc] at hld
    have hQ : FP.Core.quantum FP.Core.b64 c d (q - r) = q - r - 52 := by
      unfold FP.Core.quantum
      rw [hld]
      show max (-1074) (0 + (q - r) - ((53 : Int) - 1)) = _
      omega
    have n1 : FP.Core.unitsNum c (q - r) (q - r - 52) = c * 4503599627370496 := by
      unfold FP.Core.unitsNum
      rw [show (q - r - (q - r - 52)).toNat = 52 by omega]
    have n2 : FP.Core.unitsDen d (q - r) (q - r - 52) = d := by
      unfold FP.Core.unitsDen
      rw [show (q - r - 52 - (q - r)).toNat = 0 by omega]
      exact Nat.mul_one d
    obtain ⟨c1, q1, k1, k2, k3⟩ := d_round (by omega) hQ (by rw [n2]; omega) (by rw [n1, n2]; omega) (by rw [n1, n2]; omega) (by omega) (by omega)
    exact ⟨c1, q1, k1, by omega, by omega⟩
  · rw [if_neg cc] at hld
    have hQ : FP.Core.quantum FP.Core.b64 c d (q - r) = q - r - 53 := by
      unfold FP.Core.quantum
      rw [hld]
      show max (-1074) (-1 + (q - r) - ((53 : Int) - 1)) = _
      omega
    have n1 : FP.Core.unitsNum c (q - r) (q - r - 53) = c * 9007199254740992 := by
      unfold FP.Core.unitsNum
      rw [show (q - r - (q - r - 53)).toNat = 53 by omega]
    have n2 : FP.Core.unitsDen d (q - r) (q - r - 53) = d := by
      unfold FP.Core.unitsDen
      rw [show (q - r - 53 - (q - r)).toNat = 0 by omega]
      exact Nat.mul_one d
    obtain ⟨c1, q1, k1, k2, k3⟩ := d_round (by omega) hQ (by rw [n2]; omega) (by rw [n1, n2]; omega) (by rw [n1, n2]; omega) (by omega) (by omega)
    exact ⟨c1, q1, k1, by omega, by omega⟩
/-- a whole number times a power of two, rounded -/
theorem d_int {n : Nat} {e : Int} (h0 : 0 < n) (h1 : n < 2147483648) (h3 : -1074 ≤ e - 52) (h4 : e + 31 - 52 ≤ 970) : ∃ (c : Nat) (q : Int), d_nm (UInt64.ofNat (FP.Core.encode FP.Core.b64 (FP.Core.roundRatio FP.Core.b64 false n 1 e))) c q ∧ e - 52 ≤ q ∧ q ≤ e + 31 - 52 := by
  obtain ⟨L, hL⟩ : ∃ L, n.log2 = L := ⟨_, rfl⟩
  obtain ⟨l1, l2⟩ := (Nat.log2_eq_iff (by omega)).mp hL
  have hL30 : L < 31 := by
    rcases Nat.lt_or_ge L 31 with c1 | c1
    · exact c1
    · have : 2 ^ 31 ≤ 2 ^ L := Nat.pow_le_pow_right (by decide) c1
      omega
  have hQ : FP.Core.quantum FP.Core.b64 n 1 e = (L : Int) + e - 52 := by
    unfold FP.Core.quantum
    have hlog1 : (1 : Nat).log2 = 0 := by decide
    rw [d_lead (k := (L : Int)) (by rw [hL, hlog1]; omega) (by rw [show (-(L : Int)).toNat = 0 by omega, Int.toNat_natCast, Nat.one_mul, Nat.pow_zero, Nat.mul_one]; exact l1)]
    show max (-1074) ((L : Int) + e - ((53 : Int) - 1)) = _
    omega
  have hp := Nat.two_pow_pos (L - 52)
  have n1 : FP.Core.unitsNum n e ((L : Int) + e - 52) = n * 2 ^ (52 - L) := by
    unfold FP.Core.unitsNum
    rw [show (e - ((L : Int) + e - 52)).toNat = 52 - L by omega]
  have n2 : FP.Core.unitsDen 1 e ((L : Int) + e - 52) = 2 ^ (L - 52) := by
    unfold FP.Core.unitsDen
    rw [show ((L : Int) + e - 52 - e).toNat = L - 52 by omega, Nat.one_mul]
  have e1 : 4503599627370496 * 2 ^ (L - 52) = 2 ^ L * 2 ^ (52 - L) := by
    rw [show (4503599627370496 : Nat) = 2 ^ 52 by decide, ← Nat.pow_add, ← Nat.pow_add, show 52 + (L - 52) = L + (52 - L) by omega]
  have e2 : 9007199254740992 * 2 ^ (L - 52) = 2 ^ (L + 1) * 2 ^ (52 - L) := by
    rw [show (9007199254740992 : Nat) = 2 ^ 53 by decide, ← Nat.pow_add, ← Nat.pow_add, show 53 + (L - 52) = L + 1 + (52 - L) by omega]
  obtain ⟨c1, q1, k1, k2, k3⟩ := d_round (by omega) hQ (by rw [n2]; exact hp) (by rw [n1, n2, e1]; exact Nat.mul_le_mul_right _ l1) (by rw [n1, n2, e2]; exact Nat.mul_lt_mul_of_pos_right l2 (Nat.two_pow_pos _)) (by omega) (by omega)
  exact ⟨c1, q1, k1, by omega, by omega⟩
theorem d_ofi {n : Nat} (h0 : 0 < n) (h1 : n < 2147483648) : ∃ (c : Nat) (q : Int), d_nm (FP.i2d (nI n)) c q ∧ -52 ≤ q ∧ q ≤ 31 - 52 := by
  have ht : (nI n).toInt = (n : Int) := nI_toInt h1
  obtain ⟨c, q, k1, k2, k3⟩ := d_int (e := 0) h0 h1 (by omega) (by omega)
  refine ⟨c, q, ?_, by omega, by omega⟩
  have hx : FP.i2d (nI n) = UInt64.ofNat (FP.Core.encode FP.Core.b64 (FP.Core.roundRatio FP.Core.b64 false n 1 0)) := by
    show UInt64.ofNat (FP.Core.encode FP.Core.b64 (FP.Core.roundRatio FP.Core.b64 (decide ((nI n).toInt < 0)) (nI n).toInt.natAbs 1 0)) = _
    rw [ht, decide_eq_false (by omega), Int.natAbs_natCast]
  rw [hx]
  exact k1
theorem d_cmp0 {x : UInt64} {c : Nat} {q : Int} (h : d_nm x c q) : FP.dcmp x 0 = some .gt := by
  have hdec := h.dec
  obtain ⟨-, h1, h2, h3, h4⟩ := h
  have he : FP.dcmp x 0 = some (compare ((c * 2 ^ (q - min q (-1074)).toNat : Nat) : Int) ((0 * 2 ^ ((-1074) - min q (-1074)).toNat : Nat) : Int)) := by
    show FP.Core.order (FP.Core.decode FP.Core.b64 x.toNat) (FP.Core.decode FP.Core.b64 (0 : UInt64).toNat) = _
    rw [hdec, show FP.Core.decode FP.Core.b64 (0 : UInt64).toNat = .fin false 0 (-1074) from by decide]
    rfl
  rw [he, Nat.zero_mul]
  have hp := Nat.two_pow_pos (q - min q (-1074)).toNat
  have hm := Nat.mul_pos (show 0 < c by omega) hp
  rw [(Int.compare_eq_gt).mpr (by omega)]
theorem d_cmps {x : UInt64} {c : Nat} {q : Int} (h : d_nm x c q) : FP.dcmp x x = some .eq := by
  have hdec := h.dec
  show FP.Core.order (FP.Core.decode FP.Core.b64 x.toNat) (FP.Core.decode FP.Core.b64 x.toNat) = _
  rw [hdec]
  show some (compare ((c * 2 ^ (q - min q q).toNat : Nat) : Int) ((c * 2 ^ (q - min q q).toNat : Nat) : Int)) = _
  rw [(Int.compare_eq_eq).mpr rfl]
theorem d_cmp00 : FP.dcmp 0 0 = some .eq := by decide
theorem d_div0 {y : UInt64} {d : Nat} {r : Int} (h : d_nm y d r) : FP.ddiv 0 y = 0 := by
  have hdec := h.dec
  obtain ⟨-, h1, h2, h3, h4⟩ := h
  show UInt64.ofNat (FP.Core.encode FP.Core.b64 (FP.Core.quotient FP.Core.b64 (FP.Core.decode FP.Core.b64 (0 : UInt64).toNat) (FP.Core.decode FP.Core.b64 y.toNat))) = _
  rw [hdec, show FP.Core.decode FP.Core.b64 (0 : UInt64).toNat = .fin false 0 (-1074) from by decide]
  show UInt64.ofNat (FP.Core.encode FP.Core.b64 (if d = 0 then (if 0 = 0 then FP.Core.Datum.nan else .inf false) else FP.Core.roundRatio FP.Core.b64 false 0 d (-1074 - r))) = _
  rw [if_neg (by omega)]
  unfold FP.Core.roundRatio
  rw [if_pos rfl]
  decide
theorem d_ofi0 : FP.i2d (nI 0) = 0 := by decide
/-- a normal number of 32 bits as one of 64 -/
theorem d_of_f {x : UInt32} {c : Nat} {q : Int} (h : f_nm x c q) : ∃ (c1 : Nat) (q1 : Int), d_nm (FP.f2d x) c1 q1 := by
  have hdec := h.dec
  obtain ⟨-, h1, h2, h3, h4⟩ := h
  obtain ⟨c1, q1, k1, -, -⟩ := d_int (n := c) (e := q) (by omega) (by omega) (by omega) (by omega)
  refine ⟨c1, q1, ?_⟩
  have hx : FP.f2d x = UInt64.ofNat (FP.Core.encode FP.Core.b64 (FP.Core.roundRatio FP.Core.b64 false c 1 q)) := by
    have hn : FP.Core.fIsNaN x = false := by
      show decide (FP.Core.decode FP.Core.b32 x.toNat = .nan) = false
      rw [hdec]
      rfl
    unfold FP.f2d
    rw [hn, if_neg (by decide)]
    show UInt64.ofNat (FP.Core.encode FP.Core.b64 (FP.Core.round FP.Core.b64 (FP.Core.decode FP.Core.b32 x.toNat))) = _
    rw [hdec]
    rfl
  rw [hx]
  exact k1
theorem d_of_f0 : FP.f2d 0 = 0 := by decide
