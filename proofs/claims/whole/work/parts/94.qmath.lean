/-! the reference's sums against the stack of operators: mathematics, contracts -/
def q_fS (I I1 : Nat → Int32) : Prop := ∀ i, (i < 12 ∨ 15 < i) → I1 i = I i
def q_fI (I I1 : Nat → Int32) : Prop := ∀ i, (i < 12 ∨ 21 < i) → I1 i = I i
def q_fE (a : Nat) (A A1 : Nat → Nat → Int32) : Prop := (∀ i, i ≠ 7 → i ≠ 8 → A1 i = A i) ∧ (∀ k, k ≠ 2 + a → A1 7 k = A 7 k) ∧ ∀ k, (k < 620 * (2 + a) ∨ 620 * (2 + a) + 620 ≤ k) → A1 8 k = A 8 k
theorem q_fS.rf {I : Nat → Int32} : q_fS I I := fun _ _ => rfl
theorem q_fS.tr {I I1 I2 : Nat → Int32} (h : q_fS I I1) (h2 : q_fS I1 I2) : q_fS I I2 := fun i hi => (h2 i hi).trans (h i hi)
theorem q_fS.q {I I1 I2 : Nat → Int32} (h : q_fS I I1) (h2 : ∀ i, q_o i → I2 i = I1 i) : q_fS I I2 := fun i hi => (h2 i (by unfold q_o; omega)).trans (h i hi)
theorem q_fS.fI {I I1 : Nat → Int32} (h : q_fS I I1) : q_fI I I1 := fun i hi => h i (by omega)
theorem q_fI.tr {I I1 I2 : Nat → Int32} (h : q_fI I I1) (h2 : q_fI I1 I2) : q_fI I I2 := fun i hi => (h2 i hi).trans (h i hi)
theorem q_fI.er {I : Nat → Int32} {x y : Int32} : q_fI I (va_up (va_up I 16 x) 17 y) := fun i hi => by rw [va_ne (by omega), va_ne (by omega)]
theorem q_fI.op {I : Nat → Int32} {x : Int32} : q_fI I (va_up I 21 x) := fun i hi => by rw [va_ne (by omega)]
theorem q_fE.rf {a : Nat} {A : Nat → Nat → Int32} : q_fE a A A := ⟨fun _ _ _ => rfl, fun _ _ => rfl, fun _ _ => rfl⟩
theorem q_fE.tr {a : Nat} {A A1 A2 : Nat → Nat → Int32} (h : q_fE a A A1) (h2 : q_fE a A1 A2) : q_fE a A A2 := ⟨fun i x y => (h2.1 i x y).trans (h.1 i x y), fun k x => (h2.2.1 k x).trans (h.2.1 k x), fun k x => (h2.2.2 k x).trans (h.2.2 k x)⟩
def q_em (A : Nat → Nat → Int32) (a m : Nat) (c : Int32) : Nat → Nat → Int32 := va_up (va_up A 8 (upd (A 8) (620 * (2 + a) + m) c)) 7 (upd (A 7) (2 + a) (nI (m + 1)))
theorem q_fE.em {a m : Nat} {A : Nat → Nat → Int32} {c : Int32} (hm : m < 620) : q_fE a A (q_em A a m c) := by
  refine ⟨fun i h1 h2 => ?_, fun k hk => ?_, fun k hk => ?_⟩
  · unfold q_em va_up
    rw [if_neg h1, if_neg h2]
  · show upd (A 7) (2 + a) _ k = A 7 k
    exact upd_ne hk
  · show upd (A 8) (620 * (2 + a) + m) c k = A 8 k
    exact upd_ne (by omega)
def q_ex (A : Nat → Nat → Int32) (a : Nat) (u : List Int32) : Prop := A 7 (2 + a) = nI u.length ∧ ∀ (j : Nat) (x : Int32), u[j]? = some x → A 8 (620 * (2 + a) + j) = m_cd x
theorem q_ex.em {A : Nat → Nat → Int32} {a : Nat} {u : List Int32} {y : Int32} (h : q_ex A a u) : q_ex (q_em A a u.length (m_cd y)) a (u ++ [y]) := by
  refine ⟨?_, fun j x hj => ?_⟩
  · show upd (A 7) (2 + a) _ (2 + a) = _
    rw [upd_eq, List.length_append]
    rfl
  · show upd (A 8) (620 * (2 + a) + u.length) (m_cd y) (620 * (2 + a) + j) = m_cd x
    rcases Nat.lt_or_ge j u.length with q | q
    · rw [List.getElem?_append_left q] at hj
      rw [upd_ne (by omega)]
      exact h.2 j x hj
    · rw [List.getElem?_append_right q] at hj
      have hl := (List.getElem?_eq_some_iff.mp hj).1
      have hz : j = u.length := by simp at hl; omega
      subst hz
      rw [upd_eq]
      simp at hj
      rw [hj]
theorem m_cd_n {m : Nat} (h : m < 10000) : m_cd (nI m) = nI (100 + m) := by
  have key : ∀ x : Int32, x.toInt < 0 → nI m ≠ x := fun x hx e => by
    have := congrArg Int32.toInt e
    rw [nI_toInt (by omega)] at this
    omega
  unfold m_cd
  rw [if_neg (key _ (by decide)), if_neg (key _ (by decide)), if_neg (key _ (by decide)), if_neg (key _ (by decide)), if_neg (key _ (by decide)), if_neg (key _ (by decide)), if_neg (key _ (by decide)), if_neg (key _ (by decide)), if_neg (key _ (by decide))]
  show nI m + nI 100 = _
  rw [nI_add, Nat.add_comm]
theorem x_fl_id {r : Nat} {S : List Nat} {u : List Int32} (h : x_top S < r) : x_fl r S u = (S, u) := by
  cases S with
  | nil => rfl
  | cons c S =>
    rw [x_fl, if_neg (by have : t_rk c < r := h; omega)]
theorem x_fl_c {r c : Nat} {S : List Nat} {u : List Int32} (h : r ≤ t_rk c) : x_fl r (c :: S) u = x_fl r S (u ++ [-(nI c)]) := by rw [x_fl, if_pos h]
theorem x_fl_12 : ∀ (S : List Nat) (u : List Int32), x_fl 1 S u = x_fl 1 (x_fl 2 S u).1 (x_fl 2 S u).2
  | [], u => rfl
  | c :: S, u => by
    by_cases h : 2 ≤ t_rk c
    · rw [x_fl_c h, x_fl_c (show 1 ≤ t_rk c by omega)]
      exact x_fl_12 S _
    · rw [show x_fl 2 (c :: S) u = (c :: S, u) from x_fl_id (show t_rk c < 2 by omega)]
def q_RF (b : Nat → Nat) (n : Nat) (S : List Nat) (u : List Int32) (t : Tok) (u1 : List Int32) (t1 : Tok) : Prop := x_inv b n (false, S, u1, t1) ∧ kS t ≤ kS t1 ∧ ∀ z, x_fin b n (false, S, u1, t1) z → x_fin b n (true, S, u, t) z
def q_RT (b : Nat → Nat) (n : Nat) (S : List Nat) (u : List Int32) (t : Tok) (u1 : List Int32) (t1 : Tok) : Prop := ∃ (S2 : List Nat) (u2 : List Int32), x_inv b n (false, S2, u2, t1) ∧ kS t ≤ kS t1 ∧ x_fl 2 S2 u2 = (S, u1) ∧ t_rk (kK t1) ≠ 2 ∧ ∀ z, x_fin b n (false, S2, u2, t1) z → x_fin b n (true, S, u, t) z
def q_RS (b : Nat → Nat) (n : Nat) (S : List Nat) (u : List Int32) (t : Tok) (u1 : List Int32) (t1 : Tok) : Prop := ∃ (S2 : List Nat) (u2 : List Int32), x_inv b n (false, S2, u2, t1) ∧ kS t ≤ kS t1 ∧ x_fl 1 S2 u2 = (S, u1) ∧ t_rk (kK t1) = 0 ∧ ∀ z, x_fin b n (false, S2, u2, t1) z → x_fin b n (true, S, u, t) z
def q_post (E : bz_E) (L : List Nat) (g : Nat → va_E) (o : Nat) (I : Nat → Int32) (A : Nat → Nat → Int32) (a : Nat) (b : Nat → Nat) (n : Nat) (S : List Nat) (u : List Int32) (t : Tok) (R : List Int32 → Tok → Prop) : Option Value → (Nat → va_E) → Prop := fun r g1 =>
  (r = some (.int (nI 1)) ∧ ∃ (I1 : Nat → Int32) (A1 : Nat → Nat → Int32) (u1 : List Int32) (t1 : Tok), bz_B L g g1 [(o, b_Mod E o I1 A1)] ∧ q_tk I1 t1 ∧ q_fS I I1 ∧ I1 16 = nI 0 ∧ q_fE a A A1 ∧ q_ex A1 a u1 ∧ R u1 t1) ∨
  (r = some (.int (nI 0)) ∧ ∃ (I1 : Nat → Int32) (A1 : Nat → Nat → Int32) (e1 : Nat × Nat), bz_B L g g1 [(o, b_Mod E o I1 A1)] ∧ I1 16 = nI e1.1 ∧ I1 17 = nI e1.2 ∧ q_fI I I1 ∧ q_fE a A A1 ∧ x_fin b n (true, S, u, t) (.inr e1))
def q_pre (b : Nat → Nat) (n a : Nat) (S : List Nat) (u : List Int32) (t : Tok) (I : Nat → Int32) (A : Nat → Nat → Int32) : Prop := (∀ i, b i < 256) ∧ n ≤ 600 ∧ I 11 = nI n ∧ (∀ i, i < 600 → A 9 i = s8 (b i)) ∧ a < 2 ∧ I 20 = nI a ∧ I 16 = nI 0 ∧ I 21 = nI (x_open S) ∧ q_tk I t ∧ q_ex A a u ∧ x_inv b n (true, S, u, t)
def q_CF (l : Launch) (E : bz_E) (k : Nat) : Prop := ∀ {L : List Nat} {g : Nat → va_E} {o : Nat} {I : Nat → Int32} {A : Nat → Nat → Int32} {b : Nat → Nat} {n a : Nat} {S : List Nat} {u : List Int32} {t : Tok}, x_open S + k = 5 → q_pre b n a S u t I A → bz_H L g o (b_Mod E o I A) → bz_K l E mX9_factor (5 + 3 * k) [.ref o] L g (q_post E L g o I A a b n S u t (q_RF b n S u t))
def q_CT (l : Launch) (E : bz_E) (k : Nat) : Prop := ∀ {L : List Nat} {g : Nat → va_E} {o : Nat} {I : Nat → Int32} {A : Nat → Nat → Int32} {b : Nat → Nat} {n a : Nat} {S : List Nat} {u : List Int32} {t : Tok}, x_open S + k = 5 → x_top S < 2 → q_pre b n a S u t I A → bz_H L g o (b_Mod E o I A) → bz_K l E mX9_term (6 + 3 * k) [.ref o] L g (q_post E L g o I A a b n S u t (q_RT b n S u t))
def q_CS (l : Launch) (E : bz_E) (k : Nat) : Prop := ∀ {L : List Nat} {g : Nat → va_E} {o : Nat} {I : Nat → Int32} {A : Nat → Nat → Int32} {b : Nat → Nat} {n a : Nat} {S : List Nat} {u : List Int32} {t : Tok}, x_open S + k = 5 → x_top S < 1 → q_pre b n a S u t I A → bz_H L g o (b_Mod E o I A) → bz_K l E mX9_sum (7 + 3 * k) [.ref o] L g (q_post E L g o I A a b n S u t (q_RS b n S u t))
theorem x_open_op {c : Nat} {S : List Nat} (h : 0 < t_rk c) : x_open (c :: S) = x_open S := by
  rw [x_open_c, if_neg (fun q => by rw [q, t_rk_40] at h; omega)]
  rfl
theorem t_rk_2 {c : Nat} : t_rk c = 2 ↔ (c = 42 ∨ c = 47 ∨ c = 37) := by
  unfold t_rk
  by_cases h : c = 43 ∨ c = 45
  · rw [if_pos h]; omega
  · rw [if_neg h]
    by_cases h2 : c = 42 ∨ c = 47 ∨ c = 37
    · rw [if_pos h2]; omega
    · rw [if_neg h2]; omega
theorem t_rk_1 {c : Nat} : t_rk c = 1 ↔ (c = 43 ∨ c = 45) := by
  unfold t_rk
  by_cases h : c = 43 ∨ c = 45
  · rw [if_pos h]; omega
  · rw [if_neg h]
    by_cases h2 : c = 42 ∨ c = 47 ∨ c = 37
    · rw [if_pos h2]; omega
    · rw [if_neg h2]; omega
theorem x_fl_open {r : Nat} (hr : 1 ≤ r) : ∀ (S : List Nat) (u : List Int32), x_open (x_fl r S u).1 = x_open S
  | [], u => rfl
  | c :: S, u => by
    by_cases h : r ≤ t_rk c
    · rw [x_fl_c h, x_fl_open hr S _, x_open_op (by omega)]
    · rw [show x_fl r (c :: S) u = (c :: S, u) from x_fl_id (show t_rk c < r by omega)]
