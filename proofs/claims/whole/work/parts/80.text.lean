/-! THE TEXT OF A BRIDGE AS MATHEMATICS. Bytes b : Nat → Nat, n of them. A token: what it is (0 end, 1 invalid, 2 word, 3 number, else its sign), where it starts, where the next may start, its number. -/
def s8 (b : Nat) : Int32 := if b < 128 then nI b else nI b - nI 256
abbrev Tok : Type := Nat × Nat × Nat × Nat
abbrev kK (t : Tok) : Nat := t.1
abbrev kS (t : Tok) : Nat := t.2.1
abbrev kE (t : Tok) : Nat := t.2.2.1
abbrev kN (t : Tok) : Nat := t.2.2.2
def t_sp (c : Nat) : Bool := c == 32 || c == 10
def t_le (c : Nat) : Bool := decide (97 ≤ c) && decide (c ≤ 122)
def t_di (c : Nat) : Bool := decide (48 ≤ c) && decide (c ≤ 57)
/-- 0 for what is no operator -/
def t_rk (c : Nat) : Nat := if c = 43 ∨ c = 45 then 1 else if c = 42 ∨ c = 47 ∨ c = 37 then 2 else 0
def t_sg (c : Nat) : Bool := decide (c = 59 ∨ c = 40 ∨ c = 41 ∨ 0 < t_rk c)
/-- the first place from p on, of k, that f doesn't take -/
def t_sc (f : Nat → Bool) : Nat → Nat → Nat
  | 0, p => p
  | k + 1, p => if f p then t_sc f k (p + 1) else p
def t_end (f : Nat → Bool) (n p : Nat) : Nat := t_sc f (n - p) p
/-- the number of k digits from p on -/
def t_num (b : Nat → Nat) (p : Nat) : Nat → Nat
  | 0 => 0
  | k + 1 => t_num b p k * 10 + (b (p + k) - 48)
def t_at (b : Nat → Nat) (n p : Nat) : Tok :=
  if n ≤ p then (0, p, p, 0)
  else if t_le (b p) then (if t_end (fun i => t_le (b i)) n p - p ≤ 8 then 2 else 1, p, t_end (fun i => t_le (b i)) n p, 0)
  else if t_di (b p) then (if t_end (fun i => t_di (b i)) n p - p ≤ 4 then 3 else 1, p, t_end (fun i => t_di (b i)) n p, t_num b p (t_end (fun i => t_di (b i)) n p - p))
  else (if t_sg (b p) then b p else 1, p, p + 1, 0)
def t_tok (b : Nat → Nat) (n p : Nat) : Tok := t_at b n (t_end (fun i => t_sp (b i)) n p)
theorem t_sc_le (f : Nat → Bool) : ∀ k p, p ≤ t_sc f k p ∧ t_sc f k p ≤ p + k
  | 0, p => ⟨Nat.le_refl _, Nat.le_refl _⟩
  | k + 1, p => by
    rw [t_sc]
    have := t_sc_le f k (p + 1)
    by_cases h : f p = true
    · rw [if_pos h]; omega
    · rw [if_neg h]; omega
theorem t_end_le {f : Nat → Bool} {n p : Nat} (h : p ≤ n) : p ≤ t_end f n p ∧ t_end f n p ≤ n := by
  have := t_sc_le f (n - p) p
  unfold t_end
  omega
theorem t_end_go {f : Nat → Bool} {n p : Nat} (h : p < n) (hf : f p = true) : t_end f n p = t_end f n (p + 1) := by
  unfold t_end
  rw [show n - p = (n - (p + 1)) + 1 by omega, t_sc, if_pos hf]
theorem t_end_stop {f : Nat → Bool} {n p : Nat} (hf : f p = false) : t_end f n p = p := by
  unfold t_end
  cases hk : n - p with
  | zero => rfl
  | succ k => rw [t_sc, hf]; rfl
theorem t_end_out {f : Nat → Bool} {n p : Nat} (h : n ≤ p) : t_end f n p = p := by
  unfold t_end
  rw [show n - p = 0 by omega]
  rfl
/-- what lies before the end is taken -/
theorem t_end_in {f : Nat → Bool} {n : Nat} : ∀ (k p i : Nat), n - p = k → p ≤ i → i < t_end f n p → f i = true ∧ i < n
  | 0, p, i, hk, h1, h2 => by
    rw [t_end_out (by omega)] at h2
    omega
  | k + 1, p, i, hk, h1, h2 => by
    by_cases hf : f p = true
    · rw [t_end_go (by omega) hf] at h2
      by_cases e : i = p
      · subst e; exact ⟨hf, by omega⟩
      · exact t_end_in k (p + 1) i (by omega) (by omega) h2
    · rw [t_end_stop (by simpa using hf)] at h2
      omega
theorem t_at_le {b : Nat → Nat} {n p : Nat} (h : p ≤ n) : kS (t_at b n p) = p ∧ p ≤ kE (t_at b n p) ∧ kE (t_at b n p) ≤ n ∧ (kK (t_at b n p) = 0 → p = n) ∧ (p < n → p < kE (t_at b n p)) := by
  unfold t_at
  by_cases h1 : n ≤ p
  · rw [if_pos h1]
    refine ⟨rfl, Nat.le_refl _, ?_, fun _ => by omega, fun hp => by omega⟩
    exact h
  · rw [if_neg h1]
    by_cases h2 : t_le (b p) = true
    · rw [if_pos h2]
      have h3 := t_end_le (f := fun i => t_le (b i)) h
      have h4 : p < t_end (fun i => t_le (b i)) n p := by
        rw [t_end_go (f := fun i => t_le (b i)) (by omega) h2]
        have := t_end_le (f := fun i => t_le (b i)) (n := n) (p := p + 1) (by omega)
        omega
      refine ⟨rfl, h3.1, h3.2, fun hk => ?_, fun _ => h4⟩
      exfalso
      revert hk
      show (if _ then _ else _) = 0 → False
      by_cases hc : t_end (fun i => t_le (b i)) n p - p ≤ 8
      · rw [if_pos hc]; intro h; omega
      · rw [if_neg hc]; intro h; omega
    · rw [if_neg h2]
      by_cases h3 : t_di (b p) = true
      · rw [if_pos h3]
        have h5 := t_end_le (f := fun i => t_di (b i)) h
        have h4 : p < t_end (fun i => t_di (b i)) n p := by
          rw [t_end_go (f := fun i => t_di (b i)) (by omega) h3]
          have := t_end_le (f := fun i => t_di (b i)) (n := n) (p := p + 1) (by omega)
          omega
        refine ⟨rfl, h5.1, h5.2, fun hk => ?_, fun _ => h4⟩
        exfalso
        revert hk
        show (if _ then _ else _) = 0 → False
        by_cases hc : t_end (fun i => t_di (b i)) n p - p ≤ 4
        · rw [if_pos hc]; intro h; omega
        · rw [if_neg hc]; intro h; omega
      · rw [if_neg h3]
        refine ⟨rfl, Nat.le_succ p, by show p + 1 ≤ n; omega, fun hk => ?_, fun _ => Nat.lt_succ_self p⟩
        exfalso
        revert hk
        show (if _ then _ else _) = 0 → False
        by_cases hc : t_sg (b p) = true
        · rw [if_pos hc]
          intro h
          rw [h] at hc
          exact absurd hc (by decide)
        · rw [if_neg hc]; intro h; omega
/-- a token of the text: where it stands -/
def t_is (b : Nat → Nat) (n : Nat) (t : Tok) : Prop := ∃ p, p ≤ n ∧ t = t_at b n p
theorem t_tok_is {b : Nat → Nat} {n p : Nat} (h : p ≤ n) : t_is b n (t_tok b n p) ∧ p ≤ kS (t_tok b n p) := by
  have h1 := t_end_le (f := fun i => t_sp (b i)) h
  refine ⟨⟨_, h1.2, rfl⟩, ?_⟩
  unfold t_tok
  rw [(t_at_le h1.2).1]
  exact h1.1
theorem t_is.le {b : Nat → Nat} {n : Nat} {t : Tok} (h : t_is b n t) : kS t ≤ kE t ∧ kE t ≤ n ∧ (kK t = 0 → kS t = n) ∧ (kS t < n → kS t < kE t) := by
  obtain ⟨p, hp, rfl⟩ := h
  have := t_at_le (b := b) hp
  omega
/-- the next token -/
def t_nx (b : Nat → Nat) (n : Nat) (t : Tok) : Tok := t_tok b n (kE t)
theorem t_nx_is {b : Nat → Nat} {n : Nat} {t : Tok} (h : t_is b n t) : t_is b n (t_nx b n t) ∧ kE t ≤ kS (t_nx b n t) := t_tok_is h.le.2.1
/-- a step goes on, but behind the last token -/
theorem t_nx_lt {b : Nat → Nat} {n : Nat} {t : Tok} (h : t_is b n t) (hk : kK t ≠ 0) : n - kS (t_nx b n t) < n - kS t := by
  have h1 := t_nx_is h
  have h2 := h.le
  obtain ⟨p, hp, rfl⟩ := h
  have h3 := t_at_le (b := b) hp
  have : p < n := by
    rcases Nat.lt_or_ge p n with q | q
    · exact q
    · exfalso
      apply hk
      unfold t_at
      rw [if_pos q]
  omega
/-- this word -/
def t_wd (b : Nat → Nat) (t : Tok) (w : List Nat) : Bool := kK t == 2 && decide (kE t - kS t = w.length) && (List.range w.length).all (fun i => b (kS t + i) == w.getD i 0)
theorem s8_lt : ∀ c, c < 128 → s8 c = nI c := fun c h => if_pos h
/-- what the class's and the reference's own tests say of a byte -/
def k_sp (v : Int32) : Int32 := if v = nI 32 then nI 1 else if v = nI 10 then nI 1 else nI 0
def k_le (v : Int32) : Int32 := if v < nI 97 then nI 0 else if nI 122 < v then nI 0 else nI 1
def k_di (v : Int32) : Int32 := if v < nI 48 then nI 0 else if nI 57 < v then nI 0 else nI 1
def k_rk (v : Int32) : Int32 := if v = nI 43 then nI 1 else if v = nI 45 then nI 1 else if v = nI 42 then nI 2 else if v = nI 47 then nI 2 else if v = nI 37 then nI 2 else nI 0
def k_sg (v : Int32) : Int32 := if v = nI 59 then nI 1 else if v = nI 40 then nI 1 else if v = nI 41 then nI 1 else if k_rk v ≤ 0 then nI 0 else nI 1
theorem k_sp_c : ∀ c, c < 256 → k_sp (s8 c) = tB (t_sp c) := by decide +kernel
theorem k_le_c : ∀ c, c < 256 → k_le (s8 c) = tB (t_le c) := by decide +kernel
theorem k_di_c : ∀ c, c < 256 → k_di (s8 c) = tB (t_di c) := by decide +kernel
theorem k_sg_c : ∀ c, c < 256 → k_sg (s8 c) = tB (t_sg c) := by decide +kernel
theorem k_rk_c : ∀ c, c < 256 → k_rk (nI c) = nI (t_rk c) := by decide +kernel
theorem s8_sg : ∀ c, c < 256 → t_sg c = true → s8 c = nI c := by decide +kernel
theorem s8_di : ∀ c, c < 256 → t_di c = true → s8 c - nI 48 = nI (c - 48) := by decide +kernel
theorem s8_di' : ∀ c, c < 256 → t_di c = true → s8 c = nI c ∧ 48 ≤ c := by decide +kernel
theorem s8_and : ∀ c, c < 256 → s8 c &&& 255 = nI c := by decide +kernel
theorem t_is.k256 {b : Nat → Nat} {n : Nat} {t : Tok} (hb : ∀ i, b i < 256) (h : t_is b n t) : kK t < 256 := by
  obtain ⟨p, hp, rfl⟩ := h
  unfold t_at
  split
  · show 0 < 256
    decide
  · split
    · show (if _ then _ else _) < 256
      split <;> decide
    · split
      · show (if _ then _ else _) < 256
        split <;> decide
      · show (if _ then _ else _) < 256
        split
        · exact hb p
        · decide
