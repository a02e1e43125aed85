/-! STATEMENTS OF A BRIDGE'S TEXT AS MATHEMATICS: (what was told, the token) or an error (its code, its place) -/
def w_buffer : List Nat := [98, 117, 102, 102, 101, 114]
def w_credit : List Nat := [99, 114, 101, 100, 105, 116]
def w_table : List Nat := [116, 97, 98, 108, 101]
def w_word : List Nat := [119, 111, 114, 100]
def w_latency : List Nat := [108, 97, 116, 101, 110, 99, 121]
def w_split : List Nat := [115, 112, 108, 105, 116]
def w_tags : List Nat := [116, 97, 103, 115]
def p_num (b : Nat → Nat) (n lo hi : Nat) (t : Tok) : (Nat × Tok) ⊕ (Nat × Nat) := if kK t = 3 then (if lo ≤ kN t ∧ kN t ≤ hi then .inl (kN t, t_nx b n t) else .inr (3, kS t)) else .inr (1, kS t)
/-- three numbers: a place by two, what goes there -/
def p_set (b : Nat → Nat) (n c1 c2 lo hi : Nat) (t : Tok) : (Nat × Nat × Tok) ⊕ (Nat × Nat) :=
  match p_num b n 0 (c1 - 1) t with
  | .inr e => .inr e
  | .inl q1 => match p_num b n 0 (c2 - 1) q1.2 with
    | .inr e => .inr e
    | .inl q2 => match p_num b n lo hi q2.2 with
      | .inr e => .inr e
      | .inl q3 => .inl (q1.1 * c2 + q2.1, q3.1, q3.2)
/-- what was told: the plan; whether split, tags were told; the token -/
abbrev Ps : Type := Pl × Bool × Bool × Tok
def p_stmt (b : Nat → Nat) (n : Nat) (s : Ps) : Ps ⊕ (Nat × Nat) :=
  if t_wd b s.2.2.2 w_buffer then
    (match p_set b n 2 4 1 8 (t_nx b n s.2.2.2) with
     | .inr e => .inr e
     | .inl q => .inl ((va_up s.1.1 q.1 q.2.1, s.1.2), s.2.1, s.2.2.1, q.2.2))
  else if t_wd b s.2.2.2 w_credit then
    (match p_set b n 2 4 0 8 (t_nx b n s.2.2.2) with
     | .inr e => .inr e
     | .inl q => .inl ((s.1.1, va_up s.1.2.1 q.1 q.2.1, s.1.2.2), s.2.1, s.2.2.1, q.2.2))
  else if t_wd b s.2.2.2 w_table then
    (match p_set b n 4 4 0 1 (t_nx b n s.2.2.2) with
     | .inr e => .inr e
     | .inl q => .inl ((s.1.1, s.1.2.1, va_up s.1.2.2.1 q.1 q.2.1, s.1.2.2.2), s.2.1, s.2.2.1, q.2.2))
  else if t_wd b s.2.2.2 w_word then
    (match p_set b n 2 16 0 9999 (t_nx b n s.2.2.2) with
     | .inr e => .inr e
     | .inl q => .inl ((s.1.1, s.1.2.1, s.1.2.2.1, va_up s.1.2.2.2.1 q.1 q.2.1, s.1.2.2.2.2), s.2.1, s.2.2.1, q.2.2))
  else if t_wd b s.2.2.2 w_split then
    (if s.2.1 then .inr (2, kS s.2.2.2) else match p_num b n 1 4 (t_nx b n s.2.2.2) with
     | .inr e => .inr e
     | .inl q => .inl ((s.1.1, s.1.2.1, s.1.2.2.1, s.1.2.2.2.1, q.1, s.1.2.2.2.2.2), true, s.2.2.1, q.2))
  else if t_wd b s.2.2.2 w_tags then
    (if s.2.2.1 then .inr (2, kS s.2.2.2) else match p_num b n 1 8 (t_nx b n s.2.2.2) with
     | .inr e => .inr e
     | .inl q => .inl ((s.1.1, s.1.2.1, s.1.2.2.1, s.1.2.2.2.1, s.1.2.2.2.2.1, q.1, s.1.2.2.2.2.2.2), s.2.1, true, q.2))
  else if t_wd b s.2.2.2 w_latency then
    (match p_num b n 0 1 (t_nx b n s.2.2.2) with
     | .inr e => .inr e
     | .inl q => match x_run b n 601 (true, [], [], q.2) with
       | none => .inr (0, 0)
       | some (.inr e) => .inr e
       | some (.inl r) => .inl ((s.1.1, s.1.2.1, s.1.2.2.1, s.1.2.2.2.1, s.1.2.2.2.2.1, s.1.2.2.2.2.2.1, if q.1 = 0 then (r.1, s.1.2.2.2.2.2.2.2) else (s.1.2.2.2.2.2.2.1, r.1)), s.2.1, s.2.2.1, r.2))
  else .inr (1, kS s.2.2.2)
def p_semi (b : Nat → Nat) (n : Nat) (t : Tok) : Tok ⊕ (Nat × Nat) := if kK t = 59 then .inl (t_nx b n t) else .inr (1, kS t)
/-- a statement and its end -/
def p_one (b : Nat → Nat) (n : Nat) (s : Ps) : Ps ⊕ (Nat × Nat) :=
  match p_stmt b n s with
  | .inr e => .inr e
  | .inl q => match p_semi b n q.2.2.2 with
    | .inr e => .inr e
    | .inl t => .inl (q.1, q.2.1, q.2.2.1, t)
def p_run (b : Nat → Nat) (n : Nat) : Nat → Ps → Ps ⊕ (Nat × Nat)
  | 0, s => .inl s
  | k + 1, s => if kK s.2.2.2 = 0 then .inl s else match p_one b n s with
    | .inr e => .inr e
    | .inl q => p_run b n k q
theorem p_num_l {b : Nat → Nat} {n lo hi : Nat} {t : Tok} {q : Nat × Tok} (h : p_num b n lo hi t = .inl q) : kK t = 3 ∧ lo ≤ q.1 ∧ q.1 ≤ hi ∧ q.2 = t_nx b n t := by
  unfold p_num at h
  by_cases h1 : kK t = 3
  · rw [if_pos h1] at h
    by_cases h2 : lo ≤ kN t ∧ kN t ≤ hi
    · rw [if_pos h2] at h
      cases h
      exact ⟨h1, h2.1, h2.2, rfl⟩
    · rw [if_neg h2] at h; cases h
  · rw [if_neg h1] at h; cases h
theorem p_num_r {b : Nat → Nat} {n lo hi : Nat} {t : Tok} {e : Nat × Nat} (h : p_num b n lo hi t = .inr e) : 1 ≤ e.1 ∧ e.1 ≤ 4 ∧ e.2 = kS t := by
  unfold p_num at h
  by_cases h1 : kK t = 3
  · rw [if_pos h1] at h
    by_cases h2 : lo ≤ kN t ∧ kN t ≤ hi
    · rw [if_pos h2] at h; cases h
    · rw [if_neg h2] at h; cases h; exact ⟨bz_le rfl, bz_le rfl, rfl⟩
  · rw [if_neg h1] at h; cases h; exact ⟨bz_le rfl, bz_le rfl, rfl⟩
theorem p_num_go {b : Nat → Nat} {n lo hi : Nat} {t : Tok} {q : Nat × Tok} (ht : t_is b n t) (h : p_num b n lo hi t = .inl q) : t_is b n q.2 ∧ kS t ≤ kS q.2 := by
  obtain ⟨-, -, -, e⟩ := p_num_l h
  rw [e]
  have h1 := t_nx_is ht
  have h2 := ht.le
  exact ⟨h1.1, by omega⟩
theorem p_set_l {b : Nat → Nat} {n c1 c2 lo hi : Nat} {t : Tok} {q : Nat × Nat × Tok} (ht : t_is b n t) (h1 : 1 ≤ c1) (h2 : 1 ≤ c2) (h : p_set b n c1 c2 lo hi t = .inl q) : q.1 < c1 * c2 ∧ lo ≤ q.2.1 ∧ q.2.1 ≤ hi ∧ t_is b n q.2.2 ∧ kS t ≤ kS q.2.2 := by
  unfold p_set at h
  cases e1 : p_num b n 0 (c1 - 1) t with
  | inr e => rw [e1] at h; cases h
  | inl q1 =>
    rw [e1] at h
    dsimp only at h
    cases e2 : p_num b n 0 (c2 - 1) q1.2 with
    | inr e => rw [e2] at h; cases h
    | inl q2 =>
      rw [e2] at h
      dsimp only at h
      cases e3 : p_num b n lo hi q2.2 with
      | inr e => rw [e3] at h; cases h
      | inl q3 =>
        rw [e3] at h
        cases h
        have a1 := p_num_l e1
        have a2 := p_num_l e2
        have a3 := p_num_l e3
        have g1 := p_num_go ht e1
        have g2 := p_num_go g1.1 e2
        have g3 := p_num_go g2.1 e3
        refine ⟨?_, a3.2.1, a3.2.2.1, g3.1, by show kS t ≤ kS q3.2; omega⟩
        show q1.1 * c2 + q2.1 < c1 * c2
        have h3 : q1.1 * c2 ≤ (c1 - 1) * c2 := Nat.mul_le_mul_right c2 a1.2.2.1
        have h4 : (c1 - 1) * c2 + c2 = c1 * c2 := by
          rw [← Nat.succ_mul]
          congr 1
          omega
        omega
/-- a plan as it can be -/
def d_ok (pl : Pl) : Prop := (∀ k, k < 8 → 1 ≤ pl.1 k ∧ pl.1 k ≤ 8 ∧ pl.2.1 k ≤ 8) ∧ (∀ k, k < 16 → pl.2.2.1 k ≤ 1) ∧ (1 ≤ pl.2.2.2.2.1 ∧ pl.2.2.2.2.1 ≤ 4) ∧ (1 ≤ pl.2.2.2.2.2.1 ∧ pl.2.2.2.2.2.1 ≤ 8) ∧ (pl.2.2.2.2.2.2.1.length ≤ 600 ∧ e_ok pl.2.2.2.2.2.2.1 0) ∧ (pl.2.2.2.2.2.2.2.length ≤ 600 ∧ e_ok pl.2.2.2.2.2.2.2 0)
def d_tb (k : Nat) : Nat := if k = 1 ∨ k = 2 ∨ k = 3 ∨ k = 5 ∨ k = 6 ∨ k = 9 ∨ k = 10 ∨ k = 13 ∨ k = 14 ∨ k = 15 then 1 else 0
/-- the plan that holds where nothing is told -/
def d_0 : Pl := (fun _ => 4, fun _ => 2, d_tb, fun _ => 0, 2, 4, [nI 1], [nI 1])
theorem d_0_ok : d_ok d_0 := by
  have h1 : e_ok [nI 1] 0 := Or.inr ⟨Or.inr ⟨1, by decide, rfl⟩, by decide, rfl⟩
  refine ⟨fun k _ => ⟨bz_le rfl, bz_le rfl, bz_le rfl⟩, fun k _ => ?_, ⟨by decide, by decide⟩, ⟨by decide, by decide⟩, ⟨by decide, h1⟩, ⟨by decide, h1⟩⟩
  show d_tb k ≤ 1
  unfold d_tb
  split <;> decide
theorem va_up_at {α : Type} {f : Nat → α} {k j : Nat} {v : α} {P : α → Prop} (h : P (f j)) (hv : P v) : P (va_up f k v j) := by
  unfold va_up
  split
  · exact hv
  · exact h
theorem p_stmt_l {b : Nat → Nat} {n : Nat} {s q : Ps} (hn : n ≤ 600) (hd : d_ok s.1) (ht : t_is b n s.2.2.2) (h : p_stmt b n s = .inl q) : d_ok q.1 ∧ t_is b n q.2.2.2 ∧ n - kS q.2.2.2 < n - kS s.2.2.2 := by
  obtain ⟨d1, d2, d3, d4, d5, d6⟩ := hd
  have hx := t_nx_is ht
  unfold p_stmt at h
  have key : ∀ {w : List Nat}, t_wd b s.2.2.2 w = true → n - kS (t_nx b n s.2.2.2) < n - kS s.2.2.2 := fun hw => t_nx_lt ht (by rw [(t_wd_k hw).1]; decide)
  by_cases c1 : t_wd b s.2.2.2 w_buffer = true
  · rw [if_pos c1] at h
    have hlt := key c1
    cases e : p_set b n 2 4 1 8 (t_nx b n s.2.2.2) with
    | inr z => rw [e] at h; cases h
    | inl z =>
      rw [e] at h
      cases h
      obtain ⟨a1, a2, a3, a4, a5⟩ := p_set_l hx.1 (by decide) (by decide) e
      have := a4.le
      refine ⟨⟨fun k hk => ?_, d2, d3, d4, d5, d6⟩, a4, by show n - kS z.2.2 < _; omega⟩
      have hk' := d1 k hk
      have := va_up_at (P := fun v => 1 ≤ v ∧ v ≤ 8) (f := s.1.1) (k := z.1) (j := k) ⟨hk'.1, hk'.2.1⟩ ⟨a2, a3⟩
      exact ⟨this.1, this.2, hk'.2.2⟩
  rw [if_neg c1] at h
  by_cases c2 : t_wd b s.2.2.2 w_credit = true
  · rw [if_pos c2] at h
    have hlt := key c2
    cases e : p_set b n 2 4 0 8 (t_nx b n s.2.2.2) with
    | inr z => rw [e] at h; cases h
    | inl z =>
      rw [e] at h
      cases h
      obtain ⟨a1, a2, a3, a4, a5⟩ := p_set_l hx.1 (by decide) (by decide) e
      have := a4.le
      refine ⟨⟨fun k hk => ?_, d2, d3, d4, d5, d6⟩, a4, by show n - kS z.2.2 < _; omega⟩
      have hk' := d1 k hk
      exact ⟨hk'.1, hk'.2.1, va_up_at (P := fun v => v ≤ 8) (f := s.1.2.1) (k := z.1) (j := k) hk'.2.2 a3⟩
  rw [if_neg c2] at h
  by_cases c3 : t_wd b s.2.2.2 w_table = true
  · rw [if_pos c3] at h
    have hlt := key c3
    cases e : p_set b n 4 4 0 1 (t_nx b n s.2.2.2) with
    | inr z => rw [e] at h; cases h
    | inl z =>
      rw [e] at h
      cases h
      obtain ⟨a1, a2, a3, a4, a5⟩ := p_set_l hx.1 (by decide) (by decide) e
      have := a4.le
      refine ⟨⟨d1, fun k hk => ?_, d3, d4, d5, d6⟩, a4, by show n - kS z.2.2 < _; omega⟩
      exact va_up_at (P := fun v => v ≤ 1) (f := s.1.2.2.1) (k := z.1) (j := k) (d2 k hk) a3
  rw [if_neg c3] at h
  by_cases c4 : t_wd b s.2.2.2 w_word = true
  · rw [if_pos c4] at h
    have hlt := key c4
    cases e : p_set b n 2 16 0 9999 (t_nx b n s.2.2.2) with
    | inr z => rw [e] at h; cases h
    | inl z =>
      rw [e] at h
      cases h
      obtain ⟨a1, a2, a3, a4, a5⟩ := p_set_l hx.1 (by decide) (by decide) e
      have := a4.le
      exact ⟨⟨d1, d2, d3, d4, d5, d6⟩, a4, by show n - kS z.2.2 < _; omega⟩
  rw [if_neg c4] at h
  by_cases c5 : t_wd b s.2.2.2 w_split = true
  · rw [if_pos c5] at h
    have hlt := key c5
    by_cases c : s.2.1 = true
    · rw [if_pos c] at h; cases h
    · rw [if_neg c] at h
      cases e : p_num b n 1 4 (t_nx b n s.2.2.2) with
      | inr z => rw [e] at h; cases h
      | inl z =>
        rw [e] at h
        cases h
        have a := p_num_l e
        have a4 := p_num_go hx.1 e
        have := a4.1.le
        exact ⟨⟨d1, d2, ⟨a.2.1, a.2.2.1⟩, d4, d5, d6⟩, a4.1, by show n - kS z.2 < _; omega⟩
  rw [if_neg c5] at h
  by_cases c6 : t_wd b s.2.2.2 w_tags = true
  · rw [if_pos c6] at h
    have hlt := key c6
    by_cases c : s.2.2.1 = true
    · rw [if_pos c] at h; cases h
    · rw [if_neg c] at h
      cases e : p_num b n 1 8 (t_nx b n s.2.2.2) with
      | inr z => rw [e] at h; cases h
      | inl z =>
        rw [e] at h
        cases h
        have a := p_num_l e
        have a4 := p_num_go hx.1 e
        have := a4.1.le
        exact ⟨⟨d1, d2, d3, ⟨a.2.1, a.2.2.1⟩, d5, d6⟩, a4.1, by show n - kS z.2 < _; omega⟩
  rw [if_neg c6] at h
  by_cases c7 : t_wd b s.2.2.2 w_latency = true
  · rw [if_pos c7] at h
    have hlt := key c7
    cases e : p_num b n 0 1 (t_nx b n s.2.2.2) with
    | inr z => rw [e] at h; cases h
    | inl z =>
      rw [e] at h
      dsimp only at h
      have a4 := p_num_go hx.1 e
      cases e2 : x_run b n 601 (true, [], [], z.2) with
      | none => rw [e2] at h; cases h
      | some r =>
        rw [e2] at h
        cases r with
        | inr r => cases h
        | inl r =>
          cases h
          have hi : x_inv b n (true, [], [], z.2) := ⟨a4.1, trivial, Nat.zero_le _, e_to.nil, Nat.zero_le _⟩
          obtain ⟨r1, r2, r3, r4⟩ := x_run_ok 601 _ r.1 r.2 hi e2
          have := r1.le
          have r4 : kS z.2 ≤ kS r.2 := r4
          refine ⟨⟨d1, d2, d3, d4, ?_⟩, r1, by show n - kS r.2 < _; omega⟩
          by_cases c0 : z.1 = 0
          · dsimp only
            rw [if_pos c0]
            exact ⟨⟨by show r.1.length ≤ 600; omega, r2⟩, d6⟩
          · dsimp only
            rw [if_neg c0]
            exact ⟨d5, by show r.1.length ≤ 600; omega, r2⟩
  rw [if_neg c7] at h
  cases h
theorem p_one_l {b : Nat → Nat} {n : Nat} {s q : Ps} (hn : n ≤ 600) (hd : d_ok s.1) (ht : t_is b n s.2.2.2) (h : p_one b n s = .inl q) : d_ok q.1 ∧ t_is b n q.2.2.2 ∧ n - kS q.2.2.2 < n - kS s.2.2.2 := by
  unfold p_one at h
  cases e : p_stmt b n s with
  | inr z => rw [e] at h; cases h
  | inl z =>
    rw [e] at h
    dsimp only at h
    have a := p_stmt_l hn hd ht e
    cases e2 : p_semi b n z.2.2.2 with
    | inr y => rw [e2] at h; cases h
    | inl y =>
      rw [e2] at h
      cases h
      unfold p_semi at e2
      by_cases c : kK z.2.2.2 = 59
      · rw [if_pos c] at e2
        cases e2
        have h1 := t_nx_is a.2.1
        have h2 := a.2.1.le
        exact ⟨a.1, h1.1, by show n - kS (t_nx b n z.2.2.2) < _; omega⟩
      · rw [if_neg c] at e2; cases e2
theorem p_run_l {b : Nat → Nat} {n : Nat} (hn : n ≤ 600) : ∀ (k : Nat) (s q : Ps), d_ok s.1 → t_is b n s.2.2.2 → p_run b n k s = .inl q → d_ok q.1
  | 0, s, q, hd, ht, h => by rw [p_run] at h; cases h; exact hd
  | k + 1, s, q, hd, ht, h => by
    rw [p_run] at h
    by_cases c : kK s.2.2.2 = 0
    · rw [if_pos c] at h; cases h; exact hd
    · rw [if_neg c] at h
      cases e : p_one b n s with
      | inr z => rw [e] at h; cases h
      | inl z =>
        rw [e] at h
        have a := p_one_l hn hd ht e
        exact p_run_l hn k z q a.1 a.2.1 h
/-- the whole text -/
def p_all (b : Nat → Nat) (n : Nat) : Ps ⊕ (Nat × Nat) := p_run b n 601 (d_0, false, false, t_tok b n 0)
