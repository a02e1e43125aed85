/-! step 3 as mathematics; a tick; the bit sets of kinds -/
/-- the plan: sizes, credits, table, first words, split, tags, the two sums -/
abbrev Pl : Type := (Nat → Nat) × (Nat → Nat) × (Nat → Nat) × (Nat → Nat) × Nat × Nat × List Int32 × List Int32
abbrev Si : Type := Nat × Po × Po
def s_lat (l : List Int32) (x : Tx) (now : Nat) : Nat := s_cl (e_val l (nI (tK x)) (nI (tA x)) (nI (tW x)) (nI now))
def s_fwd (tb cr : Nat → Nat) (l : List Int32) (now : Nat) (P P1 : Po) : Bool × Po × Po :=
  match s_next tb cr P1.2.1 [] P.1 with
  | none => (false, P, P1)
  | some i => match P.1[i]? with
    | none => (false, P, P1)
    | some x => (true, (P.1.eraseIdx i, P.2.1, P.2.2.1, P.2.2.2.1, P.2.2.2.2.1 + 1, P.2.2.2.2.2.1 + i, P.2.2.2.2.2.2 + (now - tM x)), (P1.1, P1.2.1 ++ [s_tm x (now + s_lat l x now + 1)], P1.2.2))
def s_ek (l : List Tx) : Nat := l.foldl (fun m x => m ||| 2 ^ tK x) 0
theorem s_ek_app (l : List Tx) (x : Tx) : s_ek (l ++ [x]) = s_ek l ||| 2 ^ tK x := by simp [s_ek, List.foldl_append]
theorem s_ek_lt : ∀ (l : List Tx), (∀ x ∈ l, tK x < 4) → s_ek l < 16 := by
  have key : ∀ (l : List Tx) (m : Nat), m < 16 → (∀ x ∈ l, tK x < 4) → l.foldl (fun m x => m ||| 2 ^ tK x) m < 16 := by
    intro l
    induction l with
    | nil => intro m hm _; exact hm
    | cons x r ih =>
      intro m hm h
      exact ih _ (bz_or16 m hm _ (h x List.mem_cons_self)).2 (fun y hy => h y (List.mem_cons_of_mem _ hy))
  exact fun l h => key l 0 (by decide) h
theorem s_ek_bit (l : List Tx) (e : Nat) : (s_ek l).testBit e = l.any (fun y => tK y == e) := by
  have key : ∀ (l : List Tx) (m : Nat), (l.foldl (fun m x => m ||| 2 ^ tK x) m).testBit e = (m.testBit e || l.any (fun y => tK y == e)) := by
    intro l
    induction l with
    | nil => intro m; simp
    | cons x r ih =>
      intro m
      rw [List.foldl_cons, ih, Nat.testBit_or, Nat.testBit_two_pow, List.any_cons, Bool.or_assoc]
      congr 2
  have := key l 0
  simpa [s_ek] using this
theorem bz_and16 : ∀ a, a < 16 → ∀ b, b < 16 → nI a &&& nI b = nI (a &&& b) ∧ a &&& b < 16 := by decide +kernel
theorem s_bk_bit (tb : Nat → Nat) (k : Nat) (r : Bool) : ∀ e, e < 4 → (s_bk tb k r 4).testBit e = !((r && e == 0) || tb (k * 4 + e) != 0) := by
  have h : ∀ b0 b1 b2 b3 : Bool, ∀ e, e < 4 → (((0 + (if b0 then 0 else 2 ^ 0)) + (if b1 then 0 else 2 ^ 1)) + (if b2 then 0 else 2 ^ 2) + (if b3 then 0 else 2 ^ 3)).testBit e = !(if e = 0 then b0 else if e = 1 then b1 else if e = 2 then b2 else b3) := by decide
  intro e he
  have := h ((r && 0 == 0) || tb (k * 4 + 0) != 0) ((r && 1 == 0) || tb (k * 4 + 1) != 0) ((r && 2 == 0) || tb (k * 4 + 2) != 0) ((r && 3 == 0) || tb (k * 4 + 3) != 0) e he
  rw [show s_bk tb k r 4 = (((0 + (if ((r && 0 == 0) || tb (k * 4 + 0) != 0) then 0 else 2 ^ 0)) + (if ((r && 1 == 0) || tb (k * 4 + 1) != 0) then 0 else 2 ^ 1)) + (if ((r && 2 == 0) || tb (k * 4 + 2) != 0) then 0 else 2 ^ 2) + (if ((r && 3 == 0) || tb (k * 4 + 3) != 0) then 0 else 2 ^ 3)) from rfl, this]
  rcases (show e = 0 ∨ e = 1 ∨ e = 2 ∨ e = 3 by omega) with rfl | rfl | rfl | rfl <;> rfl
theorem s_bkek {tb : Nat → Nat} {x : Tx} {pre : List Tx} (hp : ∀ y ∈ pre, tK y < 4) : (s_bk tb (tK x) (tR x) 4 &&& s_ek pre = 0) ↔ pre.all (fun y => !s_blk tb x y) = true := by
  rw [List.all_eq_true]
  constructor
  · intro h y hy
    have h1 : (s_bk tb (tK x) (tR x) 4 &&& s_ek pre).testBit (tK y) = false := by rw [h]; simp
    rw [Nat.testBit_and, s_bk_bit tb _ _ _ (hp y hy), s_ek_bit] at h1
    have h2 : pre.any (fun z => tK z == tK y) = true := List.any_eq_true.mpr ⟨y, hy, by simp⟩
    rw [h2, Bool.and_true] at h1
    unfold s_blk
    revert h1
    cases tR x <;> cases (tK y == 0) <;> simp
  · intro h
    apply Nat.eq_of_testBit_eq
    intro e
    rw [Nat.testBit_and, Nat.zero_testBit, s_ek_bit]
    by_cases hy : ∃ y ∈ pre, tK y = e
    · obtain ⟨y, hy, rfl⟩ := hy
      have h1 := h y hy
      rw [s_bk_bit tb _ _ _ (hp y hy)]
      unfold s_blk at h1
      revert h1
      cases tR x <;> cases (tK y == 0) <;> simp <;> intro h1 h2 <;> simp_all
    · have : pre.any (fun y => tK y == e) = false := by
        rw [Bool.eq_false_iff]
        intro h2
        obtain ⟨y, h3, h4⟩ := List.any_eq_true.mp h2
        exact hy ⟨y, h3, by simpa using h4⟩
      rw [this, Bool.and_false]
theorem s_next_spec {tb cr : Nat → Nat} {held : List Tx} : ∀ (r pre : List Tx) (i : Nat), s_next tb cr held pre r = some i → ∃ x, (pre ++ r)[i]? = some x ∧ s_cnt (tK x) held < cr (tK x)
  | [], pre, i, h => by simp [s_next] at h
  | x :: r, pre, i, h => by
    rw [s_next] at h
    by_cases c : (pre.all (fun y => !s_blk tb x y) && decide (s_cnt (tK x) held < cr (tK x))) = true
    · rw [if_pos c] at h
      cases h
      refine ⟨x, s_mid, ?_⟩
      simp at c
      exact c.2
    · rw [if_neg c] at h
      have := s_next_spec r (pre ++ [x]) i h
      rwa [List.append_assoc] at this
/-- one tick; whether anything moved -/
def s_t1 (pl : Pl) (σ : Si) : Si := (σ.1 + 1, s_wkp (σ.1 + 1) (pl.1 3) pl.2.2.2.2.1 σ.2.1, s_wkp (σ.1 + 1) (pl.1 7) pl.2.2.2.2.1 σ.2.2)
def s_f0 (pl : Pl) (σ : Si) : Bool × Si := ((s_fwd pl.2.2.1 (fun k => pl.2.1 (4 + k)) pl.2.2.2.2.2.2.2 σ.1 σ.2.1 σ.2.2).1, σ.1, (s_fwd pl.2.2.1 (fun k => pl.2.1 (4 + k)) pl.2.2.2.2.2.2.2 σ.1 σ.2.1 σ.2.2).2)
def s_f1 (pl : Pl) (σ : Si) : Bool × Si := ((s_fwd pl.2.2.1 (fun k => pl.2.1 (0 + k)) pl.2.2.2.2.2.2.1 σ.1 σ.2.2 σ.2.1).1, σ.1, (s_fwd pl.2.2.1 (fun k => pl.2.1 (0 + k)) pl.2.2.2.2.2.2.1 σ.1 σ.2.2 σ.2.1).2.2, (s_fwd pl.2.2.1 (fun k => pl.2.1 (0 + k)) pl.2.2.2.2.2.2.1 σ.1 σ.2.2 σ.2.1).2.1)
def s_tick (pl : Pl) (σ : Si) : Si := (s_f1 pl (s_f0 pl (s_t1 pl σ)).2).2
def s_moved (pl : Pl) (σ : Si) : Bool := s_mvd σ.2.1 (s_t1 pl σ).2.1 || s_mvd σ.2.2 (s_t1 pl σ).2.2 || (s_f0 pl (s_t1 pl σ)).1 || (s_f1 pl (s_f0 pl (s_t1 pl σ)).2).1
def s_lpl (zs cs ts ws i0 : Nat → Int32) (n0 : Int32) (i1 : Nat → Int32) (n1 sp tc : Int32) (pl : Pl) : Prop :=
  (∀ k, k < 8 → zs k = nI (pl.1 k) ∧ 1 ≤ pl.1 k ∧ pl.1 k ≤ 8 ∧ cs k = nI (pl.2.1 k) ∧ pl.2.1 k ≤ 8) ∧ (∀ k, k < 16 → ts k = nI (pl.2.2.1 k) ∧ pl.2.2.1 k ≤ 1) ∧ (∀ k, k < 32 → ws k = nI (pl.2.2.2.1 k)) ∧
  sp = nI pl.2.2.2.2.1 ∧ (1 ≤ pl.2.2.2.2.1 ∧ pl.2.2.2.2.1 ≤ 4) ∧ tc = nI pl.2.2.2.2.2.1 ∧ (1 ≤ pl.2.2.2.2.2.1 ∧ pl.2.2.2.2.2.1 ≤ 8) ∧
  (n0 = nI pl.2.2.2.2.2.2.1.length ∧ pl.2.2.2.2.2.2.1.length ≤ 600 ∧ (∀ (j : Nat) (x : Int32), pl.2.2.2.2.2.2.1[j]? = some x → i0 j = x) ∧ e_ok pl.2.2.2.2.2.2.1 0) ∧
  (n1 = nI pl.2.2.2.2.2.2.2.length ∧ pl.2.2.2.2.2.2.2.length ≤ 600 ∧ (∀ (j : Nat) (x : Int32), pl.2.2.2.2.2.2.2[j]? = some x → i1 j = x) ∧ e_ok pl.2.2.2.2.2.2.2 0)
