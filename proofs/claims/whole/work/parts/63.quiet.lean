/-! ticks in which nothing moves -/
theorem s_ans_len {mem : Nat → Int32} {now room sp : Nat} {x : Tx} : ∀ (m : Nat) (q : List Tx) (off : Nat), q.length ≤ (s_ans mem now room sp x m q off).1.length
  | 0, q, off => Nat.le_refl _
  | m + 1, q, off => by
    rw [s_ans]
    by_cases c : off < tW x ∧ s_cnt 3 q < room
    · rw [if_pos c]
      have := s_ans_len (mem := mem) (now := now) (room := room) (sp := sp) (x := x) m (q ++ [s_cmp mem x off (min sp (tW x - off)) now]) (off + min sp (tW x - off))
      rw [List.length_append] at this
      omega
    · rw [if_neg c]; exact Nat.le_refl _
theorem s_ans_stl {mem : Nat → Int32} {now room sp : Nat} {x : Tx} {m : Nat} {q : List Tx} {off : Nat} (h : (s_ans mem now room sp x (m + 1) q off).1.length = q.length) (now2 : Nat) : s_ans mem now2 room sp x (m + 1) q off = (q, off) := by
  by_cases c : off < tW x ∧ s_cnt 3 q < room
  · rw [s_ans, if_pos c] at h
    have := s_ans_len (mem := mem) (now := now) (room := room) (sp := sp) (x := x) m (q ++ [s_cmp mem x off (min sp (tW x - off)) now]) (off + min sp (tW x - off))
    rw [List.length_append] at this
    have e : [s_cmp mem x off (min sp (tW x - off)) now].length = 1 := rfl
    omega
  · rw [s_ans, if_neg c]
theorem s_one_len {now room sp : Nat} {x : Tx} {S : Wk} : S.1.length ≤ (s_one now room sp x S).2.2.1.length := by
  unfold s_one
  by_cases h0 : tK x = 0
  · rw [if_pos h0]; exact Nat.le_refl _
  · rw [if_neg h0]
    by_cases h1 : tK x = 1
    · rw [if_pos h1]; exact s_ans_len _ _ _
    · rw [if_neg h1]
      by_cases h2 : tK x = 2
      · rw [if_pos h2]
        by_cases c : s_cnt 3 S.1 < room
        · rw [if_pos c]
          show _ ≤ (S.1 ++ _).length
          rw [List.length_append]; omega
        · rw [if_neg c]; exact Nat.le_refl _
      · rw [if_neg h2]; exact Nat.le_refl _
theorem s_one_stl {now room sp : Nat} {x : Tx} {S : Wk} (hf : (s_one now room sp x S).1 = false) (hl : (s_one now room sp x S).2.2.1.length = S.1.length) (now2 : Nat) : s_one now2 room sp x S = (false, x, S) := by
  unfold s_one at hf hl ⊢
  by_cases h0 : tK x = 0
  · rw [if_pos h0] at hf; exact Bool.noConfusion hf
  · rw [if_neg h0] at hf hl ⊢
    by_cases h1 : tK x = 1
    · rw [if_pos h1] at hf hl ⊢
      have e := s_ans_stl hl
      rw [e now] at hf
      rw [e now2]
      show (decide (tW x ≤ tO x), _, _) = _
      have hf : decide (tW x ≤ tO x) = false := hf
      rw [hf]
    · rw [if_neg h1] at hf hl ⊢
      by_cases h2 : tK x = 2
      · rw [if_pos h2] at hf hl ⊢
        by_cases c : s_cnt 3 S.1 < room
        · rw [if_pos c] at hf; exact Bool.noConfusion hf
        · rw [if_neg c]
      · rw [if_neg h2] at hf; exact Bool.noConfusion hf
theorem s_work_len {now room sp : Nat} : ∀ (W : List Tx) (S : Wk), (s_work now room sp W S).1.length ≤ W.length ∧ S.1.length ≤ (s_work now room sp W S).2.1.length
  | [], S => ⟨Nat.le_refl _, Nat.le_refl _⟩
  | x :: r, S => by
    rw [s_work]
    by_cases c : tM x ≤ now
    · rw [if_pos c]
      have h := s_work_len (now := now) (room := room) (sp := sp) r (s_one now room sp x S).2.2
      have h2 := s_one_len (now := now) (room := room) (sp := sp) (x := x) (S := S)
      refine ⟨?_, by dsimp only; omega⟩
      dsimp only
      cases (s_one now room sp x S).1 with
      | true => rw [if_pos rfl, List.length_cons]; omega
      | false => rw [if_neg Bool.noConfusion, List.length_cons, List.length_cons]; omega
    · rw [if_neg c]
      have h := s_work_len (now := now) (room := room) (sp := sp) r S
      exact ⟨by dsimp only; rw [List.length_cons, List.length_cons]; omega, h.2⟩
theorem s_work_stl {now room sp : Nat} : ∀ (W : List Tx) (S : Wk), (s_work now room sp W S).1.length = W.length → (s_work now room sp W S).2.1.length = S.1.length → ∀ now2, now ≤ now2 → (∀ x ∈ W, tM x ≤ now ∨ now2 < tM x) → s_work now2 room sp W S = (W, S)
  | [], S, _, _, now2, _, _ => rfl
  | x :: r, S, h1, h2, now2, hle, hgap => by
    rw [s_work] at h1 h2 ⊢
    have hg := hgap x List.mem_cons_self
    have hgr : ∀ y ∈ r, tM y ≤ now ∨ now2 < tM y := fun y hy => hgap y (List.mem_cons_of_mem _ hy)
    by_cases c : tM x ≤ now
    · rw [if_pos c] at h1 h2
      rw [if_pos (show tM x ≤ now2 by omega)]
      dsimp only at h1 h2 ⊢
      have h3 := s_work_len (now := now) (room := room) (sp := sp) r (s_one now room sp x S).2.2
      have h4 := s_one_len (now := now) (room := room) (sp := sp) (x := x) (S := S)
      cases hf : (s_one now room sp x S).1 with
      | true => rw [hf, if_pos rfl, List.length_cons] at h1; omega
      | false =>
        rw [hf, if_neg Bool.noConfusion, List.length_cons, List.length_cons] at h1
        have e := s_one_stl hf (by omega)
        rw [e now] at h1 h2
        rw [e now2]
        dsimp only at h1 h2 ⊢
        rw [s_work_stl r S (by omega) h2 now2 hle hgr]
        rfl
    · rw [if_neg c] at h1 h2
      rw [if_neg (show ¬ tM x ≤ now2 by omega)]
      dsimp only at h1 h2 ⊢
      rw [List.length_cons, List.length_cons] at h1
      rw [s_work_stl r S (by omega) h2 now2 hle hgr]
theorem s_wkp_stl {now room sp : Nat} {P : Po} (h : s_mvd P (s_wkp now room sp P) = false) (now2 : Nat) (hle : now ≤ now2) (hgap : ∀ x ∈ P.2.1, tM x ≤ now ∨ now2 < tM x) : s_wkp now2 room sp P = P := by
  unfold s_mvd at h
  have h := of_decide_eq_false h
  have e := s_work_stl (now := now) (room := room) (sp := sp) P.2.1 (P.1, P.2.2.1, P.2.2.2.1) (Decidable.byContradiction (fun c => h (Or.inl c))) (Decidable.byContradiction (fun c => h (Or.inr c))) now2 hle hgap
  unfold s_wkp
  rw [e]
theorem s_fwd_stl {tb cr : Nat → Nat} {l : List Int32} {now : Nat} {P P1 : Po} (h : (s_fwd tb cr l now P P1).1 = false) (now2 : Nat) : s_fwd tb cr l now2 P P1 = (false, P, P1) := by
  unfold s_fwd at h ⊢
  cases hn : s_next tb cr P1.2.1 [] P.1 with
  | none => rfl
  | some i =>
    rw [hn] at h
    dsimp only at h ⊢
    cases hx : P.1[i]? with
    | none => rfl
    | some x => rw [hx] at h; exact Bool.noConfusion h
theorem s_mvd_self (P : Po) : s_mvd P P = false := by unfold s_mvd; simp
def s_gap (σ : Si) (n : Nat) : Prop := (∀ x ∈ σ.2.1.2.1, tM x ≤ σ.1 + 1 ∨ σ.1 + 1 + n < tM x) ∧ ∀ x ∈ σ.2.2.2.1, tM x ≤ σ.1 + 1 ∨ σ.1 + 1 + n < tM x
theorem s_quiet {pl : Pl} {σ : Si} (h : s_moved pl σ = false) (n : Nat) (hg : s_gap σ n) : s_tick pl (σ.1 + n, σ.2) = (σ.1 + 1 + n, σ.2) ∧ s_moved pl (σ.1 + n, σ.2) = false := by
  unfold s_moved at h
  rw [Bool.or_eq_false_iff, Bool.or_eq_false_iff, Bool.or_eq_false_iff] at h
  obtain ⟨⟨⟨h1, h2⟩, h3⟩, h4⟩ := h
  have w0 := fun n2 (hn : n2 ≤ n) => s_wkp_stl h1 (σ.1 + n2 + 1) (by omega) (fun x hx => (hg.1 x hx).imp id (fun e => by omega))
  have w1 := fun n2 (hn : n2 ≤ n) => s_wkp_stl h2 (σ.1 + n2 + 1) (by omega) (fun x hx => (hg.2 x hx).imp id (fun e => by omega))
  have t1 : ∀ n2, n2 ≤ n → s_t1 pl (σ.1 + n2, σ.2) = (σ.1 + n2 + 1, σ.2) := fun n2 hn => by unfold s_t1; dsimp only; rw [w0 n2 hn, w1 n2 hn]
  have e0 := t1 0 (by omega)
  rw [Nat.add_zero] at e0
  have e0 : s_t1 pl σ = (σ.1 + 1, σ.2) := e0
  rw [e0] at h3 h4
  have f0 : ∀ m, s_f0 pl (m, σ.2) = (false, m, σ.2) := fun m => by
    have := s_fwd_stl h3 m
    unfold s_f0; dsimp only at this ⊢; rw [this]
  rw [f0] at h4
  have f1 : ∀ m, s_f1 pl (m, σ.2) = (false, m, σ.2) := fun m => by
    have := s_fwd_stl h4 m
    unfold s_f1; dsimp only at this ⊢; rw [this]
  have e1 := t1 n (by omega)
  constructor
  · unfold s_tick
    rw [e1, f0, f1]
    dsimp only
    rw [show σ.1 + n + 1 = σ.1 + 1 + n by omega]
  · unfold s_moved
    rw [e1, f0, f1, s_mvd_self, s_mvd_self]
    rfl
def s_run (pl : Pl) : Nat → Si → Si
  | 0, σ => σ
  | n + 1, σ => s_run pl n (s_tick pl σ)
theorem s_run_add (pl : Pl) : ∀ (a b : Nat) (σ : Si), s_run pl (a + b) σ = s_run pl b (s_run pl a σ)
  | 0, b, σ => by rw [Nat.zero_add]; rfl
  | a + 1, b, σ => by rw [show a + 1 + b = (a + b) + 1 by omega]; exact s_run_add pl a b (s_tick pl σ)
theorem s_run_s (pl : Pl) (n : Nat) (σ : Si) : s_run pl (n + 1) σ = s_tick pl (s_run pl n σ) := s_run_add pl n 1 σ
theorem s_tick1 (pl : Pl) (σ : Si) : (s_tick pl σ).1 = σ.1 + 1 := rfl
theorem s_run1 (pl : Pl) : ∀ (n : Nat) (σ : Si), (s_run pl n σ).1 = σ.1 + n
  | 0, σ => rfl
  | n + 1, σ => by rw [s_run, s_run1, s_tick1]; omega
theorem s_run_quiet {pl : Pl} {σ : Si} (h : s_moved pl σ = false) : ∀ (n : Nat), s_gap σ n → s_run pl (n + 1) σ = (σ.1 + 1 + n, σ.2) ∧ ∀ k, k ≤ n → s_moved pl (s_run pl k σ) = false
  | 0, hg => ⟨(s_quiet h 0 hg).1, fun k hk => by rw [show k = 0 by omega]; exact h⟩
  | n + 1, hg => by
    obtain ⟨h1, h2⟩ := s_run_quiet h n ⟨fun x hx => (hg.1 x hx).imp id (fun e => by omega), fun x hx => (hg.2 x hx).imp id (fun e => by omega)⟩
    have q := s_quiet h (n + 1) hg
    rw [show σ.1 + (n + 1) = σ.1 + 1 + n by omega, ← h1] at q
    refine ⟨by rw [s_run_s, q.1], fun k hk => ?_⟩
    by_cases c : k ≤ n
    · exact h2 k c
    · rw [show k = n + 1 by omega]; exact q.2
theorem s_due_mem {now : Nat} {x : Tx} : ∀ (W : List Tx) (m : Nat), x ∈ W → now < tM x → s_due now W m ≤ tM x
  | y :: r, m, h, hx => by
    rw [s_due]
    rcases List.mem_cons.mp h with h | h
    · subst h
      rw [if_pos hx]
      have := s_due_le (now := now) r (min m (tM x))
      omega
    · exact s_due_mem r _ h hx
theorem s_idle_run {pl : Pl} {most : Nat} {σ : Si} : s_run pl (1 + s_idle pl most σ) σ = ((s_tick pl σ).1 + s_idle pl most σ, (s_tick pl σ).2) ∧ (s_moved pl σ = false → ∀ k, k < 1 + s_idle pl most σ → s_moved pl (s_run pl k σ) = false) := by
  cases h : s_moved pl σ with
  | true =>
    have e : s_idle pl most σ = 0 := by unfold s_idle; rw [h]; rfl
    rw [e]
    exact ⟨rfl, fun h => Bool.noConfusion h⟩
  | false =>
    have t0 := (s_quiet h 0 ⟨fun x _ => by omega, fun x _ => by omega⟩).1
    have t0 : s_tick pl σ = (σ.1 + 1, σ.2) := t0
    have hi : s_idle pl most σ ≤ s_dueS (s_tick pl σ) - 1 - (s_tick pl σ).1 := by unfold s_idle; rw [h]; exact Nat.min_le_right _ _
    have hgap : s_gap σ (s_idle pl most σ) := by
      rw [t0] at hi
      unfold s_dueS at hi
      dsimp only at hi
      refine ⟨fun x hx => ?_, fun x hx => ?_⟩
      · by_cases c : tM x ≤ σ.1 + 1
        · exact Or.inl c
        · have := s_due_mem (now := σ.1 + 1) σ.2.1.2.1 1000000 hx (by omega)
          exact Or.inr (by omega)
      · by_cases c : tM x ≤ σ.1 + 1
        · exact Or.inl c
        · have := s_due_mem (now := σ.1 + 1) σ.2.2.2.1 1000000 hx (by omega)
          exact Or.inr (by omega)
    obtain ⟨h1, h2⟩ := s_run_quiet h _ hgap
    rw [Nat.add_comm 1]
    refine ⟨by rw [h1, t0], fun _ k hk => h2 k (by omega)⟩
