/-! after 51 ticks without a move nothing moves -/
def s_hb (σ : Si) : Prop := (∀ x ∈ σ.2.1.2.1, tM x ≤ σ.1 + 51) ∧ ∀ x ∈ σ.2.2.2.1, tM x ≤ σ.1 + 51
theorem s_one_tm {now room sp : Nat} {x : Tx} {S : Wk} : tM (s_one now room sp x S).2.1 = tM x := by
  unfold s_one
  by_cases h0 : tK x = 0
  · rw [if_pos h0]
  · rw [if_neg h0]
    by_cases h1 : tK x = 1
    · rw [if_pos h1]
    · rw [if_neg h1]
      by_cases h2 : tK x = 2
      · rw [if_pos h2]
        by_cases c : s_cnt 3 S.1 < room
        · rw [if_pos c]
        · rw [if_neg c]
      · rw [if_neg h2]
theorem s_work_tm {now room sp : Nat} : ∀ (W : List Tx) (S : Wk), ∀ y ∈ (s_work now room sp W S).1, ∃ x ∈ W, tM y = tM x
  | [], S, y, h => absurd h List.not_mem_nil
  | x :: r, S, y, h => by
    rw [s_work] at h
    by_cases c : tM x ≤ now
    · rw [if_pos c] at h
      dsimp only at h
      cases hf : (s_one now room sp x S).1 with
      | true =>
        rw [hf, if_pos rfl] at h
        obtain ⟨z, hz, e⟩ := s_work_tm r _ y h
        exact ⟨z, List.mem_cons_of_mem _ hz, e⟩
      | false =>
        rw [hf, if_neg Bool.noConfusion] at h
        rcases List.mem_cons.mp h with h | h
        · rw [h]; exact ⟨x, List.mem_cons_self, s_one_tm⟩
        · obtain ⟨z, hz, e⟩ := s_work_tm r _ y h
          exact ⟨z, List.mem_cons_of_mem _ hz, e⟩
    · rw [if_neg c] at h
      rcases List.mem_cons.mp h with h | h
      · rw [h]; exact ⟨x, List.mem_cons_self, rfl⟩
      · obtain ⟨z, hz, e⟩ := s_work_tm r _ y h
        exact ⟨z, List.mem_cons_of_mem _ hz, e⟩
theorem s_fwd_tm {tb cr : Nat → Nat} {l : List Int32} {now : Nat} {P P1 : Po} : (s_fwd tb cr l now P P1).2.1.2.1 = P.2.1 ∧ ∀ y ∈ (s_fwd tb cr l now P P1).2.2.2.1, y ∈ P1.2.1 ∨ tM y ≤ now + 51 := by
  unfold s_fwd
  cases s_next tb cr P1.2.1 [] P.1 with
  | none => exact ⟨rfl, fun y h => Or.inl h⟩
  | some i =>
    dsimp only
    cases P.1[i]? with
    | none => exact ⟨rfl, fun y h => Or.inl h⟩
    | some x =>
      refine ⟨rfl, fun y h => ?_⟩
      rcases List.mem_append.mp h with h | h
      · exact Or.inl h
      · rw [List.mem_singleton.mp h]
        have : s_lat l x now ≤ 50 := s_cl_le _
        exact Or.inr (by show now + s_lat l x now + 1 ≤ now + 51; omega)
theorem s_hb.tick {pl : Pl} {σ : Si} (h : s_hb σ) : s_hb (s_tick pl σ) := by
  have a0 : ∀ y ∈ (s_t1 pl σ).2.1.2.1, tM y ≤ σ.1 + 51 := fun y hy => by
    obtain ⟨x, hx, e⟩ := s_work_tm _ _ y hy
    rw [e]; exact h.1 x hx
  have a1 : ∀ y ∈ (s_t1 pl σ).2.2.2.1, tM y ≤ σ.1 + 51 := fun y hy => by
    obtain ⟨x, hx, e⟩ := s_work_tm _ _ y hy
    rw [e]; exact h.2 x hx
  have f0 := s_fwd_tm (tb := pl.2.2.1) (cr := fun k => pl.2.1 (4 + k)) (l := pl.2.2.2.2.2.2.2) (now := σ.1 + 1) (P := (s_t1 pl σ).2.1) (P1 := (s_t1 pl σ).2.2)
  have f1 := s_fwd_tm (tb := pl.2.2.1) (cr := fun k => pl.2.1 (0 + k)) (l := pl.2.2.2.2.2.2.1) (now := σ.1 + 1) (P := (s_f0 pl (s_t1 pl σ)).2.2.2) (P1 := (s_f0 pl (s_t1 pl σ)).2.2.1)
  have b0 : ∀ y ∈ (s_f0 pl (s_t1 pl σ)).2.2.1.2.1, tM y ≤ σ.1 + 51 := fun y hy => by
    have e : (s_f0 pl (s_t1 pl σ)).2.2.1.2.1 = (s_t1 pl σ).2.1.2.1 := f0.1
    rw [e] at hy; exact a0 y hy
  have b1 : ∀ y ∈ (s_f0 pl (s_t1 pl σ)).2.2.2.2.1, tM y ≤ σ.1 + 52 := fun y hy => by
    rcases f0.2 y hy with h | h
    · have := a1 y h; omega
    · omega
  refine ⟨fun y hy => ?_, fun y hy => ?_⟩
  · rw [s_tick1]
    rcases f1.2 y hy with h | h
    · have := b0 y h; omega
    · omega
  · rw [s_tick1]
    have e : (s_tick pl σ).2.2.2.1 = (s_f0 pl (s_t1 pl σ)).2.2.2.2.1 := f1.1
    rw [e] at hy
    have := b1 y hy
    omega
theorem s_hb.run {pl : Pl} : ∀ (n : Nat) {σ : Si}, s_hb σ → s_hb (s_run pl n σ)
  | 0, _, h => h
  | n + 1, _, h => s_hb.run n h.tick
theorem s_inv.run {pl : Pl} (hsp : 1 ≤ pl.2.2.2.2.1) : ∀ (n : Nat) {σ : Si}, s_inv pl σ → s_inv pl (s_run pl n σ)
  | 0, _, h => h
  | n + 1, _, h => s_inv.run hsp n (h.tick hsp)
theorem s_still {pl : Pl} {σ : Si} : ∀ (n : Nat), (∀ k, k < n → s_moved pl (s_run pl k σ) = false) → s_run pl n σ = (σ.1 + n, σ.2)
  | 0, _ => rfl
  | n + 1, h => by
    have e := s_still n (fun k hk => h k (by omega))
    have q := (s_quiet (h n (by omega)) 0 ⟨fun x _ => by omega, fun x _ => by omega⟩).1
    rw [s_run_s]
    have q : s_tick pl (s_run pl n σ) = ((s_run pl n σ).1 + 1, (s_run pl n σ).2) := q
    rw [q, e]
    rfl
theorem s_rest {pl : Pl} {σ : Si} (hb : s_hb σ) (h : ∀ k, k < 51 → s_moved pl (s_run pl k σ) = false) : ∀ n, s_moved pl (s_run pl n σ) = false ∧ (s_run pl n σ).2 = σ.2 := by
  have e := s_still 50 (fun k hk => h k (by omega))
  have m := h 50 (by omega)
  have hm : ∀ n, s_moved pl (s_run pl n σ) = false := fun n => by
    by_cases c : n < 51
    · exact h n c
    · have hg : s_gap (s_run pl 50 σ) (n - 50) := by
        rw [e]
        exact ⟨fun x hx => Or.inl (by have := hb.1 x hx; show tM x ≤ σ.1 + 50 + 1; omega), fun x hx => Or.inl (by have := hb.2 x hx; show tM x ≤ σ.1 + 50 + 1; omega)⟩
      have := (s_run_quiet m (n - 50) hg).2 (n - 50) (Nat.le_refl _)
      rw [← s_run_add, show 50 + (n - 50) = n by omega] at this
      exact this
  exact fun n => ⟨hm n, by rw [s_still n (fun k _ => hm k)]⟩
/-- the last of so many ticks that moves anything -/
def s_last (pl : Pl) (σ : Si) : Nat → Nat
  | 0 => 0
  | n + 1 => if s_moved pl (s_run pl n σ) then n + 1 else s_last pl σ n
theorem s_last_le (pl : Pl) (σ : Si) : ∀ n, s_last pl σ n ≤ n
  | 0 => Nat.le_refl _
  | n + 1 => by
    rw [s_last]
    have := s_last_le pl σ n
    split <;> omega
theorem s_last_mono (pl : Pl) (σ : Si) (a : Nat) : ∀ d, s_last pl σ a ≤ s_last pl σ (a + d)
  | 0 => Nat.le_refl _
  | d + 1 => by
    have h1 := s_last_mono pl σ a d
    have h2 := s_last_le pl σ (a + d)
    rw [show a + (d + 1) = (a + d) + 1 by omega, s_last]
    split <;> omega
theorem s_last_not (pl : Pl) (σ : Si) : ∀ n k, s_last pl σ n ≤ k → k < n → s_moved pl (s_run pl k σ) = false
  | 0, k, _, h => absurd h (by omega)
  | n + 1, k, h1, h2 => by
    rw [s_last] at h1
    cases hm : s_moved pl (s_run pl n σ) with
    | true => rw [hm, if_pos rfl] at h1; omega
    | false =>
      rw [hm, if_neg Bool.noConfusion] at h1
      by_cases c : k = n
      · rw [c]; exact hm
      · exact s_last_not pl σ n k h1 (by omega)
theorem s_last_q (pl : Pl) (σ : Si) (a : Nat) : ∀ d, (∀ k, a ≤ k → k < a + d → s_moved pl (s_run pl k σ) = false) → s_last pl σ (a + d) = s_last pl σ a
  | 0, _ => rfl
  | d + 1, h => by
    rw [show a + (d + 1) = (a + d) + 1 by omega, s_last, h (a + d) (by omega) (by omega), if_neg Bool.noConfusion]
    exact s_last_q pl σ a d (fun k h1 h2 => h k h1 (by omega))
/-- the class stops at t ticks; the reference does 560 -/
theorem s_last_end {pl : Pl} {σ : Si} (hb : s_hb σ) {t : Nat} (h : s_last pl σ t + 51 ≤ t) (n : Nat) (hn : s_last pl σ t ≤ n) : s_last pl σ n = s_last pl σ t ∧ (s_run pl n σ).2 = (s_run pl t σ).2 := by
  have r := s_rest (hb.run (pl := pl) (s_last pl σ t)) (fun k hk => by rw [← s_run_add]; exact s_last_not pl σ t _ (by omega) (by omega))
  have hl : ∀ m, s_last pl σ t ≤ m → s_last pl σ m = s_last pl σ (s_last pl σ t) ∧ (s_run pl m σ).2 = (s_run pl (s_last pl σ t) σ).2 := fun m hm => by
    have e : m = s_last pl σ t + (m - s_last pl σ t) := by omega
    refine ⟨?_, ?_⟩
    · rw [e]
      refine s_last_q pl σ _ _ (fun k h1 _ => ?_)
      have := (r (k - s_last pl σ t)).1
      rw [← s_run_add, show s_last pl σ t + (k - s_last pl σ t) = k by omega] at this
      exact this
    · have := (r (m - s_last pl σ t)).2
      rw [← s_run_add, ← e] at this
      exact this
  have h1 := hl n hn
  have h2 := hl t (by omega)
  exact ⟨h1.1.trans h2.1.symm, h1.2.trans h2.2.symm⟩
theorem s_idle_same {pl : Pl} {most : Nat} {σ : Si} (j : Nat) (h : j < 1 + s_idle pl most σ) : (s_run pl j σ).2 = σ.2 := by
  by_cases c : j = 0
  · rw [c]; rfl
  · have hm : s_moved pl σ = false := by
      cases e : s_moved pl σ with
      | false => rfl
      | true => unfold s_idle at h; rw [e, if_pos rfl] at h; omega
    rw [s_still j (fun k hk => (s_idle_run (most := most)).2 hm k (by omega))]
